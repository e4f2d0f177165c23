theorem wd_144 : Cond.methodLink RX4 92 yX4_pack ∈ UW := uw (by decide +kernel) rfl
theorem wd_145 : Cond.instanceMethod yX4_pack ∈ UW := uw (by decide +kernel) rfl
theorem wd_146 : Cond.selects RX4 yX4_pack yX4_pack ∈ UW := uw (by decide +kernel) rfl
theorem wd_147 : Cond.initialized yX4_pack.cls ∈ UW := uw (by decide +kernel) rfl
theorem wd_148 : Cond.methodLink RX4 95 yX4_room ∈ UW := uw (by decide +kernel) rfl
theorem wd_149 : Cond.instanceMethod yX4_room ∈ UW := uw (by decide +kernel) rfl
theorem wd_150 : Cond.selects RX4 yX4_room yX4_room ∈ UW := uw (by decide +kernel) rfl
theorem wd_151 : Cond.initialized yX4_room.cls ∈ UW := uw (by decide +kernel) rfl
theorem wd_152 : Cond.methodLink RX4 98 yX4_free ∈ UW := uw (by decide +kernel) rfl
theorem wd_153 : Cond.instanceMethod yX4_free ∈ UW := uw (by decide +kernel) rfl
theorem wd_154 : Cond.selects RX4 yX4_free yX4_free ∈ UW := uw (by decide +kernel) rfl
theorem wd_155 : Cond.initialized yX4_free.cls ∈ UW := uw (by decide +kernel) rfl
theorem wd_156 : Cond.fieldLink RX4 22 "PackedSlotsModel" "same" "[I" ∈ UW := uw (by decide +kernel) rfl
theorem tg_inv (St Mk : Int → Int) : ∀ k : Nat, 0 ≤ (tg St Mk k).2.2.1 ∧ (tg St Mk k).2.2.1 ≤ (k : Int) ∧ (∀ j, (tg St Mk k).2.2.1 ≤ j → j < (k : Int) → (tg St Mk k).2.1 j = 0) ∧ (∀ j, (k : Int) ≤ j → (tg St Mk k).2.1 j = Mk j) ∧ (∀ j, (tg St Mk k).2.2.1 ≤ j → (tg St Mk k).1 j = St j) ∧ (∀ j, 0 ≤ j → j < (tg St Mk k).2.2.1 → (tg St Mk k).2.1 j ≠ 0) ∧ (tg St Mk k).2.2.1 + (fre Mk k).1 = (k : Int) := by
  intro k
  induction k with
  | zero => exact ⟨Int.le_refl 0, Int.le_refl 0, fun j a b => absurd b (by have a' : (0 : Int) ≤ j := a; show ¬ j < ((0 : Nat) : Int); omega), fun j _ => rfl, fun j _ => rfl, fun j a b => absurd b (by show ¬ j < 0; omega), rfl⟩
  | succ k ih =>
    rcases hp : tg St Mk k with ⟨A, B, t, v⟩
    rcases hf : fre Mk k with ⟨al, lg, rws, row⟩
    rw [hp, hf] at ih
    obtain ⟨h1, h2, h3, h4, h5, h6, h7⟩ := ih
    dsimp only at h1 h2 h3 h4 h5 h6 h7
    have hk : ((k : Int)).toNat = k := by omega
    have hk1 : ((k : Int) + 1).toNat = k + 1 := by omega
    have hp' : tg St Mk ((k : Int)).toNat = (A, B, t, v) := by rw [hk]; exact hp
    have hf' : fre Mk ((k : Int)).toNat = (al, lg, rws, row) := by rw [hk]; exact hf
    have hB := h4 (k : Int) (Int.le_refl _)
    by_cases q : B (k : Int) = 0
    · have e := tg_z (St := St) (Mk := Mk) (k := (k : Int)) (by omega) hp' q
      have e2 := fre_y (Mk := Mk) (k := (k : Int)) (by omega) hf' (by rw [← hB]; exact q)
      rw [hk1] at e e2
      rw [e, e2]
      refine ⟨h1, by push_cast; omega, fun j a b => ?_, fun j a => h4 j (by push_cast at a; omega), h5, h6, by push_cast; show t + (al + 1) = _; omega⟩
      by_cases w : j = (k : Int)
      · rw [w]; exact q
      · exact h3 j a (by push_cast at b; omega)
    · have e2 := fre_n (Mk := Mk) (k := (k : Int)) (by omega) hf' (by rw [← hB]; exact q)
      by_cases q2 : t = (k : Int)
      · have e := tg_e (St := St) (Mk := Mk) (k := (k : Int)) (by omega) hp' q q2
        rw [hk1] at e e2
        rw [e, e2]
        refine ⟨by show 0 ≤ t + 1; omega, by push_cast; show t + 1 ≤ _; omega, fun j a b => absurd a (by push_cast at b; show ¬ t + 1 ≤ j; omega), fun j a => h4 j (by push_cast at a; omega), fun j a => h5 j (by have : t + 1 ≤ j := a; omega), fun j a b => ?_, by push_cast; show t + 1 + al = _; omega⟩
        by_cases w : j = (k : Int)
        · rw [w]; exact q
        · exact h6 j a (by have : j < t + 1 := b; omega)
      · have e := tg_m (St := St) (Mk := Mk) (k := (k : Int)) (by omega) hp' q q2
        rw [hk1] at e e2
        rw [e, e2]
        refine ⟨by show 0 ≤ t + 1; omega, by push_cast; show t + 1 ≤ _; omega, fun j a b => ?_, fun j a => ?_, fun j a => ?_, fun j a b => ?_, by push_cast; show t + 1 + al = _; omega⟩
        · have a' : t + 1 ≤ j := a
          push_cast at b
          show up (up B t (B (k : Int))) (k : Int) 0 j = 0
          by_cases w : j = (k : Int)
          · rw [w]; exact up_s
          · rw [up_n w, up_n (by omega)]; exact h3 j (by omega) (by omega)
        · push_cast at a
          show up (up B t (B (k : Int))) (k : Int) 0 j = Mk j
          rw [up_n (by omega), up_n (by omega)]; exact h4 j (by omega)
        · have a' : t + 1 ≤ j := a
          show up A t (A (k : Int)) j = St j
          rw [up_n (by omega)]; exact h5 j (by omega)
        · have b' : j < t + 1 := b
          show up (up B t (B (k : Int))) (k : Int) 0 j ≠ 0
          rw [up_n (by omega)]
          by_cases w : j = t
          · rw [w, up_s]; exact q
          · rw [up_n w]; exact h6 j a (by omega)
theorem tg_vals (St Mk : Int → Int) {v : Int} (hv : v ≠ 0) (h : ∀ j, 0 ≤ j → Mk j ≠ v) : ∀ k : Nat, ∀ j, 0 ≤ j → (tg St Mk k).2.1 j ≠ v := by
  intro k
  induction k with
  | zero => exact h
  | succ k ih =>
    rcases hp : tg St Mk k with ⟨A, B, t, w⟩
    rw [hp] at ih
    have hk : ((k : Int)).toNat = k := by omega
    have hk1 : ((k : Int) + 1).toNat = k + 1 := by omega
    have hp' : tg St Mk ((k : Int)).toNat = (A, B, t, w) := by rw [hk]; exact hp
    by_cases q : B (k : Int) = 0
    · have e := tg_z (St := St) (Mk := Mk) (k := (k : Int)) (by omega) hp' q
      rw [hk1] at e; rw [e]; exact ih
    · by_cases q2 : t = (k : Int)
      · have e := tg_e (St := St) (Mk := Mk) (k := (k : Int)) (by omega) hp' q q2
        rw [hk1] at e; rw [e]; exact ih
      · have e := tg_m (St := St) (Mk := Mk) (k := (k : Int)) (by omega) hp' q q2
        rw [hk1] at e; rw [e]
        intro j a
        show up (up B t (B (k : Int))) (k : Int) 0 j ≠ v
        unfold up
        split
        · exact hv.symm
        · split
          · exact ih (k : Int) (by omega)
          · exact ih j a
theorem fre_rel (ca : Int) (Mk : Int → Int) (b : Int) (hb : 0 ≤ b) : ∀ k : Nat, (k : Int) ≤ ca → (fre (rel ca Mk b) k).1 = (fre Mk k).1 + cnt Mk (b + 1) k := by
  intro k
  induction k with
  | zero => intro _; rfl
  | succ k ih =>
    intro hc
    have h := ih (by omega)
    rcases hf : fre Mk k with ⟨al, lg, rws, row⟩
    rcases hg : fre (rel ca Mk b) k with ⟨al', lg', rws', row'⟩
    rw [hf, hg] at h
    dsimp only at h
    have hk : ((k : Int)).toNat = k := by omega
    have hk1 : ((k : Int) + 1).toNat = k + 1 := by omega
    have hf' : fre Mk ((k : Int)).toNat = (al, lg, rws, row) := by rw [hk]; exact hf
    have hg' : fre (rel ca Mk b) ((k : Int)).toNat = (al', lg', rws', row') := by rw [hk]; exact hg
    rw [cnt]
    by_cases q : Mk (k : Int) = b + 1
    · have r1 : rel ca Mk b (k : Int) = 0 := by unfold rel; rw [if_pos (by omega)]
      have e1 := fre_y (Mk := rel ca Mk b) (k := (k : Int)) (by omega) hg' r1
      have e2 := fre_n (Mk := Mk) (k := (k : Int)) (by omega) hf' (by omega)
      rw [hk1] at e1 e2
      rw [e1, e2, if_pos q]; show al' + 1 = al + _; omega
    · have r1 : rel ca Mk b (k : Int) = Mk (k : Int) := by unfold rel; rw [if_neg (by omega)]
      rw [if_neg q]
      by_cases z : Mk (k : Int) = 0
      · have e1 := fre_y (Mk := rel ca Mk b) (k := (k : Int)) (by omega) hg' (by rw [r1]; exact z)
        have e2 := fre_y (Mk := Mk) (k := (k : Int)) (by omega) hf' z
        rw [hk1] at e1 e2
        rw [e1, e2]; show al' + 1 = al + 1 + _; omega
      · have e1 := fre_n (Mk := rel ca Mk b) (k := (k : Int)) (by omega) hg' (by rw [r1]; exact z)
        have e2 := fre_n (Mk := Mk) (k := (k : Int)) (by omega) hf' z
        rw [hk1] at e1 e2
        rw [e1, e2]; exact h
theorem zc_step (Mk : Int → Int) (b : Int) (hb : 0 ≤ b) (k : Nat) : (isF Mk b (k : Int) → (fre Mk (k + 1)).1 + cnt Mk (b + 1) (k + 1) = (fre Mk k).1 + cnt Mk (b + 1) k + 1) ∧ ((fre Mk k).1 + cnt Mk (b + 1) k ≤ (fre Mk (k + 1)).1 + cnt Mk (b + 1) (k + 1)) := by
  rcases hf : fre Mk k with ⟨al, lg, rws, row⟩
  have hk : ((k : Int)).toNat = k := by omega
  have hk1 : ((k : Int) + 1).toNat = k + 1 := by omega
  have hf' : fre Mk ((k : Int)).toNat = (al, lg, rws, row) := by rw [hk]; exact hf
  rw [cnt]
  by_cases z : Mk (k : Int) = 0
  · have e2 := fre_y (Mk := Mk) (k := (k : Int)) (by omega) hf' z
    rw [hk1] at e2
    rw [e2, if_neg (show ¬ Mk (k : Int) = b + 1 by omega)]
    dsimp only
    exact ⟨fun _ => by omega, by omega⟩
  · have e2 := fre_n (Mk := Mk) (k := (k : Int)) (by omega) hf' z
    rw [hk1] at e2
    rw [e2]
    dsimp only
    by_cases q : Mk (k : Int) = b + 1
    · rw [if_pos q]; exact ⟨fun _ => by omega, by omega⟩
    · rw [if_neg q]; exact ⟨fun g => absurd g (by unfold isF; omega), by omega⟩
theorem zc_mono (Mk : Int → Int) (b : Int) (hb : 0 ≤ b) (k : Nat) : ∀ d : Nat, (fre Mk k).1 + cnt Mk (b + 1) k ≤ (fre Mk (k + d)).1 + cnt Mk (b + 1) (k + d) := by
  intro d
  induction d with
  | zero => exact Int.le_refl _
  | succ d ih => have := (zc_step Mk b hb (k + d)).2; rw [show k + (d + 1) = k + d + 1 by omega]; omega
theorem zc_run (Mk : Int → Int) (b : Int) (hb : 0 ≤ b) (k : Nat) : ∀ d : Nat, (∀ j : Int, (k : Int) ≤ j → j < (k : Int) + (d : Int) → isF Mk b j) → (fre Mk (k + d)).1 + cnt Mk (b + 1) (k + d) = (fre Mk k).1 + cnt Mk (b + 1) k + (d : Int) := by
  intro d
  induction d with
  | zero => intro _; show _ = _ + (0 : Int); rw [Int.add_zero]; rfl
  | succ d ih =>
    intro h
    have h1 := ih (fun j a c => h j a (by push_cast; omega))
    have h2 := (zc_step Mk b hb (k + d)).1 (h _ (by push_cast; omega) (by push_cast; omega))
    rw [show k + (d + 1) = k + d + 1 by omega, h2, h1]; push_cast; omega
theorem zc_pos (Mk : Int → Int) (b : Int) (hb : 0 ≤ b) (k : Nat) : 0 ≤ (fre Mk k).1 + cnt Mk (b + 1) k := by
  have := zc_mono Mk b hb 0 k
  rw [show 0 + k = k by omega] at this
  have e : (fre Mk 0).1 + cnt Mk (b + 1) 0 = 0 := rfl
  omega
theorem room_free {Mk : Int → Int} {b ca n x : Int} (hb : 0 ≤ b) (hn : 0 ≤ n) (h : roomAt Mk b ca n x) : n ≤ (fre Mk ca.toNat).1 + cnt Mk (b + 1) ca.toNat := by
  obtain ⟨h1, h2, h3, _⟩ := h
  have e1 := zc_run Mk b hb x.toNat n.toNat (fun j a c => h3 j (by omega) (by omega))
  have e2 := zc_mono Mk b hb (x.toNat + n.toNat) (ca.toNat - (x.toNat + n.toNat))
  have e3 := zc_pos Mk b hb x.toNat
  rw [show x.toNat + n.toNat + (ca.toNat - (x.toNat + n.toNat)) = ca.toNat by omega] at e2
  omega
theorem room_uniq {Mk : Int → Int} {b ca n x y : Int} (h : roomAt Mk b ca n x) (g : roomAt Mk b ca n y) : x = y := by
  obtain ⟨h1, h2, h3, h4⟩ := h
  obtain ⟨g1, g2, g3, g4⟩ := g
  rcases Int.lt_trichotomy x y with w | w | w
  · obtain ⟨j, a, c, d⟩ := g4 x h1 w
    exact absurd (h3 j a c) d
  · exact w
  · obtain ⟨j, a, c, d⟩ := h4 y g1 w
    exact absurd (g3 j a c) d
theorem room_no {Mk : Int → Int} {b ca n x : Int} (h : roomAt Mk b ca n x) (g : noRoom Mk b ca n) : False := by
  obtain ⟨h1, h2, h3, _⟩ := h
  obtain ⟨j, a, c, d⟩ := g x h1 h2
  exact d (h3 j a c)
theorem tg_room {St Mk : Int → Int} {b ca n : Int} (hb : 0 ≤ b) (hc : 0 ≤ ca) (hn : 1 ≤ n) (hM : ∀ j, 0 ≤ j → Mk j ≠ b + 1) (hf : n ≤ (fre Mk ca.toNat).1) : roomAt (tg St Mk ca.toNat).2.1 b ca n (tg St Mk ca.toNat).2.2.1 := by
  obtain ⟨h1, h2, h3, h4, h5, h6, h7⟩ := tg_inv St Mk ca.toNat
  have hv := tg_vals St Mk (v := b + 1) (by omega) hM ca.toNat
  refine ⟨h1, by omega, fun j a c => Or.inl (h3 j a (by omega)), fun q a c => ⟨q, Int.le_refl q, by omega, fun g => g.elim (h6 q a c) (hv q a)⟩⟩
theorem rel_ne {ca : Int} {Mk : Int → Int} {b : Int} (hb : 0 ≤ b) (h : ∀ j, ca ≤ j → Mk j = 0) : ∀ j, 0 ≤ j → rel ca Mk b j ≠ b + 1 := by
  intro j a
  unfold rel
  by_cases q : 0 ≤ j ∧ j < ca ∧ Mk j = b + 1
  · rw [if_pos q]; omega
  · rw [if_neg q]
    by_cases w : j < ca
    · omega
    · rw [h j (by omega)]; omega
theorem mkR_rel {ca : Int} {Mk : Int → Int} {b : Int} (h : mkR Mk) : mkR (rel ca Mk b) := fun k a c => by
  unfold rel; split
  · omega
  · exact h k a c
def wrSpec (ca : Int) (B St Mk K Sm : Int → Int) (V : (Int → Int) × Int) (b r : Int) (St2 Mk2 K2 Sm2 : Int → Int) : Prop :=
  ((b < 0 ∨ 32 ≤ b) ∧ r = -11 ∧ St2 = St ∧ Mk2 = Mk ∧ K2 = K ∧ Sm2 = Sm) ∨
  (0 ≤ b ∧ b < 32 ∧ (∀ k, 0 ≤ k → k < 256 → B k = B 0) ∧ r = 0 ∧ St2 = St ∧ Mk2 = rel ca Mk b ∧ K2 = up K b 1 ∧ Sm2 = up Sm b (B 0)) ∨
  (0 ≤ b ∧ b < 32 ∧ (∃ k, 0 ≤ k ∧ k < 256 ∧ B k ≠ B 0) ∧ ∃ (n kd : Int) (src : Int → Int), ((V.2 < 256 ∧ n = V.2 ∧ kd = 2 ∧ src = V.1) ∨ (256 ≤ V.2 ∧ n = 256 ∧ kd = 3 ∧ src = B)) ∧ Sm2 = Sm ∧
    ((r = -14 ∧ (fre Mk ca.toNat).1 + cnt Mk (b + 1) ca.toNat < n ∧ St2 = St ∧ Mk2 = Mk ∧ K2 = K) ∨
     (r = n ∧ n ≤ (fre Mk ca.toNat).1 + cnt Mk (b + 1) ca.toNat ∧ K2 = up K b kd ∧ ∃ x, roomAt Mk b ca n x ∧ Mk2 = rnf (rel ca Mk b) x n (b + 1) ∧ St2 = cp src St 0 x n) ∨
     (r = n ∧ n ≤ (fre Mk ca.toNat).1 + cnt Mk (b + 1) ca.toNat ∧ K2 = up K b kd ∧ noRoom Mk b ca n ∧ Mk2 = rnf (tg St (rel ca Mk b) ca.toNat).2.1 (tg St (rel ca Mk b) ca.toNat).2.2.1 n (b + 1) ∧ St2 = cp src (tg St (rel ca Mk b) ca.toNat).1 0 (tg St (rel ca Mk b) ca.toNat).2.2.1 n)))
set_option maxHeartbeats 4000000 in
set_option maxRecDepth 100000 in
theorem c_X4_write (l : Launch) (D : va_G) (cA : ClassId) (y : Nat) (mb : Nat) (ms : Nat) (mm : Nat) (mf : Nat) (mz : Nat) (mt : Nat) (mp : Nat) (mq : Nat) (mo : Nat) (ca : Int) (my : Int) (me : Int) (mn : Int) (mi : Int) (ma : Int) (mu : Int) (mw : Int) (Mk : Int → Int) (St : Int → Int) (K : Int → Int) (Sm : Int → Int) (B : Int → Int) (PO : Int → Int) (b : Int) (hca : 0 ≤ ca ∧ ca ≤ 4096) (hMk : mkR Mk) (hMo : ∀ j, ca ≤ j → Mk j = 0) (hB : byR 256 B) (hb : iB b) : Ci l D vwCl cA yX4_write (.code yX4_write cX4_write 7 (some .int) :: UW) ({ frames := 4, cells := 0, slots := 0, locals := 96 }) 0 0 [.ref y, .int (iI b)] [(y, .inr (4, [.int (iI ca), .ref mb, .ref ms, .ref mm, .ref mf, .ref mz, .int (iI my), .ref mt, .int (iI me), .int (iI mn), .ref mp, .int (iI mi), .ref mq, .int (iI ma), .int (iI mu), .ref mo, .int (iI mw)])), (mm, aE cA 4096 Mk), (ms, aE cA 4096 St), (mf, aE cA 32 K), (mz, aE cA 32 Sm), (mb, aE cA 256 B), (mp, aE cA 600 PO)] (fun (r : Int) (w : va_W) => ∃ (V : (Int → Int) × Int) (St2 : Int → Int) (Mk2 : Int → Int) (K2 : Int → Int) (Sm2 : Int → Int), wrSpec ca B St Mk K Sm (packF B 300 (PO, 0) 0 0) b r St2 Mk2 K2 Sm2 ∧ w = [(y, .inr (4, [.int (iI ca), .ref mb, .ref ms, .ref mm, .ref mf, .ref mz, .int (iI my), .ref mt, .int (iI me), .int (iI V.2), .ref mp, .int (iI mi), .ref mq, .int (iI ma), .int (iI mu), .ref mo, .int (iI mw)])), (mm, aE cA 4096 Mk2), (ms, aE cA 4096 St2), (mf, aE cA 32 K2), (mz, aE cA 32 Sm2), (mb, aE cA 256 B), (mp, aE cA 600 V.1)]) := by
  refine Ci.mk (by decide) (Nat.le_of_ble_eq_true rfl) ?_
  intro p e s m args below meth c A E
  refine GG.lvs (lv' := [(0, .ref y), (1, .int (iI b))]) [0, 1] rfl ?_
  refine g_aload_n E dX4_write_0 rfl 0 rfl ?_
  refine g_iload_n E dX4_write_1 rfl 1 rfl ?_
  refine g_callV (n := 1) (As := [.int (iI b)]) (rest := []) (wr := [(mm, aE cA 4096 Mk), (ms, aE cA 4096 St), (mf, aE cA 32 K), (mz, aE cA 32 Sm), (mb, aE cA 256 B), (mp, aE cA 600 PO)]) E dX4_write_2 (c_X4_isBlock l D cA y mb ms mm mf mz mt mp mq mo ca my me mn mi ma mu mw b (by omega)) wd_code_X4_isBlock wd_123 wd_124 wd_125 wd_126 (by decide +kernel) ⟨⟨rfl, rfl⟩, ⟨(Nat.le_of_ble_eq_true rfl), (Nat.le_of_ble_eq_true rfl)⟩, ⟨(Nat.le_of_ble_eq_true rfl), (Nat.le_of_ble_eq_true rfl)⟩⟩ [0] [1, 2, 3, 4, 5, 6] rfl rfl (by decide) 0 rfl rfl rfl rfl (Nat.le_of_ble_eq_true rfl) (fun z_2 w_2 hw_2 => ?_)
  obtain ⟨h_2, rfl⟩ := hw_2
  refine GG.wss (ws' := [(y, .inr (4, [.int (iI ca), .ref mb, .ref ms, .ref mm, .ref mf, .ref mz, .int (iI my), .ref mt, .int (iI me), .int (iI mn), .ref mp, .int (iI mi), .ref mq, .int (iI ma), .int (iI mu), .ref mo, .int (iI mw)])), (mm, aE cA 4096 Mk), (ms, aE cA 4096 St), (mf, aE cA 32 K), (mz, aE cA 32 Sm), (mb, aE cA 256 B), (mp, aE cA 600 PO)]) [6, 0, 1, 2, 3, 4, 5] (by decide) rfl ?_
  refine g_if_ne (tgt := 11) E dX4_write_5 (by decide) ⟨(by omega), (by omega)⟩ (fun c_5 => ?_) (fun c_5 => ?_)
  · skip
    have hbb : 0 ≤ b ∧ b < 32 := by omega
    refine g_iconst E dX4_write_11 ?_
    refine g_istore_n (lv' := [(2, .int (iI 1)), (0, .ref y), (1, .int (iI b))]) E dX4_write_12 rfl (by decide) rfl ?_
    refine g_iconst E dX4_write_13 ?_
    refine g_istore_n (lv' := [(3, .int (iI 1)), (2, .int (iI 1)), (0, .ref y), (1, .int (iI b))]) E dX4_write_14 rfl (by decide) rfl ?_
    have L15 : ∀ (fu15 : Nat) (one : Int) (k : Int), 1 ≤ k ∧ k ≤ 256 → ((one = 1 ∧ ∀ j, 0 ≤ j → j < k → B j = B 0) ∨ (one = 0 ∧ ∃ j, 0 ≤ j ∧ j < 256 ∧ B j ≠ B 0)) → one = 0 ∨ one = 1 → (256 - k) < (fu15 : Int) → GG p l e ({ frames := 4, cells := 0, slots := 0, locals := 96 }) s m args below meth c D vwCl A 7 (QI D vwCl cA A below args s 0 0 (fun (r : Int) (w : va_W) => ∃ (V : (Int → Int) × Int) (St2 : Int → Int) (Mk2 : Int → Int) (K2 : Int → Int) (Sm2 : Int → Int), wrSpec ca B St Mk K Sm (packF B 300 (PO, 0) 0 0) b r St2 Mk2 K2 Sm2 ∧ w = [(y, .inr (4, [.int (iI ca), .ref mb, .ref ms, .ref mm, .ref mf, .ref mz, .int (iI my), .ref mt, .int (iI me), .int (iI V.2), .ref mp, .int (iI mi), .ref mq, .int (iI ma), .int (iI mu), .ref mo, .int (iI mw)])), (mm, aE cA 4096 Mk2), (ms, aE cA 4096 St2), (mf, aE cA 32 K2), (mz, aE cA 32 Sm2), (mb, aE cA 256 B), (mp, aE cA 600 V.1)])) 0 0 [(y, .inr (4, [.int (iI ca), .ref mb, .ref ms, .ref mm, .ref mf, .ref mz, .int (iI my), .ref mt, .int (iI me), .int (iI mn), .ref mp, .int (iI mi), .ref mq, .int (iI ma), .int (iI mu), .ref mo, .int (iI mw)])), (mm, aE cA 4096 Mk), (ms, aE cA 4096 St), (mf, aE cA 32 K), (mz, aE cA 32 Sm), (mb, aE cA 256 B), (mp, aE cA 600 PO)] [(0, .ref y), (1, .int (iI b)), (2, .int (iI one)), (3, .int (iI k))] 15 [] := by
      intro fu15
      induction fu15 with
      | zero => intro one k hk ho ho2 hmu15; exfalso; omega
      | succ fu15 ih15 =>
        intro one k hk ho ho2 hmu15
        refine g_iload_n E dX4_write_15 rfl 3 rfl ?_
        refine g_sipush E dX4_write_16 (by decide) ?_
        refine g_icmp_ge (tgt := 53) E dX4_write_19 (by decide) ⟨(by omega), (by omega)⟩ ⟨(by omega), (by omega)⟩ (fun c_19 => ?_) (fun c_19 => ?_)
        · skip
          refine g_iload_n E dX4_write_53 rfl 2 rfl ?_
          refine g_if_eq (tgt := 83) E dX4_write_54 (by decide) ⟨(by omega), (by omega)⟩ (fun c_54 => ?_) (fun c_54 => ?_)
          · skip
            have hex : ∃ j, 0 ≤ j ∧ j < 256 ∧ B j ≠ B 0 := ho.elim (fun g => absurd g.1 (by omega)) (fun g => g.2)
            clear ho
            refine g_aload_n E dX4_write_83 rfl 0 rfl ?_
            refine g_callVv (n := 0) (As := []) (rest := []) (wr := [(mm, aE cA 4096 Mk), (ms, aE cA 4096 St), (mf, aE cA 32 K), (mz, aE cA 32 Sm)]) E dX4_write_84 (c_X4_pack l D cA y mb ms mm mf mz mt mp mq mo ca my me mn mi ma mu mw PO B (by exact hB)) wd_code_X4_pack wd_144 wd_145 wd_146 wd_147 (by decide +kernel) ⟨⟨rfl, rfl⟩, ⟨(Nat.le_of_ble_eq_true rfl), (Nat.le_of_ble_eq_true rfl)⟩, ⟨(Nat.le_of_ble_eq_true rfl), (Nat.le_of_ble_eq_true rfl)⟩⟩ [0, 6, 5] [1, 2, 3, 4] rfl rfl (by decide) 0 rfl rfl rfl rfl (Nat.le_of_ble_eq_true rfl) (fun w_84 hw_84 => ?_)
            obtain ⟨V_84, hV_84, hV2_84, rfl⟩ := hw_84
            refine GG.wss (ws' := [(y, .inr (4, [.int (iI ca), .ref mb, .ref ms, .ref mm, .ref mf, .ref mz, .int (iI my), .ref mt, .int (iI me), .int (iI V_84.2), .ref mp, .int (iI mi), .ref mq, .int (iI ma), .int (iI mu), .ref mo, .int (iI mw)])), (mm, aE cA 4096 Mk), (ms, aE cA 4096 St), (mf, aE cA 32 K), (mz, aE cA 32 Sm), (mb, aE cA 256 B), (mp, aE cA 600 V_84.1)]) [4, 0, 1, 2, 3, 6, 5] (by decide) rfl ?_
            have L119 : ∀ (fl : Int) (n : Int), (V_84.2 < 256 ∧ fl = 1 ∧ n = V_84.2) ∨ (256 ≤ V_84.2 ∧ fl = 0 ∧ n = 256) → GG p l e ({ frames := 4, cells := 0, slots := 0, locals := 96 }) s m args below meth c D vwCl A 7 (QI D vwCl cA A below args s 0 0 (fun (r : Int) (w : va_W) => ∃ (V : (Int → Int) × Int) (St2 : Int → Int) (Mk2 : Int → Int) (K2 : Int → Int) (Sm2 : Int → Int), wrSpec ca B St Mk K Sm (packF B 300 (PO, 0) 0 0) b r St2 Mk2 K2 Sm2 ∧ w = [(y, .inr (4, [.int (iI ca), .ref mb, .ref ms, .ref mm, .ref mf, .ref mz, .int (iI my), .ref mt, .int (iI me), .int (iI V.2), .ref mp, .int (iI mi), .ref mq, .int (iI ma), .int (iI mu), .ref mo, .int (iI mw)])), (mm, aE cA 4096 Mk2), (ms, aE cA 4096 St2), (mf, aE cA 32 K2), (mz, aE cA 32 Sm2), (mb, aE cA 256 B), (mp, aE cA 600 V.1)])) 0 0 [(y, .inr (4, [.int (iI ca), .ref mb, .ref ms, .ref mm, .ref mf, .ref mz, .int (iI my), .ref mt, .int (iI me), .int (iI V_84.2), .ref mp, .int (iI mi), .ref mq, .int (iI ma), .int (iI mu), .ref mo, .int (iI mw)])), (mm, aE cA 4096 Mk), (ms, aE cA 4096 St), (mf, aE cA 32 K), (mz, aE cA 32 Sm), (mb, aE cA 256 B), (mp, aE cA 600 V_84.1)] [(0, .ref y), (1, .int (iI b)), (3, .int (iI fl)), (4, .int (iI n))] 119 [] := by
              intro fl n hfn
              refine g_aload_n E dX4_write_119 rfl 0 rfl ?_
              refine g_iload E dX4_write_120 3 rfl ?_
              refine g_iload_n E dX4_write_122 rfl 1 rfl ?_
              refine g_callV (n := 2) (As := [.int (iI n), .int (iI b)]) (rest := []) (wr := [(ms, aE cA 4096 St), (mf, aE cA 32 K), (mz, aE cA 32 Sm), (mb, aE cA 256 B), (mp, aE cA 600 V_84.1)]) E dX4_write_123 (c_X4_room l D cA y mb ms mm mf mz mt mp mq mo ca my me V_84.2 mi ma mu mw Mk n b (by omega) (by exact hMk) (by omega) (by omega)) wd_code_X4_room wd_148 wd_149 wd_150 wd_151 (by decide +kernel) ⟨⟨rfl, rfl⟩, ⟨(Nat.le_of_ble_eq_true rfl), (Nat.le_of_ble_eq_true rfl)⟩, ⟨(Nat.le_of_ble_eq_true rfl), (Nat.le_of_ble_eq_true rfl)⟩⟩ [0, 1] [2, 3, 4, 5, 6] rfl rfl (by decide) 0 rfl rfl rfl rfl (Nat.le_of_ble_eq_true rfl) (fun z_123 w_123 hw_123 => ?_)
              obtain ⟨hp_123, hr_123, rfl⟩ := hw_123
              refine GG.wss (ws' := [(y, .inr (4, [.int (iI ca), .ref mb, .ref ms, .ref mm, .ref mf, .ref mz, .int (iI my), .ref mt, .int (iI me), .int (iI V_84.2), .ref mp, .int (iI mi), .ref mq, .int (iI ma), .int (iI mu), .ref mo, .int (iI mw)])), (mm, aE cA 4096 Mk), (ms, aE cA 4096 St), (mf, aE cA 32 K), (mz, aE cA 32 Sm), (mb, aE cA 256 B), (mp, aE cA 600 V_84.1)]) [5, 6, 0, 1, 2, 3, 4] (by decide) rfl ?_
              refine g_istore (lv' := [(5, .int (iI z_123)), (0, .ref y), (1, .int (iI b)), (3, .int (iI fl)), (4, .int (iI n))]) E dX4_write_126 (by decide) rfl ?_
              have L152 : ∀ (x : Int), (0 ≤ x ∧ roomAt Mk b ca n x) ∨ (x = -1 ∧ noRoom Mk b ca n) → n ≤ (fre Mk ca.toNat).1 + cnt Mk (b + 1) ca.toNat → -1 ≤ x ∧ x ≤ ca → GG p l e ({ frames := 4, cells := 0, slots := 0, locals := 96 }) s m args below meth c D vwCl A 7 (QI D vwCl cA A below args s 0 0 (fun (r : Int) (w : va_W) => ∃ (V : (Int → Int) × Int) (St2 : Int → Int) (Mk2 : Int → Int) (K2 : Int → Int) (Sm2 : Int → Int), wrSpec ca B St Mk K Sm (packF B 300 (PO, 0) 0 0) b r St2 Mk2 K2 Sm2 ∧ w = [(y, .inr (4, [.int (iI ca), .ref mb, .ref ms, .ref mm, .ref mf, .ref mz, .int (iI my), .ref mt, .int (iI me), .int (iI V.2), .ref mp, .int (iI mi), .ref mq, .int (iI ma), .int (iI mu), .ref mo, .int (iI mw)])), (mm, aE cA 4096 Mk2), (ms, aE cA 4096 St2), (mf, aE cA 32 K2), (mz, aE cA 32 Sm2), (mb, aE cA 256 B), (mp, aE cA 600 V.1)])) 0 0 [(y, .inr (4, [.int (iI ca), .ref mb, .ref ms, .ref mm, .ref mf, .ref mz, .int (iI my), .ref mt, .int (iI me), .int (iI V_84.2), .ref mp, .int (iI mi), .ref mq, .int (iI ma), .int (iI mu), .ref mo, .int (iI mw)])), (mm, aE cA 4096 Mk), (ms, aE cA 4096 St), (mf, aE cA 32 K), (mz, aE cA 32 Sm), (mb, aE cA 256 B), (mp, aE cA 600 V_84.1)] [(0, .ref y), (1, .int (iI b)), (3, .int (iI fl)), (4, .int (iI n)), (5, .int (iI x))] 152 [] := by
                intro x hx hfc hxb
                refine g_aload_n E dX4_write_152 rfl 0 rfl ?_
                refine g_iload_n E dX4_write_153 rfl 1 rfl ?_
                refine g_callVv (n := 1) (As := [.int (iI b)]) (rest := []) (wr := [(ms, aE cA 4096 St), (mf, aE cA 32 K), (mz, aE cA 32 Sm), (mb, aE cA 256 B), (mp, aE cA 600 V_84.1)]) E dX4_write_154 (c_X4_release l D cA y mb ms mm mf mz mt mp mq mo ca my me V_84.2 mi ma mu mw Mk b (by omega) (by exact hMk) (by omega)) wd_code_X4_release wd_131 wd_132 wd_133 wd_134 (by decide +kernel) ⟨⟨rfl, rfl⟩, ⟨(Nat.le_of_ble_eq_true rfl), (Nat.le_of_ble_eq_true rfl)⟩, ⟨(Nat.le_of_ble_eq_true rfl), (Nat.le_of_ble_eq_true rfl)⟩⟩ [0, 1] [2, 3, 4, 5, 6] rfl rfl (by decide) 0 rfl rfl rfl rfl (Nat.le_of_ble_eq_true rfl) (fun w_154 hw_154 => ?_)
                subst hw_154
                refine GG.wss (ws' := [(y, .inr (4, [.int (iI ca), .ref mb, .ref ms, .ref mm, .ref mf, .ref mz, .int (iI my), .ref mt, .int (iI me), .int (iI V_84.2), .ref mp, .int (iI mi), .ref mq, .int (iI ma), .int (iI mu), .ref mo, .int (iI mw)])), (mm, aE cA 4096 (rel ca Mk b)), (ms, aE cA 4096 St), (mf, aE cA 32 K), (mz, aE cA 32 Sm), (mb, aE cA 256 B), (mp, aE cA 600 V_84.1)]) [5, 6, 0, 1, 2, 3, 4] (by decide) rfl ?_
                have L177 : ∀ (x2 : Int) (H0 : Int → Int) (G0 : Int → Int), 0 ≤ x2 ∧ x2 + n ≤ ca → (roomAt Mk b ca n x2 ∧ H0 = rel ca Mk b ∧ G0 = St) ∨ (noRoom Mk b ca n ∧ x2 = (tg St (rel ca Mk b) ca.toNat).2.2.1 ∧ H0 = (tg St (rel ca Mk b) ca.toNat).2.1 ∧ G0 = (tg St (rel ca Mk b) ca.toNat).1) → GG p l e ({ frames := 4, cells := 0, slots := 0, locals := 96 }) s m args below meth c D vwCl A 7 (QI D vwCl cA A below args s 0 0 (fun (r : Int) (w : va_W) => ∃ (V : (Int → Int) × Int) (St2 : Int → Int) (Mk2 : Int → Int) (K2 : Int → Int) (Sm2 : Int → Int), wrSpec ca B St Mk K Sm (packF B 300 (PO, 0) 0 0) b r St2 Mk2 K2 Sm2 ∧ w = [(y, .inr (4, [.int (iI ca), .ref mb, .ref ms, .ref mm, .ref mf, .ref mz, .int (iI my), .ref mt, .int (iI me), .int (iI V.2), .ref mp, .int (iI mi), .ref mq, .int (iI ma), .int (iI mu), .ref mo, .int (iI mw)])), (mm, aE cA 4096 Mk2), (ms, aE cA 4096 St2), (mf, aE cA 32 K2), (mz, aE cA 32 Sm2), (mb, aE cA 256 B), (mp, aE cA 600 V.1)])) 0 0 [(y, .inr (4, [.int (iI ca), .ref mb, .ref ms, .ref mm, .ref mf, .ref mz, .int (iI my), .ref mt, .int (iI me), .int (iI V_84.2), .ref mp, .int (iI mi), .ref mq, .int (iI ma), .int (iI mu), .ref mo, .int (iI mw)])), (mm, aE cA 4096 H0), (ms, aE cA 4096 G0), (mf, aE cA 32 K), (mz, aE cA 32 Sm), (mb, aE cA 256 B), (mp, aE cA 600 V_84.1)] [(0, .ref y), (1, .int (iI b)), (3, .int (iI fl)), (4, .int (iI n)), (5, .int (iI x2))] 177 [] := by
                  intro x2 H0 G0 hx2 hfin
                  obtain ⟨src, hsrc⟩ : ∃ q : Int → Int, (fl = 1 ∧ q = V_84.1) ∨ (fl = 0 ∧ q = B) := hfn.elim (fun g => ⟨V_84.1, Or.inl ⟨g.2.1, rfl⟩⟩) (fun g => ⟨B, Or.inr ⟨g.2.1, rfl⟩⟩)
                  refine g_iconst E dX4_write_177 ?_
                  refine g_istore (lv' := [(6, .int (iI 0)), (0, .ref y), (1, .int (iI b)), (3, .int (iI fl)), (4, .int (iI n)), (5, .int (iI x2))]) E dX4_write_178 (by decide) rfl ?_
                  have L180 : ∀ (fu180 : Nat) (j : Int) (H : Int → Int) (G : Int → Int), 0 ≤ j ∧ j ≤ n → G = cp src G0 0 x2 j → H = rnf H0 x2 j (b + 1) → (n - j) < (fu180 : Int) → GG p l e ({ frames := 4, cells := 0, slots := 0, locals := 96 }) s m args below meth c D vwCl A 7 (QI D vwCl cA A below args s 0 0 (fun (r : Int) (w : va_W) => ∃ (V : (Int → Int) × Int) (St2 : Int → Int) (Mk2 : Int → Int) (K2 : Int → Int) (Sm2 : Int → Int), wrSpec ca B St Mk K Sm (packF B 300 (PO, 0) 0 0) b r St2 Mk2 K2 Sm2 ∧ w = [(y, .inr (4, [.int (iI ca), .ref mb, .ref ms, .ref mm, .ref mf, .ref mz, .int (iI my), .ref mt, .int (iI me), .int (iI V.2), .ref mp, .int (iI mi), .ref mq, .int (iI ma), .int (iI mu), .ref mo, .int (iI mw)])), (mm, aE cA 4096 Mk2), (ms, aE cA 4096 St2), (mf, aE cA 32 K2), (mz, aE cA 32 Sm2), (mb, aE cA 256 B), (mp, aE cA 600 V.1)])) 0 0 [(y, .inr (4, [.int (iI ca), .ref mb, .ref ms, .ref mm, .ref mf, .ref mz, .int (iI my), .ref mt, .int (iI me), .int (iI V_84.2), .ref mp, .int (iI mi), .ref mq, .int (iI ma), .int (iI mu), .ref mo, .int (iI mw)])), (mm, aE cA 4096 H), (ms, aE cA 4096 G), (mf, aE cA 32 K), (mz, aE cA 32 Sm), (mb, aE cA 256 B), (mp, aE cA 600 V_84.1)] [(0, .ref y), (1, .int (iI b)), (3, .int (iI fl)), (4, .int (iI n)), (5, .int (iI x2)), (6, .int (iI j))] 180 [] := by
                    intro fu180
                    induction fu180 with
                    | zero => intro j H G hj hG hH hmu180; exfalso; omega
                    | succ fu180 ih180 =>
                      intro j H G hj hG hH hmu180
                      refine g_iload E dX4_write_180 5 rfl ?_
                      refine g_iload E dX4_write_182 3 rfl ?_
                      refine g_icmp_ge (tgt := 237) E dX4_write_184 (by decide) ⟨(by omega), (by omega)⟩ ⟨(by omega), (by omega)⟩ (fun c_184 => ?_) (fun c_184 => ?_)
                      · skip
                        have L251 : ∀ (kd : Int), (V_84.2 < 256 ∧ kd = 2) ∨ (256 ≤ V_84.2 ∧ kd = 3) → GG p l e ({ frames := 4, cells := 0, slots := 0, locals := 96 }) s m args below meth c D vwCl A 7 (QI D vwCl cA A below args s 0 0 (fun (r : Int) (w : va_W) => ∃ (V : (Int → Int) × Int) (St2 : Int → Int) (Mk2 : Int → Int) (K2 : Int → Int) (Sm2 : Int → Int), wrSpec ca B St Mk K Sm (packF B 300 (PO, 0) 0 0) b r St2 Mk2 K2 Sm2 ∧ w = [(y, .inr (4, [.int (iI ca), .ref mb, .ref ms, .ref mm, .ref mf, .ref mz, .int (iI my), .ref mt, .int (iI me), .int (iI V.2), .ref mp, .int (iI mi), .ref mq, .int (iI ma), .int (iI mu), .ref mo, .int (iI mw)])), (mm, aE cA 4096 Mk2), (ms, aE cA 4096 St2), (mf, aE cA 32 K2), (mz, aE cA 32 Sm2), (mb, aE cA 256 B), (mp, aE cA 600 V.1)])) 0 0 [(y, .inr (4, [.int (iI ca), .ref mb, .ref ms, .ref mm, .ref mf, .ref mz, .int (iI my), .ref mt, .int (iI me), .int (iI V_84.2), .ref mp, .int (iI mi), .ref mq, .int (iI ma), .int (iI mu), .ref mo, .int (iI mw)])), (mm, aE cA 4096 H), (ms, aE cA 4096 G), (mf, aE cA 32 K), (mz, aE cA 32 Sm), (mb, aE cA 256 B), (mp, aE cA 600 V_84.1)] [(0, .ref y), (4, .int (iI n))] 251 [.int (iI kd), .int (iI b), .ref mf] := by
                          intro kd hkd
                          refine g_iastore (ws' := [(y, .inr (4, [.int (iI ca), .ref mb, .ref ms, .ref mm, .ref mf, .ref mz, .int (iI my), .ref mt, .int (iI me), .int (iI V_84.2), .ref mp, .int (iI mi), .ref mq, .int (iI ma), .int (iI mu), .ref mo, .int (iI mw)])), (mm, aE cA 4096 H), (ms, aE cA 4096 G), (mf, aE cA 32 (up K b kd)), (mz, aE cA 32 Sm), (mb, aE cA 256 B), (mp, aE cA 600 V_84.1)]) E dX4_write_251 3 rfl (by omega) (by omega) (by omega) rfl ?_
                          refine g_iload E dX4_write_252 1 rfl ?_
                          refine g_ireturn E dX4_write_254 ?_
                          have hjn : j = n := by omega
                          rw [hjn] at hG hH
                          refine ⟨V_84, G, H, up K b kd, Sm, Or.inr (Or.inr ⟨hbb.1, hbb.2, hex, n, kd, src, ?_, rfl, Or.inr ?_⟩), rfl⟩
                          · rw [← hV_84]; exact hfn.elim (fun g => Or.inl ⟨g.1, g.2.2, by omega, hsrc.elim (fun q => q.2) (fun q => absurd q.1 (by omega))⟩) (fun g => Or.inr ⟨g.1, g.2.2, by omega, hsrc.elim (fun q => absurd q.1 (by omega)) (fun q => q.2)⟩)
                          · exact hfin.elim (fun g => Or.inl ⟨rfl, hfc, rfl, x2, g.1, by rw [hH, g.2.1], by rw [hG, g.2.2]⟩) (fun g => Or.inr ⟨rfl, hfc, rfl, g.1, by rw [hH, g.2.2.1, g.2.1], by rw [hG, g.2.2.2, g.2.1]⟩)
                        refine g_aload_n E dX4_write_237 rfl 0 rfl ?_
                        refine g_getfield E dX4_write_238 0 4 rfl rfl (by decide) iX4 wd_135 rfl rfl ?_
                        refine g_iload_n E dX4_write_241 rfl 1 rfl ?_
                        refine g_iload_n E dX4_write_242 rfl 2 rfl ?_
                        refine g_if_eq (tgt := 250) E dX4_write_243 (by decide) ⟨(by omega), (by omega)⟩ (fun c_243 => ?_) (fun c_243 => ?_)
                        · skip
                          refine g_iconst E dX4_write_250 ?_
                          refine GG.lvs (lv' := [(0, .ref y), (4, .int (iI n))]) [0, 3] rfl ?_
                          exact L251 3 (by omega)
                        · skip
                          refine g_iconst E dX4_write_246 ?_
                          refine g_goto (tgt := 251) E dX4_write_247 (by decide) ?_
                          refine GG.lvs (lv' := [(0, .ref y), (4, .int (iI n))]) [0, 3] rfl ?_
                          exact L251 2 (by omega)
                      · skip
                        refine g_aload_n E dX4_write_187 rfl 0 rfl ?_
                        refine g_getfield E dX4_write_188 0 2 rfl rfl (by decide) iX4 wd_118 rfl rfl ?_
                        refine g_iload E dX4_write_191 4 rfl ?_
                        refine g_iload E dX4_write_193 5 rfl ?_
                        refine g_iadd E dX4_write_195 ?_
                        refine g_iload_n E dX4_write_196 rfl 2 rfl ?_
                        refine g_if_eq (tgt := 210) E dX4_write_197 (by decide) ⟨(by omega), (by omega)⟩ (fun c_197 => ?_) (fun c_197 => ?_)
                        · skip
                          refine g_aload_n E dX4_write_210 rfl 0 rfl ?_
                          refine g_getfield E dX4_write_211 0 1 rfl rfl (by decide) iX4 wd_6 rfl rfl ?_
                          refine g_iload E dX4_write_214 5 rfl ?_
                          refine g_iaload E dX4_write_216 5 rfl (by omega) (by omega) (by omega) ?_
                          refine g_iastore (ws' := [(y, .inr (4, [.int (iI ca), .ref mb, .ref ms, .ref mm, .ref mf, .ref mz, .int (iI my), .ref mt, .int (iI me), .int (iI V_84.2), .ref mp, .int (iI mi), .ref mq, .int (iI ma), .int (iI mu), .ref mo, .int (iI mw)])), (mm, aE cA 4096 H), (ms, aE cA 4096 (up G (x2 + j) (B j))), (mf, aE cA 32 K), (mz, aE cA 32 Sm), (mb, aE cA 256 B), (mp, aE cA 600 V_84.1)]) E dX4_write_217 2 rfl (by omega) (by omega) (by omega) rfl ?_
                          refine g_aload_n E dX4_write_218 rfl 0 rfl ?_
                          refine g_getfield E dX4_write_219 0 3 rfl rfl (by decide) iX4 wd_117 rfl rfl ?_
                          refine g_iload E dX4_write_222 4 rfl ?_
                          refine g_iload E dX4_write_224 5 rfl ?_
                          refine g_iadd E dX4_write_226 ?_
                          refine g_iload_n E dX4_write_227 rfl 1 rfl ?_
                          refine g_iconst E dX4_write_228 ?_
                          refine g_iadd E dX4_write_229 ?_
                          refine g_iastore (ws' := [(y, .inr (4, [.int (iI ca), .ref mb, .ref ms, .ref mm, .ref mf, .ref mz, .int (iI my), .ref mt, .int (iI me), .int (iI V_84.2), .ref mp, .int (iI mi), .ref mq, .int (iI ma), .int (iI mu), .ref mo, .int (iI mw)])), (mm, aE cA 4096 (up H (x2 + j) (b + 1))), (ms, aE cA 4096 (up G (x2 + j) (B j))), (mf, aE cA 32 K), (mz, aE cA 32 Sm), (mb, aE cA 256 B), (mp, aE cA 600 V_84.1)]) E dX4_write_230 1 rfl (by omega) (by omega) (by omega) rfl ?_
                          refine g_iinc (lv' := [(6, .int (iI (j + 1))), (0, .ref y), (1, .int (iI b)), (3, .int (iI fl)), (4, .int (iI n)), (5, .int (iI x2))]) E dX4_write_231 5 rfl (by decide) rfl ?_
                          refine g_goto (tgt := 180) E dX4_write_234 (by decide) ?_
                          refine GG.lvs (lv' := [(0, .ref y), (1, .int (iI b)), (3, .int (iI fl)), (4, .int (iI n)), (5, .int (iI x2)), (6, .int (iI (j + 1)))]) [1, 2, 3, 4, 5, 0] rfl ?_
                          exact ih180 (j + 1) (up H (x2 + j) (b + 1)) (up G (x2 + j) (B j)) (by omega) (by exact cp_s hj.1 hG (by rw [Int.zero_add]; exact hsrc.elim (fun g => by first | (rw [g.2]; done) | (exfalso; omega)) (fun g => by first | (rw [g.2]; done) | (exfalso; omega)))) (by have := rnf_s (B := H0) (G := H) (a := x2) (k := x2 + j) (v := b + 1) (by omega) (by rw [hH, show x2 + j - x2 = j by omega]); rw [show x2 + j + 1 - x2 = j + 1 by omega] at this; exact this) (by omega)
                        · skip
                          refine g_aload_n E dX4_write_200 rfl 0 rfl ?_
                          refine g_getfield E dX4_write_201 0 10 rfl rfl (by decide) iX4 wd_48 rfl rfl ?_
                          refine g_iload E dX4_write_204 5 rfl ?_
                          refine g_iaload E dX4_write_206 6 rfl (by omega) (by omega) (by omega) ?_
                          refine g_goto (tgt := 217) E dX4_write_207 (by decide) ?_
                          refine g_iastore (ws' := [(y, .inr (4, [.int (iI ca), .ref mb, .ref ms, .ref mm, .ref mf, .ref mz, .int (iI my), .ref mt, .int (iI me), .int (iI V_84.2), .ref mp, .int (iI mi), .ref mq, .int (iI ma), .int (iI mu), .ref mo, .int (iI mw)])), (mm, aE cA 4096 H), (ms, aE cA 4096 (up G (x2 + j) (V_84.1 j))), (mf, aE cA 32 K), (mz, aE cA 32 Sm), (mb, aE cA 256 B), (mp, aE cA 600 V_84.1)]) E dX4_write_217 2 rfl (by omega) (by omega) (by omega) rfl ?_
                          refine g_aload_n E dX4_write_218 rfl 0 rfl ?_
                          refine g_getfield E dX4_write_219 0 3 rfl rfl (by decide) iX4 wd_117 rfl rfl ?_
                          refine g_iload E dX4_write_222 4 rfl ?_
                          refine g_iload E dX4_write_224 5 rfl ?_
                          refine g_iadd E dX4_write_226 ?_
                          refine g_iload_n E dX4_write_227 rfl 1 rfl ?_
                          refine g_iconst E dX4_write_228 ?_
                          refine g_iadd E dX4_write_229 ?_
                          refine g_iastore (ws' := [(y, .inr (4, [.int (iI ca), .ref mb, .ref ms, .ref mm, .ref mf, .ref mz, .int (iI my), .ref mt, .int (iI me), .int (iI V_84.2), .ref mp, .int (iI mi), .ref mq, .int (iI ma), .int (iI mu), .ref mo, .int (iI mw)])), (mm, aE cA 4096 (up H (x2 + j) (b + 1))), (ms, aE cA 4096 (up G (x2 + j) (V_84.1 j))), (mf, aE cA 32 K), (mz, aE cA 32 Sm), (mb, aE cA 256 B), (mp, aE cA 600 V_84.1)]) E dX4_write_230 1 rfl (by omega) (by omega) (by omega) rfl ?_
                          refine g_iinc (lv' := [(6, .int (iI (j + 1))), (0, .ref y), (1, .int (iI b)), (3, .int (iI fl)), (4, .int (iI n)), (5, .int (iI x2))]) E dX4_write_231 5 rfl (by decide) rfl ?_
                          refine g_goto (tgt := 180) E dX4_write_234 (by decide) ?_
                          refine GG.lvs (lv' := [(0, .ref y), (1, .int (iI b)), (3, .int (iI fl)), (4, .int (iI n)), (5, .int (iI x2)), (6, .int (iI (j + 1)))]) [1, 2, 3, 4, 5, 0] rfl ?_
                          exact ih180 (j + 1) (up H (x2 + j) (b + 1)) (up G (x2 + j) (V_84.1 j)) (by omega) (by exact cp_s hj.1 hG (by rw [Int.zero_add]; exact hsrc.elim (fun g => by first | (rw [g.2]; done) | (exfalso; omega)) (fun g => by first | (rw [g.2]; done) | (exfalso; omega)))) (by have := rnf_s (B := H0) (G := H) (a := x2) (k := x2 + j) (v := b + 1) (by omega) (by rw [hH, show x2 + j - x2 = j by omega]); rw [show x2 + j + 1 - x2 = j + 1 by omega] at this; exact this) (by omega)
                  refine GG.lvs (lv' := [(0, .ref y), (1, .int (iI b)), (3, .int (iI fl)), (4, .int (iI n)), (5, .int (iI x2)), (6, .int (iI 0))]) [1, 2, 3, 4, 5, 0] rfl ?_
                  exact L180 ((n - 0 : Int).toNat + 1) 0 H0 G0 (by omega) (by exact (cp_0 ..).symm) (by have := rnf_0 H0 x2 (b + 1); rw [show x2 - x2 = 0 by omega] at this; exact this.symm) (by omega)
                refine g_iload E dX4_write_157 4 rfl ?_
                refine g_if_ge (tgt := 177) E dX4_write_159 (by decide) ⟨(by omega), (by omega)⟩ (fun c_159 => ?_) (fun c_159 => ?_)
                · skip
                  refine GG.lvs (lv' := [(0, .ref y), (1, .int (iI b)), (3, .int (iI fl)), (4, .int (iI n)), (5, .int (iI x))]) [0, 1, 2, 3, 4] rfl ?_
                  exact L177 x (rel ca Mk b) St (by first | exact hxx | (have g1 := (hx.resolve_right (fun g => by omega)).2; exact ⟨g1.1, g1.2.1⟩)) (by first | exact Or.inr ⟨(hx.resolve_left (fun g => by omega)).2, hz, by rw [hT_163], by rw [hT_163]⟩ | exact Or.inl ⟨(hx.resolve_right (fun g => by omega)).2, rfl, rfl⟩)
                · skip
                  refine g_aload_n E dX4_write_162 rfl 0 rfl ?_
                  refine g_callV (n := 0) (As := []) (rest := []) (wr := [(mf, aE cA 32 K), (mz, aE cA 32 Sm), (mb, aE cA 256 B), (mp, aE cA 600 V_84.1)]) E dX4_write_163 (c_X4_together l D cA y mb ms mm mf mz mt mp mq mo ca my me V_84.2 mi ma mu mw (rel ca Mk b) St (by omega) (by exact mkR_rel hMk)) wd_code_X4_together wd_119 wd_120 wd_121 wd_122 (by decide +kernel) ⟨⟨rfl, rfl⟩, ⟨(Nat.le_of_ble_eq_true rfl), (Nat.le_of_ble_eq_true rfl)⟩, ⟨(Nat.le_of_ble_eq_true rfl), (Nat.le_of_ble_eq_true rfl)⟩⟩ [0, 1, 2] [3, 4, 5, 6] rfl rfl (by decide) 0 rfl rfl rfl rfl (Nat.le_of_ble_eq_true rfl) (fun z_163 w_163 hw_163 => ?_)
                  obtain ⟨TG_163, hT_163, hr_163, hm_163, rfl⟩ := hw_163
                  refine GG.wss (ws' := [(y, .inr (4, [.int (iI ca), .ref mb, .ref ms, .ref mm, .ref mf, .ref mz, .int (iI my), .ref mt, .int (iI me), .int (iI V_84.2), .ref mp, .int (iI mi), .ref mq, .int (iI ma), .int (iI mu), .ref mo, .int (iI mw)])), (mm, aE cA 4096 TG_163.2.1), (ms, aE cA 4096 TG_163.1), (mf, aE cA 32 K), (mz, aE cA 32 Sm), (mb, aE cA 256 B), (mp, aE cA 600 V_84.1)]) [4, 5, 6, 0, 1, 2, 3] (by decide) rfl ?_
                  have hmr : mkR TG_163.2.1 := hm_163
                  refine g_istore (lv' := [(6, .int (iI z_163)), (0, .ref y), (1, .int (iI b)), (3, .int (iI fl)), (4, .int (iI n)), (5, .int (iI x))]) E dX4_write_166 (by decide) rfl ?_
                  refine g_aload_n E dX4_write_168 rfl 1 rfl ?_
                  refine g_iload E dX4_write_169 4 rfl ?_
                  refine g_iload_n E dX4_write_171 rfl 2 rfl ?_
                  refine g_callV (n := 2) (As := [.int (iI n), .int (iI b)]) (rest := []) (wr := [(ms, aE cA 4096 TG_163.1), (mf, aE cA 32 K), (mz, aE cA 32 Sm), (mb, aE cA 256 B), (mp, aE cA 600 V_84.1)]) E dX4_write_172 (c_X4_room l D cA y mb ms mm mf mz mt mp mq mo ca my me V_84.2 mi ma mu mw TG_163.2.1 n b (by omega) (by exact hm_163) (by omega) (by omega)) wd_code_X4_room wd_148 wd_149 wd_150 wd_151 (by decide +kernel) ⟨⟨rfl, rfl⟩, ⟨(Nat.le_of_ble_eq_true rfl), (Nat.le_of_ble_eq_true rfl)⟩, ⟨(Nat.le_of_ble_eq_true rfl), (Nat.le_of_ble_eq_true rfl)⟩⟩ [0, 1] [2, 3, 4, 5, 6] rfl rfl (by decide) 0 rfl rfl rfl rfl (Nat.le_of_ble_eq_true rfl) (fun z_172 w_172 hw_172 => ?_)
                  obtain ⟨hp_172, hr_172, rfl⟩ := hw_172
                  refine GG.wss (ws' := [(y, .inr (4, [.int (iI ca), .ref mb, .ref ms, .ref mm, .ref mf, .ref mz, .int (iI my), .ref mt, .int (iI me), .int (iI V_84.2), .ref mp, .int (iI mi), .ref mq, .int (iI ma), .int (iI mu), .ref mo, .int (iI mw)])), (mm, aE cA 4096 TG_163.2.1), (ms, aE cA 4096 TG_163.1), (mf, aE cA 32 K), (mz, aE cA 32 Sm), (mb, aE cA 256 B), (mp, aE cA 600 V_84.1)]) [5, 6, 0, 1, 2, 3, 4] (by decide) rfl ?_
                  have hfr := fre_rel ca Mk b hbb.1 ca.toNat (by omega)
                  have htr := tg_room (St := St) (Mk := rel ca Mk b) (b := b) (ca := ca) (n := n) hbb.1 hca.1 (by omega) (rel_ne hbb.1 hMo) (by omega)
                  rw [← hT_163] at htr
                  have hz : z_172 = (tg St (rel ca Mk b) ca.toNat).2.2.1 := by rw [← hT_163]; exact hp_172.elim (fun g => room_uniq g.2 htr) (fun g => absurd g.2 (fun q => room_no htr q))
                  have hxx : 0 ≤ z_172 ∧ z_172 + n ≤ ca := hp_172.elim (fun g => ⟨g.2.1, g.2.2.1⟩) (fun g => absurd g.2 (fun q => room_no htr q))
                  refine g_istore (lv' := [(5, .int (iI z_172)), (6, .int (iI z_163)), (0, .ref y), (1, .int (iI b)), (3, .int (iI fl)), (4, .int (iI n))]) E dX4_write_175 (by decide) rfl ?_
                  refine GG.lvs (lv' := [(0, .ref y), (1, .int (iI b)), (3, .int (iI fl)), (4, .int (iI n)), (5, .int (iI z_172))]) [2, 3, 4, 5, 0] rfl ?_
                  exact L177 z_172 TG_163.2.1 TG_163.1 (by first | exact hxx | (have g1 := (hx.resolve_right (fun g => by omega)).2; exact ⟨g1.1, g1.2.1⟩)) (by first | exact Or.inr ⟨(hx.resolve_left (fun g => by omega)).2, hz, by rw [hT_163], by rw [hT_163]⟩ | exact Or.inl ⟨(hx.resolve_right (fun g => by omega)).2, rfl, rfl⟩)
              refine g_iload E dX4_write_128 0 rfl ?_
              refine g_if_ge (tgt := 152) E dX4_write_130 (by decide) ⟨(by omega), (by omega)⟩ (fun c_130 => ?_) (fun c_130 => ?_)
              · skip
                refine GG.lvs (lv' := [(0, .ref y), (1, .int (iI b)), (3, .int (iI fl)), (4, .int (iI n)), (5, .int (iI z_123))]) [1, 2, 3, 4, 0] rfl ?_
                exact L152 z_123 (by exact hp_123) (by first | omega | exact room_free hbb.1 (by omega) (hp_123.elim (fun g => g.2) (fun g => absurd g.1 (by omega)))) (by omega)
              · skip
                refine g_aload_n E dX4_write_133 rfl 1 rfl ?_
                refine g_iconst E dX4_write_134 ?_
                refine g_callV (n := 1) (As := [.int (iI 0)]) (rest := []) (wr := [(ms, aE cA 4096 St), (mf, aE cA 32 K), (mz, aE cA 32 Sm), (mb, aE cA 256 B), (mp, aE cA 600 V_84.1)]) E dX4_write_135 (c_X4_free l D cA y mb ms mm mf mz mt mp mq mo ca my me V_84.2 mi ma mu mw Mk 0 (by omega) (by exact hMk) (by omega)) wd_code_X4_free wd_152 wd_153 wd_154 wd_155 (by decide +kernel) ⟨⟨rfl, rfl⟩, ⟨(Nat.le_of_ble_eq_true rfl), (Nat.le_of_ble_eq_true rfl)⟩, ⟨(Nat.le_of_ble_eq_true rfl), (Nat.le_of_ble_eq_true rfl)⟩⟩ [0, 1] [2, 3, 4, 5, 6] rfl rfl (by decide) 0 rfl rfl rfl rfl (Nat.le_of_ble_eq_true rfl) (fun z_135 w_135 hw_135 => ?_)
                obtain ⟨hr_135, hr2_135, rfl⟩ := hw_135
                refine GG.wss (ws' := [(y, .inr (4, [.int (iI ca), .ref mb, .ref ms, .ref mm, .ref mf, .ref mz, .int (iI my), .ref mt, .int (iI me), .int (iI V_84.2), .ref mp, .int (iI mi), .ref mq, .int (iI ma), .int (iI mu), .ref mo, .int (iI mw)])), (mm, aE cA 4096 Mk), (ms, aE cA 4096 St), (mf, aE cA 32 K), (mz, aE cA 32 Sm), (mb, aE cA 256 B), (mp, aE cA 600 V_84.1)]) [5, 6, 0, 1, 2, 3, 4] (by decide) rfl ?_
                refine g_aload_n E dX4_write_138 rfl 1 rfl ?_
                refine g_iload_n E dX4_write_139 rfl 2 rfl ?_
                refine g_callV (n := 1) (As := [.int (iI b)]) (rest := [.int (iI z_135)]) (wr := [(ms, aE cA 4096 St), (mf, aE cA 32 K), (mz, aE cA 32 Sm), (mb, aE cA 256 B), (mp, aE cA 600 V_84.1)]) E dX4_write_140 (c_X4_sizeOf l D cA y mb ms mm mf mz mt mp mq mo ca my me V_84.2 mi ma mu mw Mk b (by omega) (by exact hMk) (by omega)) wd_code_X4_sizeOf wd_127 wd_128 wd_129 wd_130 (by decide +kernel) ⟨⟨rfl, rfl⟩, ⟨(Nat.le_of_ble_eq_true rfl), (Nat.le_of_ble_eq_true rfl)⟩, ⟨(Nat.le_of_ble_eq_true rfl), (Nat.le_of_ble_eq_true rfl)⟩⟩ [0, 1] [2, 3, 4, 5, 6] rfl rfl (by decide) 0 rfl rfl rfl rfl (Nat.le_of_ble_eq_true rfl) (fun z_140 w_140 hw_140 => ?_)
                obtain ⟨hr_140, hr2_140, rfl⟩ := hw_140
                refine GG.wss (ws' := [(y, .inr (4, [.int (iI ca), .ref mb, .ref ms, .ref mm, .ref mf, .ref mz, .int (iI my), .ref mt, .int (iI me), .int (iI V_84.2), .ref mp, .int (iI mi), .ref mq, .int (iI ma), .int (iI mu), .ref mo, .int (iI mw)])), (mm, aE cA 4096 Mk), (ms, aE cA 4096 St), (mf, aE cA 32 K), (mz, aE cA 32 Sm), (mb, aE cA 256 B), (mp, aE cA 600 V_84.1)]) [5, 6, 0, 1, 2, 3, 4] (by decide) rfl ?_
                refine g_iadd E dX4_write_143 ?_
                refine g_iload E dX4_write_144 4 rfl ?_
                refine g_icmp_ge (tgt := 152) E dX4_write_146 (by decide) ⟨(by omega), (by omega)⟩ ⟨(by omega), (by omega)⟩ (fun c_146 => ?_) (fun c_146 => ?_)
                · skip
                  refine GG.lvs (lv' := [(0, .ref y), (1, .int (iI b)), (3, .int (iI fl)), (4, .int (iI n)), (5, .int (iI z_123))]) [1, 2, 3, 4, 0] rfl ?_
                  exact L152 z_123 (by exact hp_123) (by first | omega | exact room_free hbb.1 (by omega) (hp_123.elim (fun g => g.2) (fun g => absurd g.1 (by omega)))) (by omega)
                · skip
                  refine g_bipush E dX4_write_149 (by decide) ?_
                  refine g_ireturn E dX4_write_151 ?_
                  exact ⟨V_84, St, Mk, K, Sm, Or.inr (Or.inr ⟨hbb.1, hbb.2, hex, n, (if V_84.2 < 256 then 2 else 3), (if V_84.2 < 256 then V_84.1 else B), by rw [← hV_84]; exact hfn.elim (fun g => Or.inl ⟨g.1, g.2.2, if_pos g.1, if_pos g.1⟩) (fun g => Or.inr ⟨g.1, g.2.2, if_neg (by omega), if_neg (by omega)⟩), rfl, Or.inl ⟨rfl, by omega, rfl, rfl, rfl⟩⟩), rfl⟩
            refine g_aload_n E dX4_write_87 rfl 0 rfl ?_
            refine g_getfield E dX4_write_88 0 9 rfl rfl (by decide) iX4 wd_49 rfl rfl ?_
            refine g_sipush E dX4_write_91 (by decide) ?_
            refine g_icmp_ge (tgt := 101) E dX4_write_94 (by decide) ⟨(by omega), (by omega)⟩ ⟨(by omega), (by omega)⟩ (fun c_94 => ?_) (fun c_94 => ?_)
            · skip
              refine g_iconst E dX4_write_101 ?_
              refine g_istore_n (lv' := [(3, .int (iI 0)), (0, .ref y), (1, .int (iI b)), (2, .int (iI one))]) E dX4_write_102 rfl (by decide) rfl ?_
              refine g_iload_n E dX4_write_103 rfl 0 rfl ?_
              refine g_if_eq (tgt := 114) E dX4_write_104 (by decide) ⟨(by omega), (by omega)⟩ (fun c_104 => ?_) (fun c_104 => ?_)
              · skip
                refine g_sipush E dX4_write_114 (by decide) ?_
                refine g_istore (lv' := [(4, .int (iI 256)), (3, .int (iI 0)), (0, .ref y), (1, .int (iI b)), (2, .int (iI one))]) E dX4_write_117 (by decide) rfl ?_
                refine GG.lvs (lv' := [(0, .ref y), (1, .int (iI b)), (3, .int (iI 0)), (4, .int (iI 256))]) [2, 3, 1, 0] rfl ?_
                exact L119 0 256 (by omega)
              · skip
                refine g_aload_n E dX4_write_107 rfl 1 rfl ?_
                refine g_getfield E dX4_write_108 0 9 rfl rfl (by decide) iX4 wd_49 rfl rfl ?_
                refine g_goto (tgt := 117) E dX4_write_111 (by decide) ?_
                refine g_istore (lv' := [(4, .int (iI V_84.2)), (3, .int (iI 0)), (0, .ref y), (1, .int (iI b)), (2, .int (iI one))]) E dX4_write_117 (by decide) rfl ?_
                refine GG.lvs (lv' := [(0, .ref y), (1, .int (iI b)), (3, .int (iI 0)), (4, .int (iI V_84.2))]) [2, 3, 1, 0] rfl ?_
                exact L119 0 V_84.2 (by omega)
            · skip
              refine g_iconst E dX4_write_97 ?_
              refine g_goto (tgt := 102) E dX4_write_98 (by decide) ?_
              refine g_istore_n (lv' := [(3, .int (iI 1)), (0, .ref y), (1, .int (iI b)), (2, .int (iI one))]) E dX4_write_102 rfl (by decide) rfl ?_
              refine g_iload_n E dX4_write_103 rfl 0 rfl ?_
              refine g_if_eq (tgt := 114) E dX4_write_104 (by decide) ⟨(by omega), (by omega)⟩ (fun c_104 => ?_) (fun c_104 => ?_)
              · skip
                refine g_sipush E dX4_write_114 (by decide) ?_
                refine g_istore (lv' := [(4, .int (iI 256)), (3, .int (iI 1)), (0, .ref y), (1, .int (iI b)), (2, .int (iI one))]) E dX4_write_117 (by decide) rfl ?_
                refine GG.lvs (lv' := [(0, .ref y), (1, .int (iI b)), (3, .int (iI 1)), (4, .int (iI 256))]) [2, 3, 1, 0] rfl ?_
                exact L119 1 256 (by omega)
              · skip
                refine g_aload_n E dX4_write_107 rfl 1 rfl ?_
                refine g_getfield E dX4_write_108 0 9 rfl rfl (by decide) iX4 wd_49 rfl rfl ?_
                refine g_goto (tgt := 117) E dX4_write_111 (by decide) ?_
                refine g_istore (lv' := [(4, .int (iI V_84.2)), (3, .int (iI 1)), (0, .ref y), (1, .int (iI b)), (2, .int (iI one))]) E dX4_write_117 (by decide) rfl ?_
                refine GG.lvs (lv' := [(0, .ref y), (1, .int (iI b)), (3, .int (iI 1)), (4, .int (iI V_84.2))]) [2, 3, 1, 0] rfl ?_
                exact L119 1 V_84.2 (by omega)
          · skip
            have hall : ∀ j, 0 ≤ j → j < 256 → B j = B 0 := fun j h1 h2 => (ho.elim (fun g => g.2) (fun g => absurd g.1 c_54)) j h1 (by omega)
            refine g_aload_n E dX4_write_57 rfl 0 rfl ?_
            refine g_iload_n E dX4_write_58 rfl 1 rfl ?_
            refine g_callVv (n := 1) (As := [.int (iI b)]) (rest := []) (wr := [(ms, aE cA 4096 St), (mf, aE cA 32 K), (mz, aE cA 32 Sm), (mb, aE cA 256 B), (mp, aE cA 600 PO)]) E dX4_write_59 (c_X4_release l D cA y mb ms mm mf mz mt mp mq mo ca my me mn mi ma mu mw Mk b (by omega) (by exact hMk) (by omega)) wd_code_X4_release wd_131 wd_132 wd_133 wd_134 (by decide +kernel) ⟨⟨rfl, rfl⟩, ⟨(Nat.le_of_ble_eq_true rfl), (Nat.le_of_ble_eq_true rfl)⟩, ⟨(Nat.le_of_ble_eq_true rfl), (Nat.le_of_ble_eq_true rfl)⟩⟩ [0, 1] [2, 3, 4, 5, 6] rfl rfl (by decide) 0 rfl rfl rfl rfl (Nat.le_of_ble_eq_true rfl) (fun w_59 hw_59 => ?_)
            subst hw_59
            refine GG.wss (ws' := [(y, .inr (4, [.int (iI ca), .ref mb, .ref ms, .ref mm, .ref mf, .ref mz, .int (iI my), .ref mt, .int (iI me), .int (iI mn), .ref mp, .int (iI mi), .ref mq, .int (iI ma), .int (iI mu), .ref mo, .int (iI mw)])), (mm, aE cA 4096 (rel ca Mk b)), (ms, aE cA 4096 St), (mf, aE cA 32 K), (mz, aE cA 32 Sm), (mb, aE cA 256 B), (mp, aE cA 600 PO)]) [5, 6, 0, 1, 2, 3, 4] (by decide) rfl ?_
            refine g_aload_n E dX4_write_62 rfl 0 rfl ?_
            refine g_getfield E dX4_write_63 0 4 rfl rfl (by decide) iX4 wd_135 rfl rfl ?_
            refine g_iload_n E dX4_write_66 rfl 1 rfl ?_
            refine g_iconst E dX4_write_67 ?_
            refine g_iastore (ws' := [(y, .inr (4, [.int (iI ca), .ref mb, .ref ms, .ref mm, .ref mf, .ref mz, .int (iI my), .ref mt, .int (iI me), .int (iI mn), .ref mp, .int (iI mi), .ref mq, .int (iI ma), .int (iI mu), .ref mo, .int (iI mw)])), (mm, aE cA 4096 (rel ca Mk b)), (ms, aE cA 4096 St), (mf, aE cA 32 (up K b 1)), (mz, aE cA 32 Sm), (mb, aE cA 256 B), (mp, aE cA 600 PO)]) E dX4_write_68 3 rfl (by omega) (by omega) (by omega) rfl ?_
            refine g_aload_n E dX4_write_69 rfl 0 rfl ?_
            refine g_getfield E dX4_write_70 0 5 rfl rfl (by decide) iX4 wd_156 rfl rfl ?_
            refine g_iload_n E dX4_write_73 rfl 1 rfl ?_
            refine g_aload_n E dX4_write_74 rfl 0 rfl ?_
            refine g_getfield E dX4_write_75 0 1 rfl rfl (by decide) iX4 wd_6 rfl rfl ?_
            refine g_iconst E dX4_write_78 ?_
            refine g_iaload E dX4_write_79 5 rfl (by omega) (by omega) (by omega) ?_
            refine g_iastore (ws' := [(y, .inr (4, [.int (iI ca), .ref mb, .ref ms, .ref mm, .ref mf, .ref mz, .int (iI my), .ref mt, .int (iI me), .int (iI mn), .ref mp, .int (iI mi), .ref mq, .int (iI ma), .int (iI mu), .ref mo, .int (iI mw)])), (mm, aE cA 4096 (rel ca Mk b)), (ms, aE cA 4096 St), (mf, aE cA 32 (up K b 1)), (mz, aE cA 32 (up Sm b (B 0))), (mb, aE cA 256 B), (mp, aE cA 600 PO)]) E dX4_write_80 4 rfl (by omega) (by omega) (by omega) rfl ?_
            refine g_iconst E dX4_write_81 ?_
            refine g_ireturn E dX4_write_82 ?_
            exact ⟨(PO, mn), St, rel ca Mk b, up K b 1, up Sm b (B 0), Or.inr (Or.inl ⟨hbb.1, hbb.2, hall, rfl, rfl, rfl, rfl, rfl⟩), rfl⟩
        · skip
          refine g_iload_n E dX4_write_22 rfl 2 rfl ?_
          refine g_if_eq (tgt := 45) E dX4_write_23 (by decide) ⟨(by omega), (by omega)⟩ (fun c_23 => ?_) (fun c_23 => ?_)
          · skip
            refine g_iconst E dX4_write_45 ?_
            refine g_istore_n (lv' := [(2, .int (iI 0)), (0, .ref y), (1, .int (iI b)), (3, .int (iI k))]) E dX4_write_46 rfl (by decide) rfl ?_
            refine g_iinc (lv' := [(3, .int (iI (k + 1))), (2, .int (iI 0)), (0, .ref y), (1, .int (iI b))]) E dX4_write_47 3 rfl (by decide) rfl ?_
            refine g_goto (tgt := 15) E dX4_write_50 (by decide) ?_
            refine GG.lvs (lv' := [(0, .ref y), (1, .int (iI b)), (2, .int (iI 0)), (3, .int (iI (k + 1)))]) [2, 3, 1, 0] rfl ?_
            exact ih15 0 (k + 1) (by omega) (by first | exact Or.inr ⟨rfl, ho.elim (fun g => absurd g.1 (by omega)) (fun g => g.2)⟩ | exact Or.inl ⟨rfl, fun j h1 h2 => if q : j = k then (by rw [q]; exact c_38) else (ho.elim (fun g => g.2) (fun g => absurd g.1 c_23)) j h1 (by omega)⟩ | exact Or.inr ⟨rfl, k, by omega, by omega, c_38⟩) (by omega) (by omega)
          · skip
            refine g_aload_n E dX4_write_26 rfl 0 rfl ?_
            refine g_getfield E dX4_write_27 0 1 rfl rfl (by decide) iX4 wd_6 rfl rfl ?_
            refine g_iload_n E dX4_write_30 rfl 3 rfl ?_
            refine g_iaload E dX4_write_31 5 rfl (by omega) (by omega) (by omega) ?_
            have hb1 := hB k (by omega) (by omega)
            refine g_aload_n E dX4_write_32 rfl 0 rfl ?_
            refine g_getfield E dX4_write_33 0 1 rfl rfl (by decide) iX4 wd_6 rfl rfl ?_
            refine g_iconst E dX4_write_36 ?_
            refine g_iaload E dX4_write_37 5 rfl (by omega) (by omega) (by omega) ?_
            have hb0 := hB 0 (by omega) (by omega)
            refine g_icmp_ne (tgt := 45) E dX4_write_38 (by decide) ⟨(by omega), (by omega)⟩ ⟨(by omega), (by omega)⟩ (fun c_38 => ?_) (fun c_38 => ?_)
            · skip
              refine g_iconst E dX4_write_45 ?_
              refine g_istore_n (lv' := [(2, .int (iI 0)), (0, .ref y), (1, .int (iI b)), (3, .int (iI k))]) E dX4_write_46 rfl (by decide) rfl ?_
              refine g_iinc (lv' := [(3, .int (iI (k + 1))), (2, .int (iI 0)), (0, .ref y), (1, .int (iI b))]) E dX4_write_47 3 rfl (by decide) rfl ?_
              refine g_goto (tgt := 15) E dX4_write_50 (by decide) ?_
              refine GG.lvs (lv' := [(0, .ref y), (1, .int (iI b)), (2, .int (iI 0)), (3, .int (iI (k + 1)))]) [2, 3, 1, 0] rfl ?_
              exact ih15 0 (k + 1) (by omega) (by first | exact Or.inr ⟨rfl, ho.elim (fun g => absurd g.1 (by omega)) (fun g => g.2)⟩ | exact Or.inl ⟨rfl, fun j h1 h2 => if q : j = k then (by rw [q]; exact c_38) else (ho.elim (fun g => g.2) (fun g => absurd g.1 c_23)) j h1 (by omega)⟩ | exact Or.inr ⟨rfl, k, by omega, by omega, c_38⟩) (by omega) (by omega)
            · skip
              refine g_iconst E dX4_write_41 ?_
              refine g_goto (tgt := 46) E dX4_write_42 (by decide) ?_
              refine g_istore_n (lv' := [(2, .int (iI 1)), (0, .ref y), (1, .int (iI b)), (3, .int (iI k))]) E dX4_write_46 rfl (by decide) rfl ?_
              refine g_iinc (lv' := [(3, .int (iI (k + 1))), (2, .int (iI 1)), (0, .ref y), (1, .int (iI b))]) E dX4_write_47 3 rfl (by decide) rfl ?_
              refine g_goto (tgt := 15) E dX4_write_50 (by decide) ?_
              refine GG.lvs (lv' := [(0, .ref y), (1, .int (iI b)), (2, .int (iI 1)), (3, .int (iI (k + 1)))]) [2, 3, 1, 0] rfl ?_
              exact ih15 1 (k + 1) (by omega) (by first | exact Or.inr ⟨rfl, ho.elim (fun g => absurd g.1 (by omega)) (fun g => g.2)⟩ | exact Or.inl ⟨rfl, fun j h1 h2 => if q : j = k then (by rw [q]; exact c_38) else (ho.elim (fun g => g.2) (fun g => absurd g.1 c_23)) j h1 (by omega)⟩ | exact Or.inr ⟨rfl, k, by omega, by omega, c_38⟩) (by omega) (by omega)
    refine GG.lvs (lv' := [(0, .ref y), (1, .int (iI b)), (2, .int (iI 1)), (3, .int (iI 1))]) [2, 3, 1, 0] rfl ?_
    exact L15 ((256 - 1 : Int).toNat + 1) 1 1 (by omega) (by exact Or.inl ⟨rfl, fun j h1 h2 => by rw [show j = 0 by omega]⟩) (by omega) (by omega)
  · skip
    refine g_bipush E dX4_write_8 (by decide) ?_
    refine g_ireturn E dX4_write_10 ?_
    exact ⟨(PO, mn), St, Mk, K, Sm, Or.inl ⟨by omega, rfl, rfl, rfl, rfl, rfl⟩, rfl⟩
