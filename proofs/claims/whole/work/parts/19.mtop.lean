theorem wd_119 : Cond.methodLink RX4 105 yX4_together ∈ UW := uw (by decide +kernel) rfl
theorem wd_120 : Cond.instanceMethod yX4_together ∈ UW := uw (by decide +kernel) rfl
theorem wd_121 : Cond.selects RX4 yX4_together yX4_together ∈ UW := uw (by decide +kernel) rfl
theorem wd_122 : Cond.initialized yX4_together.cls ∈ UW := uw (by decide +kernel) rfl
theorem wd_123 : Cond.methodLink RX4 85 yX4_isBlock ∈ UW := uw (by decide +kernel) rfl
theorem wd_124 : Cond.instanceMethod yX4_isBlock ∈ UW := uw (by decide +kernel) rfl
theorem wd_125 : Cond.selects RX4 yX4_isBlock yX4_isBlock ∈ UW := uw (by decide +kernel) rfl
theorem wd_126 : Cond.initialized yX4_isBlock.cls ∈ UW := uw (by decide +kernel) rfl
theorem wd_127 : Cond.methodLink RX4 102 yX4_sizeOf ∈ UW := uw (by decide +kernel) rfl
theorem wd_128 : Cond.instanceMethod yX4_sizeOf ∈ UW := uw (by decide +kernel) rfl
theorem wd_129 : Cond.selects RX4 yX4_sizeOf yX4_sizeOf ∈ UW := uw (by decide +kernel) rfl
theorem wd_130 : Cond.initialized yX4_sizeOf.cls ∈ UW := uw (by decide +kernel) rfl
theorem wd_131 : Cond.methodLink RX4 89 yX4_release ∈ UW := uw (by decide +kernel) rfl
theorem wd_132 : Cond.instanceMethod yX4_release ∈ UW := uw (by decide +kernel) rfl
theorem wd_133 : Cond.selects RX4 yX4_release yX4_release ∈ UW := uw (by decide +kernel) rfl
theorem wd_134 : Cond.initialized yX4_release.cls ∈ UW := uw (by decide +kernel) rfl
theorem wd_135 : Cond.fieldLink RX4 19 "PackedSlotsModel" "form" "[I" ∈ UW := uw (by decide +kernel) rfl
theorem wd_136 : Cond.methodLink RX4 108 yX4_placeOf ∈ UW := uw (by decide +kernel) rfl
theorem wd_137 : Cond.instanceMethod yX4_placeOf ∈ UW := uw (by decide +kernel) rfl
theorem wd_138 : Cond.selects RX4 yX4_placeOf yX4_placeOf ∈ UW := uw (by decide +kernel) rfl
theorem wd_139 : Cond.initialized yX4_placeOf.cls ∈ UW := uw (by decide +kernel) rfl
theorem wd_140 : Cond.methodLink RX4 111 yX4_readAll ∈ UW := uw (by decide +kernel) rfl
theorem wd_141 : Cond.instanceMethod yX4_readAll ∈ UW := uw (by decide +kernel) rfl
theorem wd_142 : Cond.selects RX4 yX4_readAll yX4_readAll ∈ UW := uw (by decide +kernel) rfl
theorem wd_143 : Cond.initialized yX4_readAll.cls ∈ UW := uw (by decide +kernel) rfl
theorem fre_step {Mk : Int → Int} {k al lg rws row row2 al2 lg2 rw2 : Int} (hk : 0 ≤ k) (h : fre Mk k.toNat = (al, lg, rws, row)) (hr2 : (row2 = row + 1 ∧ Mk k = 0) ∨ (row2 = 0 ∧ Mk k ≠ 0)) (h0 : 0 ≤ row) (h1 : 0 ≤ lg) (ha : (0 < row2 ∧ al2 = al + 1) ∨ (row2 ≤ 0 ∧ al2 = al)) (hw : (row2 = 1 ∧ rw2 = rws + 1) ∨ (row2 ≠ 1 ∧ rw2 = rws)) (hl : (lg < row2 ∧ lg2 = row2) ∨ (row2 ≤ lg ∧ lg2 = lg)) : fre Mk (k + 1).toNat = (al2, lg2, rw2, row2) := by
  rcases hr2 with ⟨e1, e2⟩ | ⟨e1, e2⟩
  · rw [fre_y hk h e2, show al2 = al + 1 by omega, ← e1]
    congr 2
    · split <;> omega
    · congr 1; split <;> omega
  · rw [fre_n hk h e2, show al2 = al by omega, show lg2 = lg by omega, show rw2 = rws by omega, e1]
theorem byR_cp {f g : Int → Int} {n x : Int} (h : ∀ k, 0 ≤ k → k < n → 0 ≤ f (x + k) ∧ f (x + k) < 256) : byR n (cp f g x 0 n) := fun k a b => by
  unfold cp; rw [if_pos (by omega), show k - 0 = k by omega]; exact h k a b
def storedR (ca : Int) (St : Int → Int) (i : Int) : Int := if 0 ≤ i ∧ i < ca then St i else -1
def alterR (ca i : Int) : Int := if 0 ≤ i ∧ i < ca then 1 else -12
def alterS (ca : Int) (St : Int → Int) (i v : Int) : Int → Int := if 0 ≤ i ∧ i < ca then up St i (xr (St i) (v % 256)) else St
theorem cnt_out {Mk : Int → Int} {v : Int} : ∀ k : Nat, (∀ j : Int, 0 ≤ j → j < (k : Int) → Mk j ≠ v) → cnt Mk v k = 0 := by
  intro k
  induction k with
  | zero => intro _; rfl
  | succ k ih =>
    intro h
    rw [cnt, if_neg (h (k : Int) (by omega) (by omega))]
    exact ih (fun j a b => h j a (by omega))
theorem cnt_int {Mk : Int → Int} {v x n : Int} (hx : 0 ≤ x) (hn : 0 ≤ n) : ∀ k : Nat, (∀ j : Int, 0 ≤ j → j < (k : Int) → (Mk j = v ↔ x ≤ j ∧ j < x + n)) → cnt Mk v k = max 0 (min n ((k : Int) - x)) := by
  intro k
  induction k with
  | zero => intro _; show (0 : Int) = _; omega
  | succ k ih =>
    intro h
    have h1 := ih (fun j a b => h j a (by omega))
    have h2 := h (k : Int) (by omega) (by omega)
    rw [cnt, h1]
    by_cases q : Mk (k : Int) = v
    · have := h2.mp q
      rw [if_pos q]; omega
    · have : ¬ (x ≤ (k : Int) ∧ (k : Int) < x + n) := fun g => q (h2.mpr g)
      rw [if_neg q]; omega
theorem cnt_slot {Mk : Int → Int} {v x n ca : Int} (hx : 0 ≤ x) (hn : 0 ≤ n) (hc : x + n ≤ ca) (h : ∀ j : Int, 0 ≤ j → j < ca → (Mk j = v ↔ x ≤ j ∧ j < x + n)) : cnt Mk v ca.toNat = n := by
  rw [cnt_int hx hn ca.toNat (fun j a b => h j a (by omega))]; omega
theorem adF_congr {S S' : Int → Int} {n : Int} (h : ∀ k, 0 ≤ k → k < n → S k = S' k) : ∀ (f : Nat) (a s : Int), 0 ≤ a → adF S n f a s = adF S' n f a s := by
  intro f
  induction f with
  | zero => intro a s _; rfl
  | succ f ih =>
    intro a s ha
    rw [adF, adF]
    by_cases q : n ≤ a
    · rw [if_pos q, if_pos q]
    · rw [if_neg q, if_neg q, h a ha (by omega), ih (a + 1) (s + 255) (by omega)]
theorem numb_congr {S S' : Int → Int} {n : Int} (h : ∀ k, 0 ≤ k → k < n → S k = S' k) {hf a : Int} (ha : 0 ≤ a) : numb S n hf a = numb S' n hf a := by
  unfold numb ad; rw [adF_congr h _ a 0 ha]
theorem numb_ge {S : Int → Int} {n : Int} (hS : byR n S) {hf a x b : Int} (ha : 0 ≤ a) (hh : 0 ≤ hf) (e : numb S n hf a = some (x, b)) : a ≤ b ∧ 0 ≤ x := by
  have key : ∀ (f : Nat) (a s x b : Int), 0 ≤ a → 0 ≤ s → adF S n f a s = some (x, b) → a ≤ b ∧ 0 ≤ x := by
    intro f
    induction f with
    | zero => intro a s x b _ _ h; cases h
    | succ f ih =>
      intro a s x b ha hs h
      rw [adF] at h
      by_cases q : n ≤ a
      · rw [if_pos q] at h; cases h
      · rw [if_neg q] at h
        by_cases q2 : S a = 255
        · rw [if_pos q2] at h
          have := ih (a + 1) (s + 255) x b (by omega) (by omega) h
          omega
        · rw [if_neg q2] at h
          have := hS a ha (by omega)
          cases h
          omega
  unfold numb at e
  by_cases q : hf = 15
  · rw [if_pos q] at e
    unfold ad at e
    cases h : adF S n (n - a + 1).toNat a 0 with
    | none => rw [h] at e; cases e
    | some w =>
      rw [h] at e
      obtain ⟨w1, w2⟩ := w
      have := key _ _ _ _ _ ha (Int.le_refl 0) h
      cases e
      omega
  · rw [if_neg q] at e
    cases e
    omega
theorem ltk_congr {S S' : Int → Int} {n : Int} (h : ∀ k, 0 ≤ k → k < n → S k = S' k) {hf a tok cc : Int} (ha : 0 ≤ a) : ltk S n hf a tok cc = ltk S' n hf a tok cc := by
  unfold ltk; rw [numb_congr h ha]
theorem mtk_congr {S S' : Int → Int} {n : Int} (h : ∀ k, 0 ≤ k → k < n → S k = S' k) {hf a tok cc : Int} (ha : 0 ≤ a) : mtk S n hf a tok cc = mtk S' n hf a tok cc := by
  unfold mtk
  by_cases q : n < a + 2
  · rw [if_pos q, if_pos q]
  · rw [if_neg q, if_neg q, h a ha (by omega), h (a + 1) (by omega) (by omega), numb_congr h (show 0 ≤ a + 2 by omega)]
theorem ltk_ok {S : Int → Int} {n : Int} (hS : byR n S) {hf a tok cc pl x b : Int} (ha : 0 ≤ a) (hh : 0 ≤ hf) (e : ltk S n hf a tok cc = (0, pl, x, b)) : a ≤ b ∧ 0 ≤ x ∧ b + x ≤ n ∧ cc + x ≤ 256 := by
  unfold ltk at e
  cases h : numb S n hf a with
  | none => rw [h] at e; cases e
  | some w =>
    rw [h] at e
    obtain ⟨w1, w2⟩ := w
    have hg := numb_ge hS ha hh h
    dsimp only at e
    by_cases q : 256 < cc + w1
    · rw [if_pos q] at e; cases e
    · rw [if_neg q] at e
      by_cases q2 : n < w2 + w1
      · rw [if_pos q2] at e; cases e
      · rw [if_neg q2] at e; cases e; omega
theorem mtk_ok {S : Int → Int} {n : Int} (hS : byR n S) {hf a tok cc pl o x b : Int} (ha : 0 ≤ a) (hh : 0 ≤ hf) (e : mtk S n hf a tok cc = (0, pl, o, x, b)) : a + 2 ≤ b ∧ 4 ≤ x ∧ 1 ≤ o ∧ o ≤ cc ∧ cc + x ≤ 256 := by
  unfold mtk at e
  by_cases q0 : n < a + 2
  · rw [if_pos q0] at e; cases e
  · rw [if_neg q0] at e
    by_cases q1 : S a + 256 * S (a + 1) = 0 ∨ cc < S a + 256 * S (a + 1)
    · rw [if_pos q1] at e; cases e
    · rw [if_neg q1] at e
      have g1 := hS a ha (by omega)
      have g2 := hS (a + 1) (by omega) (by omega)
      cases h : numb S n hf (a + 2) with
      | none => rw [h] at e; cases e
      | some w =>
        rw [h] at e
        obtain ⟨w1, w2⟩ := w
        have hg := numb_ge hS (show 0 ≤ a + 2 by omega) hh h
        dsimp only at e
        by_cases q : 256 < cc + (4 + w1)
        · rw [if_pos q] at e; cases e
        · rw [if_neg q] at e; cases e; omega
theorem cp_congr {S S' O : Int → Int} {b cc x : Int} (h : ∀ k, b ≤ k → k < b + x → S k = S' k) : cp S O b cc x = cp S' O b cc x := by
  funext k; unfold cp
  by_cases q : cc ≤ k ∧ k < cc + x
  · rw [if_pos q, if_pos q]; exact h _ (by omega) (by omega)
  · rw [if_neg q, if_neg q]
theorem rdf_congr {S S' : Int → Int} {n : Int} (hS : byR n S) (h : ∀ k, 0 ≤ k → k < n → S k = S' k) : ∀ (f : Nat) (a cc : Int) (O : Int → Int), 0 ≤ a → rdf S n f a cc O = rdf S' n f a cc O := by
  intro f
  induction f with
  | zero => intro a cc O _; rfl
  | succ f ih =>
    intro a cc O ha
    by_cases q : n ≤ a
    · rw [rdf_lack q, rdf_lack q]
    · have e1 := h a ha (by omega)
      have g1 := hS a ha (by omega)
      have c1 : ltk S n (S a / 16) (a + 1) a cc = ltk S' n (S' a / 16) (a + 1) a cc := by rw [ltk_congr h (by omega), e1]
      rcases hl : ltk S n (S a / 16) (a + 1) a cc with ⟨e0, pl, x, b⟩
      have hl' := c1 ▸ hl
      by_cases q0 : e0 = 0
      · subst q0
        have g2 := ltk_ok hS (by omega) (by omega) hl
        by_cases q2 : n ≤ b + x
        · rw [rdf_fin (by omega) hl q2, rdf_fin (by omega) hl' q2, cp_congr (S := S) (S' := S') (fun k u v => h k (by omega) (by omega))]
        · have c2 : mtk S n (S a % 16) (b + x) a (cc + x) = mtk S' n (S' a % 16) (b + x) a (cc + x) := by rw [mtk_congr h (by omega), e1]
          rcases hm : mtk S n (S a % 16) (b + x) a (cc + x) with ⟨e2, pm, o, ln, d⟩
          have hm' := c2 ▸ hm
          by_cases q3 : e2 = 0
          · subst q3
            have g3 := mtk_ok hS (by omega) (by omega) hm
            rw [rdf_more (by omega) hl (by omega) hm, rdf_more (by omega) hl' (by omega) hm', cp_congr (S := S) (S' := S') (fun k u v => h k (by omega) (by omega))]
            exact ih _ _ _ (by omega)
          · rw [rdf_merr (by omega) hl (by omega) hm q3, rdf_merr (by omega) hl' (by omega) hm' q3]
      · rw [rdf_lerr (by omega) hl q0, rdf_lerr (by omega) hl' q0]
set_option maxHeartbeats 4000000 in
set_option maxRecDepth 100000 in
theorem c_X4_free (l : Launch) (D : va_G) (cA : ClassId) (y : Nat) (mb : Nat) (ms : Nat) (mm : Nat) (mf : Nat) (mz : Nat) (mt : Nat) (mp : Nat) (mq : Nat) (mo : Nat) (ca : Int) (my : Int) (me : Int) (mn : Int) (mi : Int) (ma : Int) (mu : Int) (mw : Int) (Mk : Int → Int) (wh : Int) (hca : 0 ≤ ca ∧ ca ≤ 4096) (hMk : mkR Mk) (hwh : iB wh) : Ci l D vwCl cA yX4_free (.code yX4_free cX4_free 7 (some .int) :: UW) ({ frames := 1, cells := 0, slots := 0, locals := 22 }) 0 0 [.ref y, .int (iI wh)] [(y, .inr (4, [.int (iI ca), .ref mb, .ref ms, .ref mm, .ref mf, .ref mz, .int (iI my), .ref mt, .int (iI me), .int (iI mn), .ref mp, .int (iI mi), .ref mq, .int (iI ma), .int (iI mu), .ref mo, .int (iI mw)])), (mm, aE cA 4096 Mk)] (fun (r : Int) (w : va_W) => (((wh < 0 ∨ 2 < wh) ∧ r = -12) ∨ (wh = 0 ∧ r = (fre Mk ca.toNat).1) ∨ (wh = 1 ∧ r = (fre Mk ca.toNat).2.1) ∨ (wh = 2 ∧ r = (fre Mk ca.toNat).2.2.1)) ∧ (-12 ≤ r ∧ r ≤ 4096) ∧ w = [(y, .inr (4, [.int (iI ca), .ref mb, .ref ms, .ref mm, .ref mf, .ref mz, .int (iI my), .ref mt, .int (iI me), .int (iI mn), .ref mp, .int (iI mi), .ref mq, .int (iI ma), .int (iI mu), .ref mo, .int (iI mw)])), (mm, aE cA 4096 Mk)]) := by
  refine Ci.mk (by decide) (Nat.le_of_ble_eq_true rfl) ?_
  intro p e s m args below meth c A E
  refine GG.lvs (lv' := [(0, .ref y), (1, .int (iI wh))]) [0, 1] rfl ?_
  refine g_iload_n E dX4_free_0 rfl 1 rfl ?_
  refine g_iconst E dX4_free_1 ?_
  refine g_iconst E dX4_free_2 ?_
  refine g_callS (n := 3) (As := [.int (iI wh), .int (iI 0), .int (iI 2)]) (rest := []) (wr := [(y, .inr (4, [.int (iI ca), .ref mb, .ref ms, .ref mm, .ref mf, .ref mz, .int (iI my), .ref mt, .int (iI me), .int (iI mn), .ref mp, .int (iI mi), .ref mq, .int (iI ma), .int (iI mu), .ref mo, .int (iI mw)])), (mm, aE cA 4096 Mk)]) E dX4_free_3 (c_X4_isIn l D cA wh 0 2 (by omega) (by omega) (by omega)) wd_code_X4_isIn wd_3 wd_4 wd_5 (by decide +kernel) ⟨⟨rfl, rfl⟩, ⟨(Nat.le_of_ble_eq_true rfl), (Nat.le_of_ble_eq_true rfl)⟩, ⟨(Nat.le_of_ble_eq_true rfl), (Nat.le_of_ble_eq_true rfl)⟩⟩ [] [0, 1] rfl rfl (by decide) rfl rfl (Nat.le_of_ble_eq_true rfl) (fun z_3 w_3 hw_3 => ?_)
  obtain ⟨h_3, rfl⟩ := hw_3
  refine GG.wss (ws' := [(y, .inr (4, [.int (iI ca), .ref mb, .ref ms, .ref mm, .ref mf, .ref mz, .int (iI my), .ref mt, .int (iI me), .int (iI mn), .ref mp, .int (iI mi), .ref mq, .int (iI ma), .int (iI mu), .ref mo, .int (iI mw)])), (mm, aE cA 4096 Mk)]) [0, 1] (by decide) rfl ?_
  refine g_if_ne (tgt := 12) E dX4_free_6 (by decide) ⟨(by omega), (by omega)⟩ (fun c_6 => ?_) (fun c_6 => ?_)
  · skip
    refine g_iconst E dX4_free_12 ?_
    refine g_istore_n (lv' := [(2, .int (iI 0)), (0, .ref y), (1, .int (iI wh))]) E dX4_free_13 rfl (by decide) rfl ?_
    refine g_iconst E dX4_free_14 ?_
    refine g_istore_n (lv' := [(3, .int (iI 0)), (2, .int (iI 0)), (0, .ref y), (1, .int (iI wh))]) E dX4_free_15 rfl (by decide) rfl ?_
    refine g_iconst E dX4_free_16 ?_
    refine g_istore (lv' := [(4, .int (iI 0)), (3, .int (iI 0)), (2, .int (iI 0)), (0, .ref y), (1, .int (iI wh))]) E dX4_free_17 (by decide) rfl ?_
    refine g_iconst E dX4_free_19 ?_
    refine g_istore (lv' := [(5, .int (iI 0)), (4, .int (iI 0)), (3, .int (iI 0)), (2, .int (iI 0)), (0, .ref y), (1, .int (iI wh))]) E dX4_free_20 (by decide) rfl ?_
    refine g_iconst E dX4_free_22 ?_
    refine g_istore (lv' := [(6, .int (iI 0)), (5, .int (iI 0)), (4, .int (iI 0)), (3, .int (iI 0)), (2, .int (iI 0)), (0, .ref y), (1, .int (iI wh))]) E dX4_free_23 (by decide) rfl ?_
    have L25 : ∀ (fu25 : Nat) (al : Int) (lg : Int) (rws : Int) (row : Int) (k : Int), 0 ≤ k ∧ k ≤ ca ∧ 0 ≤ al ∧ al ≤ k ∧ 0 ≤ lg ∧ lg ≤ k ∧ 0 ≤ rws ∧ rws ≤ k ∧ 0 ≤ row ∧ row ≤ k → fre Mk k.toNat = (al, lg, rws, row) → (ca - k) < (fu25 : Int) → GG p l e ({ frames := 1, cells := 0, slots := 0, locals := 22 }) s m args below meth c D vwCl A 7 (QI D vwCl cA A below args s 0 0 (fun (r : Int) (w : va_W) => (((wh < 0 ∨ 2 < wh) ∧ r = -12) ∨ (wh = 0 ∧ r = (fre Mk ca.toNat).1) ∨ (wh = 1 ∧ r = (fre Mk ca.toNat).2.1) ∨ (wh = 2 ∧ r = (fre Mk ca.toNat).2.2.1)) ∧ (-12 ≤ r ∧ r ≤ 4096) ∧ w = [(y, .inr (4, [.int (iI ca), .ref mb, .ref ms, .ref mm, .ref mf, .ref mz, .int (iI my), .ref mt, .int (iI me), .int (iI mn), .ref mp, .int (iI mi), .ref mq, .int (iI ma), .int (iI mu), .ref mo, .int (iI mw)])), (mm, aE cA 4096 Mk)])) 0 0 [(y, .inr (4, [.int (iI ca), .ref mb, .ref ms, .ref mm, .ref mf, .ref mz, .int (iI my), .ref mt, .int (iI me), .int (iI mn), .ref mp, .int (iI mi), .ref mq, .int (iI ma), .int (iI mu), .ref mo, .int (iI mw)])), (mm, aE cA 4096 Mk)] [(0, .ref y), (1, .int (iI wh)), (2, .int (iI al)), (3, .int (iI lg)), (4, .int (iI rws)), (5, .int (iI row)), (6, .int (iI k))] 25 [] := by
      intro fu25
      induction fu25 with
      | zero => intro al lg rws row k hk hI hmu25; exfalso; omega
      | succ fu25 ih25 =>
        intro al lg rws row k hk hI hmu25
        refine g_iload E dX4_free_25 6 rfl ?_
        refine g_aload_n E dX4_free_27 rfl 0 rfl ?_
        refine g_getfield E dX4_free_28 0 0 rfl rfl (by decide) iX4 wd_116 rfl rfl ?_
        refine g_icmp_ge (tgt := 103) E dX4_free_31 (by decide) ⟨(by omega), (by omega)⟩ ⟨(by omega), (by omega)⟩ (fun c_31 => ?_) (fun c_31 => ?_)
        · skip
          have hI2 : fre Mk ca.toNat = (al, lg, rws, row) := by rw [← hI, show k = ca by omega]
          refine g_iload_n E dX4_free_103 rfl 1 rfl ?_
          refine g_if_ne (tgt := 111) E dX4_free_104 (by decide) ⟨(by omega), (by omega)⟩ (fun c_104 => ?_) (fun c_104 => ?_)
          · skip
            refine g_iload_n E dX4_free_111 rfl 1 rfl ?_
            refine g_iconst E dX4_free_112 ?_
            refine g_icmp_ne (tgt := 120) E dX4_free_113 (by decide) ⟨(by omega), (by omega)⟩ ⟨(by omega), (by omega)⟩ (fun c_113 => ?_) (fun c_113 => ?_)
            · skip
              refine g_iload E dX4_free_120 4 rfl ?_
              refine g_ireturn E dX4_free_122 ?_
              rw [hI2]
              first | exact ⟨Or.inr (Or.inl ⟨c_104, rfl⟩), by omega, rfl⟩ | exact ⟨Or.inr (Or.inr (Or.inl ⟨c_113, rfl⟩)), by omega, rfl⟩ | exact ⟨Or.inr (Or.inr (Or.inr ⟨by omega, rfl⟩)), by omega, rfl⟩
            · skip
              refine g_iload_n E dX4_free_116 rfl 3 rfl ?_
              refine g_goto (tgt := 122) E dX4_free_117 (by decide) ?_
              refine g_ireturn E dX4_free_122 ?_
              rw [hI2]
              first | exact ⟨Or.inr (Or.inl ⟨c_104, rfl⟩), by omega, rfl⟩ | exact ⟨Or.inr (Or.inr (Or.inl ⟨c_113, rfl⟩)), by omega, rfl⟩ | exact ⟨Or.inr (Or.inr (Or.inr ⟨by omega, rfl⟩)), by omega, rfl⟩
          · skip
            refine g_iload_n E dX4_free_107 rfl 2 rfl ?_
            refine g_goto (tgt := 122) E dX4_free_108 (by decide) ?_
            refine g_ireturn E dX4_free_122 ?_
            rw [hI2]
            first | exact ⟨Or.inr (Or.inl ⟨c_104, rfl⟩), by omega, rfl⟩ | exact ⟨Or.inr (Or.inr (Or.inl ⟨c_113, rfl⟩)), by omega, rfl⟩ | exact ⟨Or.inr (Or.inr (Or.inr ⟨by omega, rfl⟩)), by omega, rfl⟩
        · skip
          have L52 : ∀ (row2 : Int), (row2 = row + 1 ∧ Mk k = 0) ∨ (row2 = 0 ∧ Mk k ≠ 0) → GG p l e ({ frames := 1, cells := 0, slots := 0, locals := 22 }) s m args below meth c D vwCl A 7 (QI D vwCl cA A below args s 0 0 (fun (r : Int) (w : va_W) => (((wh < 0 ∨ 2 < wh) ∧ r = -12) ∨ (wh = 0 ∧ r = (fre Mk ca.toNat).1) ∨ (wh = 1 ∧ r = (fre Mk ca.toNat).2.1) ∨ (wh = 2 ∧ r = (fre Mk ca.toNat).2.2.1)) ∧ (-12 ≤ r ∧ r ≤ 4096) ∧ w = [(y, .inr (4, [.int (iI ca), .ref mb, .ref ms, .ref mm, .ref mf, .ref mz, .int (iI my), .ref mt, .int (iI me), .int (iI mn), .ref mp, .int (iI mi), .ref mq, .int (iI ma), .int (iI mu), .ref mo, .int (iI mw)])), (mm, aE cA 4096 Mk)])) 0 0 [(y, .inr (4, [.int (iI ca), .ref mb, .ref ms, .ref mm, .ref mf, .ref mz, .int (iI my), .ref mt, .int (iI me), .int (iI mn), .ref mp, .int (iI mi), .ref mq, .int (iI ma), .int (iI mu), .ref mo, .int (iI mw)])), (mm, aE cA 4096 Mk)] [(0, .ref y), (1, .int (iI wh)), (2, .int (iI al)), (3, .int (iI lg)), (4, .int (iI rws)), (6, .int (iI k))] 52 [.int (iI row2)] := by
            intro row2 hr2
            refine g_istore (lv' := [(5, .int (iI row2)), (0, .ref y), (1, .int (iI wh)), (2, .int (iI al)), (3, .int (iI lg)), (4, .int (iI rws)), (6, .int (iI k))]) E dX4_free_52 (by decide) rfl ?_
            refine g_iload E dX4_free_54 0 rfl ?_
            refine g_if_le (tgt := 65) E dX4_free_56 (by decide) ⟨(by omega), (by omega)⟩ (fun c_56 => ?_) (fun c_56 => ?_)
            · skip
              refine g_iload_n E dX4_free_65 rfl 3 rfl ?_
              refine g_istore_n (lv' := [(2, .int (iI al)), (5, .int (iI row2)), (0, .ref y), (1, .int (iI wh)), (3, .int (iI lg)), (4, .int (iI rws)), (6, .int (iI k))]) E dX4_free_66 rfl (by decide) rfl ?_
              refine g_iload E dX4_free_67 1 rfl ?_
              refine g_iconst E dX4_free_69 ?_
              refine g_icmp_ne (tgt := 80) E dX4_free_70 (by decide) ⟨(by omega), (by omega)⟩ ⟨(by omega), (by omega)⟩ (fun c_70 => ?_) (fun c_70 => ?_)
              · skip
                refine g_iload E dX4_free_80 5 rfl ?_
                refine g_istore (lv' := [(4, .int (iI rws)), (2, .int (iI al)), (5, .int (iI row2)), (0, .ref y), (1, .int (iI wh)), (3, .int (iI lg)), (6, .int (iI k))]) E dX4_free_82 (by decide) rfl ?_
                refine g_iload E dX4_free_84 2 rfl ?_
                refine g_iload_n E dX4_free_86 rfl 5 rfl ?_
                refine g_icmp_le (tgt := 95) E dX4_free_87 (by decide) ⟨(by omega), (by omega)⟩ ⟨(by omega), (by omega)⟩ (fun c_87 => ?_) (fun c_87 => ?_)
                · skip
                  refine g_iload_n E dX4_free_95 rfl 5 rfl ?_
                  refine g_istore_n (lv' := [(3, .int (iI lg)), (4, .int (iI rws)), (2, .int (iI al)), (5, .int (iI row2)), (0, .ref y), (1, .int (iI wh)), (6, .int (iI k))]) E dX4_free_96 rfl (by decide) rfl ?_
                  refine g_iinc (lv' := [(6, .int (iI (k + 1))), (3, .int (iI lg)), (4, .int (iI rws)), (2, .int (iI al)), (5, .int (iI row2)), (0, .ref y), (1, .int (iI wh))]) E dX4_free_97 6 rfl (by decide) rfl ?_
                  refine g_goto (tgt := 25) E dX4_free_100 (by decide) ?_
                  refine GG.lvs (lv' := [(0, .ref y), (1, .int (iI wh)), (2, .int (iI al)), (3, .int (iI lg)), (4, .int (iI rws)), (5, .int (iI row2)), (6, .int (iI (k + 1)))]) [5, 6, 3, 1, 2, 4, 0] rfl ?_
                  exact ih25 al lg rws row2 (k + 1) (by omega) (by exact fre_step hk.1 hI hr2 (by omega) (by omega) (by omega) (by omega) (by omega)) (by omega)
                · skip
                  refine g_iload E dX4_free_90 2 rfl ?_
                  refine g_goto (tgt := 96) E dX4_free_92 (by decide) ?_
                  refine g_istore_n (lv' := [(3, .int (iI row2)), (4, .int (iI rws)), (2, .int (iI al)), (5, .int (iI row2)), (0, .ref y), (1, .int (iI wh)), (6, .int (iI k))]) E dX4_free_96 rfl (by decide) rfl ?_
                  refine g_iinc (lv' := [(6, .int (iI (k + 1))), (3, .int (iI row2)), (4, .int (iI rws)), (2, .int (iI al)), (5, .int (iI row2)), (0, .ref y), (1, .int (iI wh))]) E dX4_free_97 6 rfl (by decide) rfl ?_
                  refine g_goto (tgt := 25) E dX4_free_100 (by decide) ?_
                  refine GG.lvs (lv' := [(0, .ref y), (1, .int (iI wh)), (2, .int (iI al)), (3, .int (iI row2)), (4, .int (iI rws)), (5, .int (iI row2)), (6, .int (iI (k + 1)))]) [5, 6, 3, 1, 2, 4, 0] rfl ?_
                  exact ih25 al row2 rws row2 (k + 1) (by omega) (by exact fre_step hk.1 hI hr2 (by omega) (by omega) (by omega) (by omega) (by omega)) (by omega)
              · skip
                refine g_iload E dX4_free_73 5 rfl ?_
                refine g_iconst E dX4_free_75 ?_
                refine g_iadd E dX4_free_76 ?_
                refine g_goto (tgt := 82) E dX4_free_77 (by decide) ?_
                refine g_istore (lv' := [(4, .int (iI (rws + 1))), (2, .int (iI al)), (5, .int (iI row2)), (0, .ref y), (1, .int (iI wh)), (3, .int (iI lg)), (6, .int (iI k))]) E dX4_free_82 (by decide) rfl ?_
                refine g_iload E dX4_free_84 2 rfl ?_
                refine g_iload_n E dX4_free_86 rfl 5 rfl ?_
                refine g_icmp_le (tgt := 95) E dX4_free_87 (by decide) ⟨(by omega), (by omega)⟩ ⟨(by omega), (by omega)⟩ (fun c_87 => ?_) (fun c_87 => ?_)
                · skip
                  refine g_iload_n E dX4_free_95 rfl 5 rfl ?_
                  refine g_istore_n (lv' := [(3, .int (iI lg)), (4, .int (iI (rws + 1))), (2, .int (iI al)), (5, .int (iI row2)), (0, .ref y), (1, .int (iI wh)), (6, .int (iI k))]) E dX4_free_96 rfl (by decide) rfl ?_
                  refine g_iinc (lv' := [(6, .int (iI (k + 1))), (3, .int (iI lg)), (4, .int (iI (rws + 1))), (2, .int (iI al)), (5, .int (iI row2)), (0, .ref y), (1, .int (iI wh))]) E dX4_free_97 6 rfl (by decide) rfl ?_
                  refine g_goto (tgt := 25) E dX4_free_100 (by decide) ?_
                  refine GG.lvs (lv' := [(0, .ref y), (1, .int (iI wh)), (2, .int (iI al)), (3, .int (iI lg)), (4, .int (iI (rws + 1))), (5, .int (iI row2)), (6, .int (iI (k + 1)))]) [5, 6, 3, 1, 2, 4, 0] rfl ?_
                  exact ih25 al lg (rws + 1) row2 (k + 1) (by omega) (by exact fre_step hk.1 hI hr2 (by omega) (by omega) (by omega) (by omega) (by omega)) (by omega)
                · skip
                  refine g_iload E dX4_free_90 2 rfl ?_
                  refine g_goto (tgt := 96) E dX4_free_92 (by decide) ?_
                  refine g_istore_n (lv' := [(3, .int (iI row2)), (4, .int (iI (rws + 1))), (2, .int (iI al)), (5, .int (iI row2)), (0, .ref y), (1, .int (iI wh)), (6, .int (iI k))]) E dX4_free_96 rfl (by decide) rfl ?_
                  refine g_iinc (lv' := [(6, .int (iI (k + 1))), (3, .int (iI row2)), (4, .int (iI (rws + 1))), (2, .int (iI al)), (5, .int (iI row2)), (0, .ref y), (1, .int (iI wh))]) E dX4_free_97 6 rfl (by decide) rfl ?_
                  refine g_goto (tgt := 25) E dX4_free_100 (by decide) ?_
                  refine GG.lvs (lv' := [(0, .ref y), (1, .int (iI wh)), (2, .int (iI al)), (3, .int (iI row2)), (4, .int (iI (rws + 1))), (5, .int (iI row2)), (6, .int (iI (k + 1)))]) [5, 6, 3, 1, 2, 4, 0] rfl ?_
                  exact ih25 al row2 (rws + 1) row2 (k + 1) (by omega) (by exact fre_step hk.1 hI hr2 (by omega) (by omega) (by omega) (by omega) (by omega)) (by omega)
            · skip
              refine g_iload_n E dX4_free_59 rfl 3 rfl ?_
              refine g_iconst E dX4_free_60 ?_
              refine g_iadd E dX4_free_61 ?_
              refine g_goto (tgt := 66) E dX4_free_62 (by decide) ?_
              refine g_istore_n (lv' := [(2, .int (iI (al + 1))), (5, .int (iI row2)), (0, .ref y), (1, .int (iI wh)), (3, .int (iI lg)), (4, .int (iI rws)), (6, .int (iI k))]) E dX4_free_66 rfl (by decide) rfl ?_
              refine g_iload E dX4_free_67 1 rfl ?_
              refine g_iconst E dX4_free_69 ?_
              refine g_icmp_ne (tgt := 80) E dX4_free_70 (by decide) ⟨(by omega), (by omega)⟩ ⟨(by omega), (by omega)⟩ (fun c_70 => ?_) (fun c_70 => ?_)
              · skip
                refine g_iload E dX4_free_80 5 rfl ?_
                refine g_istore (lv' := [(4, .int (iI rws)), (2, .int (iI (al + 1))), (5, .int (iI row2)), (0, .ref y), (1, .int (iI wh)), (3, .int (iI lg)), (6, .int (iI k))]) E dX4_free_82 (by decide) rfl ?_
                refine g_iload E dX4_free_84 2 rfl ?_
                refine g_iload_n E dX4_free_86 rfl 5 rfl ?_
                refine g_icmp_le (tgt := 95) E dX4_free_87 (by decide) ⟨(by omega), (by omega)⟩ ⟨(by omega), (by omega)⟩ (fun c_87 => ?_) (fun c_87 => ?_)
                · skip
                  refine g_iload_n E dX4_free_95 rfl 5 rfl ?_
                  refine g_istore_n (lv' := [(3, .int (iI lg)), (4, .int (iI rws)), (2, .int (iI (al + 1))), (5, .int (iI row2)), (0, .ref y), (1, .int (iI wh)), (6, .int (iI k))]) E dX4_free_96 rfl (by decide) rfl ?_
                  refine g_iinc (lv' := [(6, .int (iI (k + 1))), (3, .int (iI lg)), (4, .int (iI rws)), (2, .int (iI (al + 1))), (5, .int (iI row2)), (0, .ref y), (1, .int (iI wh))]) E dX4_free_97 6 rfl (by decide) rfl ?_
                  refine g_goto (tgt := 25) E dX4_free_100 (by decide) ?_
                  refine GG.lvs (lv' := [(0, .ref y), (1, .int (iI wh)), (2, .int (iI (al + 1))), (3, .int (iI lg)), (4, .int (iI rws)), (5, .int (iI row2)), (6, .int (iI (k + 1)))]) [5, 6, 3, 1, 2, 4, 0] rfl ?_
                  exact ih25 (al + 1) lg rws row2 (k + 1) (by omega) (by exact fre_step hk.1 hI hr2 (by omega) (by omega) (by omega) (by omega) (by omega)) (by omega)
                · skip
                  refine g_iload E dX4_free_90 2 rfl ?_
                  refine g_goto (tgt := 96) E dX4_free_92 (by decide) ?_
                  refine g_istore_n (lv' := [(3, .int (iI row2)), (4, .int (iI rws)), (2, .int (iI (al + 1))), (5, .int (iI row2)), (0, .ref y), (1, .int (iI wh)), (6, .int (iI k))]) E dX4_free_96 rfl (by decide) rfl ?_
                  refine g_iinc (lv' := [(6, .int (iI (k + 1))), (3, .int (iI row2)), (4, .int (iI rws)), (2, .int (iI (al + 1))), (5, .int (iI row2)), (0, .ref y), (1, .int (iI wh))]) E dX4_free_97 6 rfl (by decide) rfl ?_
                  refine g_goto (tgt := 25) E dX4_free_100 (by decide) ?_
                  refine GG.lvs (lv' := [(0, .ref y), (1, .int (iI wh)), (2, .int (iI (al + 1))), (3, .int (iI row2)), (4, .int (iI rws)), (5, .int (iI row2)), (6, .int (iI (k + 1)))]) [5, 6, 3, 1, 2, 4, 0] rfl ?_
                  exact ih25 (al + 1) row2 rws row2 (k + 1) (by omega) (by exact fre_step hk.1 hI hr2 (by omega) (by omega) (by omega) (by omega) (by omega)) (by omega)
              · skip
                refine g_iload E dX4_free_73 5 rfl ?_
                refine g_iconst E dX4_free_75 ?_
                refine g_iadd E dX4_free_76 ?_
                refine g_goto (tgt := 82) E dX4_free_77 (by decide) ?_
                refine g_istore (lv' := [(4, .int (iI (rws + 1))), (2, .int (iI (al + 1))), (5, .int (iI row2)), (0, .ref y), (1, .int (iI wh)), (3, .int (iI lg)), (6, .int (iI k))]) E dX4_free_82 (by decide) rfl ?_
                refine g_iload E dX4_free_84 2 rfl ?_
                refine g_iload_n E dX4_free_86 rfl 5 rfl ?_
                refine g_icmp_le (tgt := 95) E dX4_free_87 (by decide) ⟨(by omega), (by omega)⟩ ⟨(by omega), (by omega)⟩ (fun c_87 => ?_) (fun c_87 => ?_)
                · skip
                  refine g_iload_n E dX4_free_95 rfl 5 rfl ?_
                  refine g_istore_n (lv' := [(3, .int (iI lg)), (4, .int (iI (rws + 1))), (2, .int (iI (al + 1))), (5, .int (iI row2)), (0, .ref y), (1, .int (iI wh)), (6, .int (iI k))]) E dX4_free_96 rfl (by decide) rfl ?_
                  refine g_iinc (lv' := [(6, .int (iI (k + 1))), (3, .int (iI lg)), (4, .int (iI (rws + 1))), (2, .int (iI (al + 1))), (5, .int (iI row2)), (0, .ref y), (1, .int (iI wh))]) E dX4_free_97 6 rfl (by decide) rfl ?_
                  refine g_goto (tgt := 25) E dX4_free_100 (by decide) ?_
                  refine GG.lvs (lv' := [(0, .ref y), (1, .int (iI wh)), (2, .int (iI (al + 1))), (3, .int (iI lg)), (4, .int (iI (rws + 1))), (5, .int (iI row2)), (6, .int (iI (k + 1)))]) [5, 6, 3, 1, 2, 4, 0] rfl ?_
                  exact ih25 (al + 1) lg (rws + 1) row2 (k + 1) (by omega) (by exact fre_step hk.1 hI hr2 (by omega) (by omega) (by omega) (by omega) (by omega)) (by omega)
                · skip
                  refine g_iload E dX4_free_90 2 rfl ?_
                  refine g_goto (tgt := 96) E dX4_free_92 (by decide) ?_
                  refine g_istore_n (lv' := [(3, .int (iI row2)), (4, .int (iI (rws + 1))), (2, .int (iI (al + 1))), (5, .int (iI row2)), (0, .ref y), (1, .int (iI wh)), (6, .int (iI k))]) E dX4_free_96 rfl (by decide) rfl ?_
                  refine g_iinc (lv' := [(6, .int (iI (k + 1))), (3, .int (iI row2)), (4, .int (iI (rws + 1))), (2, .int (iI (al + 1))), (5, .int (iI row2)), (0, .ref y), (1, .int (iI wh))]) E dX4_free_97 6 rfl (by decide) rfl ?_
                  refine g_goto (tgt := 25) E dX4_free_100 (by decide) ?_
                  refine GG.lvs (lv' := [(0, .ref y), (1, .int (iI wh)), (2, .int (iI (al + 1))), (3, .int (iI row2)), (4, .int (iI (rws + 1))), (5, .int (iI row2)), (6, .int (iI (k + 1)))]) [5, 6, 3, 1, 2, 4, 0] rfl ?_
                  exact ih25 (al + 1) row2 (rws + 1) row2 (k + 1) (by omega) (by exact fre_step hk.1 hI hr2 (by omega) (by omega) (by omega) (by omega) (by omega)) (by omega)
          refine g_aload_n E dX4_free_34 rfl 0 rfl ?_
          refine g_getfield E dX4_free_35 0 3 rfl rfl (by decide) iX4 wd_117 rfl rfl ?_
          refine g_iload E dX4_free_38 6 rfl ?_
          refine g_iaload E dX4_free_40 1 rfl (by omega) (by omega) (by omega) ?_
          have hm := hMk k (by omega) (by omega)
          refine g_if_ne (tgt := 51) E dX4_free_41 (by decide) ⟨(by omega), (by omega)⟩ (fun c_41 => ?_) (fun c_41 => ?_)
          · skip
            refine g_iconst E dX4_free_51 ?_
            refine GG.lvs (lv' := [(0, .ref y), (1, .int (iI wh)), (2, .int (iI al)), (3, .int (iI lg)), (4, .int (iI rws)), (6, .int (iI k))]) [0, 1, 2, 3, 4, 6] rfl ?_
            exact L52 0 (by omega)
          · skip
            refine g_iload E dX4_free_44 5 rfl ?_
            refine g_iconst E dX4_free_46 ?_
            refine g_iadd E dX4_free_47 ?_
            refine g_goto (tgt := 52) E dX4_free_48 (by decide) ?_
            refine GG.lvs (lv' := [(0, .ref y), (1, .int (iI wh)), (2, .int (iI al)), (3, .int (iI lg)), (4, .int (iI rws)), (6, .int (iI k))]) [0, 1, 2, 3, 4, 6] rfl ?_
            exact L52 (row + 1) (by omega)
    refine GG.lvs (lv' := [(0, .ref y), (1, .int (iI wh)), (2, .int (iI 0)), (3, .int (iI 0)), (4, .int (iI 0)), (5, .int (iI 0)), (6, .int (iI 0))]) [5, 6, 4, 3, 2, 1, 0] rfl ?_
    exact L25 ((ca - 0 : Int).toNat + 1) 0 0 0 0 0 (by omega) (by rfl) (by omega)
  · skip
    refine g_bipush E dX4_free_9 (by decide) ?_
    refine g_ireturn E dX4_free_11 ?_
    exact ⟨Or.inl ⟨by omega, rfl⟩, by omega, rfl⟩
set_option maxHeartbeats 4000000 in
set_option maxRecDepth 100000 in
theorem c_X4_stored (l : Launch) (D : va_G) (cA : ClassId) (y : Nat) (mb : Nat) (ms : Nat) (mm : Nat) (mf : Nat) (mz : Nat) (mt : Nat) (mp : Nat) (mq : Nat) (mo : Nat) (ca : Int) (my : Int) (me : Int) (mn : Int) (mi : Int) (ma : Int) (mu : Int) (mw : Int) (St : Int → Int) (i : Int) (hca : 0 ≤ ca ∧ ca ≤ 4096) (hi : iB i) : Ci l D vwCl cA yX4_stored (.code yX4_stored cX4_stored 2 (some .int) :: UW) ({ frames := 1, cells := 0, slots := 0, locals := 22 }) 0 0 [.ref y, .int (iI i)] [(y, .inr (4, [.int (iI ca), .ref mb, .ref ms, .ref mm, .ref mf, .ref mz, .int (iI my), .ref mt, .int (iI me), .int (iI mn), .ref mp, .int (iI mi), .ref mq, .int (iI ma), .int (iI mu), .ref mo, .int (iI mw)])), (ms, aE cA 4096 St)] (fun (r : Int) (w : va_W) => r = storedR ca St i ∧ w = [(y, .inr (4, [.int (iI ca), .ref mb, .ref ms, .ref mm, .ref mf, .ref mz, .int (iI my), .ref mt, .int (iI me), .int (iI mn), .ref mp, .int (iI mi), .ref mq, .int (iI ma), .int (iI mu), .ref mo, .int (iI mw)])), (ms, aE cA 4096 St)]) := by
  refine Ci.mk (by decide) (Nat.le_of_ble_eq_true rfl) ?_
  intro p e s m args below meth c A E
  refine GG.lvs (lv' := [(0, .ref y), (1, .int (iI i))]) [0, 1] rfl ?_
  refine g_iload_n E dX4_stored_0 rfl 1 rfl ?_
  refine g_iconst E dX4_stored_1 ?_
  refine g_aload_n E dX4_stored_2 rfl 0 rfl ?_
  refine g_getfield E dX4_stored_3 0 0 rfl rfl (by decide) iX4 wd_116 rfl rfl ?_
  refine g_iconst E dX4_stored_6 ?_
  refine g_isub E dX4_stored_7 ?_
  refine g_callS (n := 3) (As := [.int (iI i), .int (iI 0), .int (iI (ca - 1))]) (rest := []) (wr := [(y, .inr (4, [.int (iI ca), .ref mb, .ref ms, .ref mm, .ref mf, .ref mz, .int (iI my), .ref mt, .int (iI me), .int (iI mn), .ref mp, .int (iI mi), .ref mq, .int (iI ma), .int (iI mu), .ref mo, .int (iI mw)])), (ms, aE cA 4096 St)]) E dX4_stored_8 (c_X4_isIn l D cA i 0 (ca - 1) (by omega) (by omega) (by omega)) wd_code_X4_isIn wd_3 wd_4 wd_5 (by decide +kernel) ⟨⟨rfl, rfl⟩, ⟨(Nat.le_of_ble_eq_true rfl), (Nat.le_of_ble_eq_true rfl)⟩, ⟨(Nat.le_of_ble_eq_true rfl), (Nat.le_of_ble_eq_true rfl)⟩⟩ [] [0, 1] rfl rfl (by decide) rfl rfl (Nat.le_of_ble_eq_true rfl) (fun z_8 w_8 hw_8 => ?_)
  obtain ⟨h_8, rfl⟩ := hw_8
  refine GG.wss (ws' := [(y, .inr (4, [.int (iI ca), .ref mb, .ref ms, .ref mm, .ref mf, .ref mz, .int (iI my), .ref mt, .int (iI me), .int (iI mn), .ref mp, .int (iI mi), .ref mq, .int (iI ma), .int (iI mu), .ref mo, .int (iI mw)])), (ms, aE cA 4096 St)]) [0, 1] (by decide) rfl ?_
  refine g_if_eq (tgt := 23) E dX4_stored_11 (by decide) ⟨(by omega), (by omega)⟩ (fun c_11 => ?_) (fun c_11 => ?_)
  · skip
    refine g_iconst E dX4_stored_23 ?_
    refine g_ireturn E dX4_stored_24 ?_
    refine ⟨?_, rfl⟩; unfold storedR; (split <;> first | rfl | omega)
  · skip
    refine g_aload_n E dX4_stored_14 rfl 0 rfl ?_
    refine g_getfield E dX4_stored_15 0 2 rfl rfl (by decide) iX4 wd_118 rfl rfl ?_
    refine g_iload_n E dX4_stored_18 rfl 1 rfl ?_
    refine g_iaload E dX4_stored_19 1 rfl (by omega) (by omega) (by omega) ?_
    refine g_goto (tgt := 24) E dX4_stored_20 (by decide) ?_
    refine g_ireturn E dX4_stored_24 ?_
    refine ⟨?_, rfl⟩; unfold storedR; (split <;> first | rfl | omega)
set_option maxHeartbeats 4000000 in
set_option maxRecDepth 100000 in
theorem c_X4_alter (l : Launch) (D : va_G) (cA : ClassId) (y : Nat) (mb : Nat) (ms : Nat) (mm : Nat) (mf : Nat) (mz : Nat) (mt : Nat) (mp : Nat) (mq : Nat) (mo : Nat) (ca : Int) (my : Int) (me : Int) (mn : Int) (mi : Int) (ma : Int) (mu : Int) (mw : Int) (St : Int → Int) (i : Int) (v : Int) (hca : 0 ≤ ca ∧ ca ≤ 4096) (hi : iB i) (hv : iB v) (hSt : byR ca St) : Ci l D vwCl cA yX4_alter (.code yX4_alter cX4_alter 3 (some .int) :: UW) ({ frames := 1, cells := 0, slots := 0, locals := 22 }) 0 0 [.ref y, .int (iI i), .int (iI v)] [(y, .inr (4, [.int (iI ca), .ref mb, .ref ms, .ref mm, .ref mf, .ref mz, .int (iI my), .ref mt, .int (iI me), .int (iI mn), .ref mp, .int (iI mi), .ref mq, .int (iI ma), .int (iI mu), .ref mo, .int (iI mw)])), (ms, aE cA 4096 St)] (fun (r : Int) (w : va_W) => r = alterR ca i ∧ w = [(y, .inr (4, [.int (iI ca), .ref mb, .ref ms, .ref mm, .ref mf, .ref mz, .int (iI my), .ref mt, .int (iI me), .int (iI mn), .ref mp, .int (iI mi), .ref mq, .int (iI ma), .int (iI mu), .ref mo, .int (iI mw)])), (ms, aE cA 4096 (alterS ca St i v))]) := by
  refine Ci.mk (by decide) (Nat.le_of_ble_eq_true rfl) ?_
  intro p e s m args below meth c A E
  refine GG.lvs (lv' := [(0, .ref y), (1, .int (iI i)), (2, .int (iI v))]) [0, 1, 2] rfl ?_
  refine g_iload_n E dX4_alter_0 rfl 1 rfl ?_
  refine g_iconst E dX4_alter_1 ?_
  refine g_aload_n E dX4_alter_2 rfl 0 rfl ?_
  refine g_getfield E dX4_alter_3 0 0 rfl rfl (by decide) iX4 wd_116 rfl rfl ?_
  refine g_iconst E dX4_alter_6 ?_
  refine g_isub E dX4_alter_7 ?_
  refine g_callS (n := 3) (As := [.int (iI i), .int (iI 0), .int (iI (ca - 1))]) (rest := []) (wr := [(y, .inr (4, [.int (iI ca), .ref mb, .ref ms, .ref mm, .ref mf, .ref mz, .int (iI my), .ref mt, .int (iI me), .int (iI mn), .ref mp, .int (iI mi), .ref mq, .int (iI ma), .int (iI mu), .ref mo, .int (iI mw)])), (ms, aE cA 4096 St)]) E dX4_alter_8 (c_X4_isIn l D cA i 0 (ca - 1) (by omega) (by omega) (by omega)) wd_code_X4_isIn wd_3 wd_4 wd_5 (by decide +kernel) ⟨⟨rfl, rfl⟩, ⟨(Nat.le_of_ble_eq_true rfl), (Nat.le_of_ble_eq_true rfl)⟩, ⟨(Nat.le_of_ble_eq_true rfl), (Nat.le_of_ble_eq_true rfl)⟩⟩ [] [0, 1] rfl rfl (by decide) rfl rfl (Nat.le_of_ble_eq_true rfl) (fun z_8 w_8 hw_8 => ?_)
  obtain ⟨h_8, rfl⟩ := hw_8
  refine GG.wss (ws' := [(y, .inr (4, [.int (iI ca), .ref mb, .ref ms, .ref mm, .ref mf, .ref mz, .int (iI my), .ref mt, .int (iI me), .int (iI mn), .ref mp, .int (iI mi), .ref mq, .int (iI ma), .int (iI mu), .ref mo, .int (iI mw)])), (ms, aE cA 4096 St)]) [0, 1] (by decide) rfl ?_
  refine g_if_ne (tgt := 17) E dX4_alter_11 (by decide) ⟨(by omega), (by omega)⟩ (fun c_11 => ?_) (fun c_11 => ?_)
  · skip
    refine g_aload_n E dX4_alter_17 rfl 0 rfl ?_
    refine g_getfield E dX4_alter_18 0 2 rfl rfl (by decide) iX4 wd_118 rfl rfl ?_
    refine g_iload_n E dX4_alter_21 rfl 1 rfl ?_
    refine g_aload_n E dX4_alter_22 rfl 0 rfl ?_
    refine g_getfield E dX4_alter_23 0 2 rfl rfl (by decide) iX4 wd_118 rfl rfl ?_
    refine g_iload_n E dX4_alter_26 rfl 1 rfl ?_
    refine g_iaload E dX4_alter_27 1 rfl (by omega) (by omega) (by omega) ?_
    have hs := hSt i (by omega) (by omega)
    refine g_iload_n E dX4_alter_28 rfl 2 rfl ?_
    refine g_sipush E dX4_alter_29 (by decide) ?_
    refine g_iand255 E dX4_alter_32 ?_
    refine g_ixor E dX4_alter_33 (by omega) (by omega) ?_
    refine g_iastore (ws' := [(y, .inr (4, [.int (iI ca), .ref mb, .ref ms, .ref mm, .ref mf, .ref mz, .int (iI my), .ref mt, .int (iI me), .int (iI mn), .ref mp, .int (iI mi), .ref mq, .int (iI ma), .int (iI mu), .ref mo, .int (iI mw)])), (ms, aE cA 4096 (up St i (xr (St i) (v % 256))))]) E dX4_alter_34 1 rfl (by omega) (by omega) (by omega) rfl ?_
    refine g_iconst E dX4_alter_35 ?_
    refine g_ireturn E dX4_alter_36 ?_
    have hc : 0 ≤ i ∧ i < ca := by omega
    exact ⟨by rw [alterR, if_pos hc], by rw [alterS, if_pos hc]⟩
  · skip
    refine g_bipush E dX4_alter_14 (by decide) ?_
    refine g_ireturn E dX4_alter_16 ?_
    have hc : ¬ (0 ≤ i ∧ i < ca) := by omega
    exact ⟨by rw [alterR, if_neg hc], by rw [alterS, if_neg hc]⟩
set_option maxHeartbeats 4000000 in
set_option maxRecDepth 100000 in
theorem c_X4_compact (l : Launch) (D : va_G) (cA : ClassId) (y : Nat) (mb : Nat) (ms : Nat) (mm : Nat) (mf : Nat) (mz : Nat) (mt : Nat) (mp : Nat) (mq : Nat) (mo : Nat) (ca : Int) (my : Int) (me : Int) (mn : Int) (mi : Int) (ma : Int) (mu : Int) (mw : Int) (Mk : Int → Int) (St : Int → Int) (hca : 0 ≤ ca ∧ ca ≤ 4096) (hMk : mkR Mk) : Ci l D vwCl cA yX4_compact (.code yX4_compact cX4_compact 1 (some .int) :: UW) ({ frames := 1, cells := 0, slots := 0, locals := 23 }) 0 0 [.ref y] [(y, .inr (4, [.int (iI ca), .ref mb, .ref ms, .ref mm, .ref mf, .ref mz, .int (iI my), .ref mt, .int (iI me), .int (iI mn), .ref mp, .int (iI mi), .ref mq, .int (iI ma), .int (iI mu), .ref mo, .int (iI mw)])), (mm, aE cA 4096 Mk), (ms, aE cA 4096 St)] (fun (r : Int) (w : va_W) => ∃ (TG : (Int → Int) × (Int → Int) × Int × Int), TG = tg St Mk ca.toNat ∧ r = TG.2.2.2 ∧ mkR TG.2.1 ∧ w = [(y, .inr (4, [.int (iI ca), .ref mb, .ref ms, .ref mm, .ref mf, .ref mz, .int (iI my), .ref mt, .int (iI me), .int (iI mn), .ref mp, .int (iI mi), .ref mq, .int (iI ma), .int (iI mu), .ref mo, .int (iI mw)])), (mm, aE cA 4096 TG.2.1), (ms, aE cA 4096 TG.1)]) := by
  refine Ci.mk (by decide) (Nat.le_of_ble_eq_true rfl) ?_
  intro p e s m args below meth c A E
  refine GG.lvs (lv' := [(0, .ref y)]) [0] rfl ?_
  refine g_aload_n E dX4_compact_0 rfl 0 rfl ?_
  refine g_callV (n := 0) (As := []) (rest := []) (wr := []) E dX4_compact_1 (c_X4_together l D cA y mb ms mm mf mz mt mp mq mo ca my me mn mi ma mu mw Mk St (by omega) (by omega)) wd_code_X4_together wd_119 wd_120 wd_121 wd_122 (by decide +kernel) ⟨⟨rfl, rfl⟩, ⟨(Nat.le_of_ble_eq_true rfl), (Nat.le_of_ble_eq_true rfl)⟩, ⟨(Nat.le_of_ble_eq_true rfl), (Nat.le_of_ble_eq_true rfl)⟩⟩ [0, 1, 2] [] rfl rfl (by decide) 0 rfl rfl rfl rfl (Nat.le_of_ble_eq_true rfl) (fun z_1 w_1 hw_1 => ?_)
  obtain ⟨TG_1, hT_1, hr_1, hm_1, rfl⟩ := hw_1
  refine GG.wss (ws' := [(y, .inr (4, [.int (iI ca), .ref mb, .ref ms, .ref mm, .ref mf, .ref mz, .int (iI my), .ref mt, .int (iI me), .int (iI mn), .ref mp, .int (iI mi), .ref mq, .int (iI ma), .int (iI mu), .ref mo, .int (iI mw)])), (mm, aE cA 4096 TG_1.2.1), (ms, aE cA 4096 TG_1.1)]) [0, 1, 2] (by decide) rfl ?_
  refine g_ireturn E dX4_compact_4 ?_
  exact ⟨TG_1, hT_1, hr_1, hm_1, rfl⟩
set_option maxHeartbeats 4000000 in
set_option maxRecDepth 100000 in
theorem c_X4_trim (l : Launch) (D : va_G) (cA : ClassId) (y : Nat) (mb : Nat) (ms : Nat) (mm : Nat) (mf : Nat) (mz : Nat) (mt : Nat) (mp : Nat) (mq : Nat) (mo : Nat) (ca : Int) (my : Int) (me : Int) (mn : Int) (mi : Int) (ma : Int) (mu : Int) (mw : Int) (Mk : Int → Int) (K : Int → Int) (b : Int) (hca : 0 ≤ ca ∧ ca ≤ 4096) (hMk : mkR Mk) (hb : iB b) : Ci l D vwCl cA yX4_trim (.code yX4_trim cX4_trim 3 (some .int) :: UW) ({ frames := 2, cells := 0, slots := 0, locals := 43 }) 0 0 [.ref y, .int (iI b)] [(y, .inr (4, [.int (iI ca), .ref mb, .ref ms, .ref mm, .ref mf, .ref mz, .int (iI my), .ref mt, .int (iI me), .int (iI mn), .ref mp, .int (iI mi), .ref mq, .int (iI ma), .int (iI mu), .ref mo, .int (iI mw)])), (mm, aE cA 4096 Mk), (mf, aE cA 32 K)] (fun (r : Int) (w : va_W) => ∃ (Mk2 : Int → Int) (K2 : Int → Int), ((0 ≤ b ∧ b < 32 ∧ r = cnt Mk (b + 1) ca.toNat ∧ Mk2 = rel ca Mk b ∧ K2 = up K b 0) ∨ ((b < 0 ∨ 32 ≤ b) ∧ r = -11 ∧ Mk2 = Mk ∧ K2 = K)) ∧ w = [(y, .inr (4, [.int (iI ca), .ref mb, .ref ms, .ref mm, .ref mf, .ref mz, .int (iI my), .ref mt, .int (iI me), .int (iI mn), .ref mp, .int (iI mi), .ref mq, .int (iI ma), .int (iI mu), .ref mo, .int (iI mw)])), (mm, aE cA 4096 Mk2), (mf, aE cA 32 K2)]) := by
  refine Ci.mk (by decide) (Nat.le_of_ble_eq_true rfl) ?_
  intro p e s m args below meth c A E
  refine GG.lvs (lv' := [(0, .ref y), (1, .int (iI b))]) [0, 1] rfl ?_
  refine g_aload_n E dX4_trim_0 rfl 0 rfl ?_
  refine g_iload_n E dX4_trim_1 rfl 1 rfl ?_
  refine g_callV (n := 1) (As := [.int (iI b)]) (rest := []) (wr := [(mm, aE cA 4096 Mk), (mf, aE cA 32 K)]) E dX4_trim_2 (c_X4_isBlock l D cA y mb ms mm mf mz mt mp mq mo ca my me mn mi ma mu mw b (by omega)) wd_code_X4_isBlock wd_123 wd_124 wd_125 wd_126 (by decide +kernel) ⟨⟨rfl, rfl⟩, ⟨(Nat.le_of_ble_eq_true rfl), (Nat.le_of_ble_eq_true rfl)⟩, ⟨(Nat.le_of_ble_eq_true rfl), (Nat.le_of_ble_eq_true rfl)⟩⟩ [0] [1, 2] rfl rfl (by decide) 0 rfl rfl rfl rfl (Nat.le_of_ble_eq_true rfl) (fun z_2 w_2 hw_2 => ?_)
  obtain ⟨h_2, rfl⟩ := hw_2
  refine GG.wss (ws' := [(y, .inr (4, [.int (iI ca), .ref mb, .ref ms, .ref mm, .ref mf, .ref mz, .int (iI my), .ref mt, .int (iI me), .int (iI mn), .ref mp, .int (iI mi), .ref mq, .int (iI ma), .int (iI mu), .ref mo, .int (iI mw)])), (mm, aE cA 4096 Mk), (mf, aE cA 32 K)]) [2, 0, 1] (by decide) rfl ?_
  refine g_if_ne (tgt := 11) E dX4_trim_5 (by decide) ⟨(by omega), (by omega)⟩ (fun c_5 => ?_) (fun c_5 => ?_)
  · skip
    refine g_aload_n E dX4_trim_11 rfl 0 rfl ?_
    refine g_iload_n E dX4_trim_12 rfl 1 rfl ?_
    refine g_callV (n := 1) (As := [.int (iI b)]) (rest := []) (wr := [(mf, aE cA 32 K)]) E dX4_trim_13 (c_X4_sizeOf l D cA y mb ms mm mf mz mt mp mq mo ca my me mn mi ma mu mw Mk b (by omega) (by omega) (by omega)) wd_code_X4_sizeOf wd_127 wd_128 wd_129 wd_130 (by decide +kernel) ⟨⟨rfl, rfl⟩, ⟨(Nat.le_of_ble_eq_true rfl), (Nat.le_of_ble_eq_true rfl)⟩, ⟨(Nat.le_of_ble_eq_true rfl), (Nat.le_of_ble_eq_true rfl)⟩⟩ [0, 1] [2] rfl rfl (by decide) 0 rfl rfl rfl rfl (Nat.le_of_ble_eq_true rfl) (fun z_13 w_13 hw_13 => ?_)
    obtain ⟨hr_13, hr2_13, rfl⟩ := hw_13
    refine GG.wss (ws' := [(y, .inr (4, [.int (iI ca), .ref mb, .ref ms, .ref mm, .ref mf, .ref mz, .int (iI my), .ref mt, .int (iI me), .int (iI mn), .ref mp, .int (iI mi), .ref mq, .int (iI ma), .int (iI mu), .ref mo, .int (iI mw)])), (mm, aE cA 4096 Mk), (mf, aE cA 32 K)]) [1, 2, 0] (by decide) rfl ?_
    refine g_istore_n (lv' := [(2, .int (iI z_13)), (0, .ref y), (1, .int (iI b))]) E dX4_trim_16 rfl (by decide) rfl ?_
    refine g_aload_n E dX4_trim_17 rfl 1 rfl ?_
    refine g_iload_n E dX4_trim_18 rfl 2 rfl ?_
    refine g_callVv (n := 1) (As := [.int (iI b)]) (rest := []) (wr := [(mf, aE cA 32 K)]) E dX4_trim_19 (c_X4_release l D cA y mb ms mm mf mz mt mp mq mo ca my me mn mi ma mu mw Mk b (by omega) (by omega) (by omega)) wd_code_X4_release wd_131 wd_132 wd_133 wd_134 (by decide +kernel) ⟨⟨rfl, rfl⟩, ⟨(Nat.le_of_ble_eq_true rfl), (Nat.le_of_ble_eq_true rfl)⟩, ⟨(Nat.le_of_ble_eq_true rfl), (Nat.le_of_ble_eq_true rfl)⟩⟩ [0, 1] [2] rfl rfl (by decide) 0 rfl rfl rfl rfl (Nat.le_of_ble_eq_true rfl) (fun w_19 hw_19 => ?_)
    subst hw_19
    refine GG.wss (ws' := [(y, .inr (4, [.int (iI ca), .ref mb, .ref ms, .ref mm, .ref mf, .ref mz, .int (iI my), .ref mt, .int (iI me), .int (iI mn), .ref mp, .int (iI mi), .ref mq, .int (iI ma), .int (iI mu), .ref mo, .int (iI mw)])), (mm, aE cA 4096 (rel ca Mk b)), (mf, aE cA 32 K)]) [1, 2, 0] (by decide) rfl ?_
    refine g_aload_n E dX4_trim_22 rfl 1 rfl ?_
    refine g_getfield E dX4_trim_23 0 4 rfl rfl (by decide) iX4 wd_135 rfl rfl ?_
    refine g_iload_n E dX4_trim_26 rfl 2 rfl ?_
    refine g_iconst E dX4_trim_27 ?_
    refine g_iastore (ws' := [(y, .inr (4, [.int (iI ca), .ref mb, .ref ms, .ref mm, .ref mf, .ref mz, .int (iI my), .ref mt, .int (iI me), .int (iI mn), .ref mp, .int (iI mi), .ref mq, .int (iI ma), .int (iI mu), .ref mo, .int (iI mw)])), (mm, aE cA 4096 (rel ca Mk b)), (mf, aE cA 32 (up K b 0))]) E dX4_trim_28 2 rfl (by omega) (by omega) (by omega) rfl ?_
    refine g_iload_n E dX4_trim_29 rfl 0 rfl ?_
    refine g_ireturn E dX4_trim_30 ?_
    exact ⟨rel ca Mk b, up K b 0, Or.inl ⟨by omega, by omega, hr_13, rfl, rfl⟩, rfl⟩
  · skip
    refine g_bipush E dX4_trim_8 (by decide) ?_
    refine g_ireturn E dX4_trim_10 ?_
    exact ⟨Mk, K, Or.inr ⟨by omega, rfl, rfl, rfl⟩, rfl⟩
set_option maxHeartbeats 4000000 in
set_option maxRecDepth 100000 in
theorem c_X4_slot (l : Launch) (D : va_G) (cA : ClassId) (y : Nat) (mb : Nat) (ms : Nat) (mm : Nat) (mf : Nat) (mz : Nat) (mt : Nat) (mp : Nat) (mq : Nat) (mo : Nat) (ca : Int) (my : Int) (me : Int) (mn : Int) (mi : Int) (ma : Int) (mu : Int) (mw : Int) (Mk : Int → Int) (K : Int → Int) (b : Int) (wh : Int) (hca : 0 ≤ ca ∧ ca ≤ 4096) (hMk : mkR Mk) (hb : iB b) (hwh : iB wh) : Ci l D vwCl cA yX4_slot (.code yX4_slot cX4_slot 3 (some .int) :: UW) ({ frames := 2, cells := 0, slots := 0, locals := 43 }) 0 0 [.ref y, .int (iI b), .int (iI wh)] [(y, .inr (4, [.int (iI ca), .ref mb, .ref ms, .ref mm, .ref mf, .ref mz, .int (iI my), .ref mt, .int (iI me), .int (iI mn), .ref mp, .int (iI mi), .ref mq, .int (iI ma), .int (iI mu), .ref mo, .int (iI mw)])), (mm, aE cA 4096 Mk), (mf, aE cA 32 K)] (fun (r : Int) (w : va_W) => (((b < 0 ∨ 32 ≤ b) ∧ r = -11) ∨ (0 ≤ b ∧ b < 32 ∧ ((wh < 0 ∨ 2 < wh) ∧ r = -12 ∨ wh = 0 ∧ r = K b ∨ wh = 1 ∧ r = cnt Mk (b + 1) ca.toNat ∨ wh = 2 ∧ ((0 ≤ r ∧ r < ca ∧ Mk r = b + 1 ∧ ∀ j, 0 ≤ j → j < r → Mk j ≠ b + 1) ∨ (r = -1 ∧ ∀ j, 0 ≤ j → j < ca → Mk j ≠ b + 1))))) ∧ w = [(y, .inr (4, [.int (iI ca), .ref mb, .ref ms, .ref mm, .ref mf, .ref mz, .int (iI my), .ref mt, .int (iI me), .int (iI mn), .ref mp, .int (iI mi), .ref mq, .int (iI ma), .int (iI mu), .ref mo, .int (iI mw)])), (mm, aE cA 4096 Mk), (mf, aE cA 32 K)]) := by
  refine Ci.mk (by decide) (Nat.le_of_ble_eq_true rfl) ?_
  intro p e s m args below meth c A E
  refine GG.lvs (lv' := [(0, .ref y), (1, .int (iI b)), (2, .int (iI wh))]) [0, 1, 2] rfl ?_
  refine g_aload_n E dX4_slot_0 rfl 0 rfl ?_
  refine g_iload_n E dX4_slot_1 rfl 1 rfl ?_
  refine g_callV (n := 1) (As := [.int (iI b)]) (rest := []) (wr := [(mm, aE cA 4096 Mk), (mf, aE cA 32 K)]) E dX4_slot_2 (c_X4_isBlock l D cA y mb ms mm mf mz mt mp mq mo ca my me mn mi ma mu mw b (by omega)) wd_code_X4_isBlock wd_123 wd_124 wd_125 wd_126 (by decide +kernel) ⟨⟨rfl, rfl⟩, ⟨(Nat.le_of_ble_eq_true rfl), (Nat.le_of_ble_eq_true rfl)⟩, ⟨(Nat.le_of_ble_eq_true rfl), (Nat.le_of_ble_eq_true rfl)⟩⟩ [0] [1, 2] rfl rfl (by decide) 0 rfl rfl rfl rfl (Nat.le_of_ble_eq_true rfl) (fun z_2 w_2 hw_2 => ?_)
  obtain ⟨h_2, rfl⟩ := hw_2
  refine GG.wss (ws' := [(y, .inr (4, [.int (iI ca), .ref mb, .ref ms, .ref mm, .ref mf, .ref mz, .int (iI my), .ref mt, .int (iI me), .int (iI mn), .ref mp, .int (iI mi), .ref mq, .int (iI ma), .int (iI mu), .ref mo, .int (iI mw)])), (mm, aE cA 4096 Mk), (mf, aE cA 32 K)]) [2, 0, 1] (by decide) rfl ?_
  refine g_if_ne (tgt := 11) E dX4_slot_5 (by decide) ⟨(by omega), (by omega)⟩ (fun c_5 => ?_) (fun c_5 => ?_)
  · skip
    refine g_iload_n E dX4_slot_11 rfl 2 rfl ?_
    refine g_iconst E dX4_slot_12 ?_
    refine g_iconst E dX4_slot_13 ?_
    refine g_callS (n := 3) (As := [.int (iI wh), .int (iI 0), .int (iI 2)]) (rest := []) (wr := [(y, .inr (4, [.int (iI ca), .ref mb, .ref ms, .ref mm, .ref mf, .ref mz, .int (iI my), .ref mt, .int (iI me), .int (iI mn), .ref mp, .int (iI mi), .ref mq, .int (iI ma), .int (iI mu), .ref mo, .int (iI mw)])), (mm, aE cA 4096 Mk), (mf, aE cA 32 K)]) E dX4_slot_14 (c_X4_isIn l D cA wh 0 2 (by omega) (by omega) (by omega)) wd_code_X4_isIn wd_3 wd_4 wd_5 (by decide +kernel) ⟨⟨rfl, rfl⟩, ⟨(Nat.le_of_ble_eq_true rfl), (Nat.le_of_ble_eq_true rfl)⟩, ⟨(Nat.le_of_ble_eq_true rfl), (Nat.le_of_ble_eq_true rfl)⟩⟩ [] [0, 1, 2] rfl rfl (by decide) rfl rfl (Nat.le_of_ble_eq_true rfl) (fun z_14 w_14 hw_14 => ?_)
    obtain ⟨h_14, rfl⟩ := hw_14
    refine GG.wss (ws' := [(y, .inr (4, [.int (iI ca), .ref mb, .ref ms, .ref mm, .ref mf, .ref mz, .int (iI my), .ref mt, .int (iI me), .int (iI mn), .ref mp, .int (iI mi), .ref mq, .int (iI ma), .int (iI mu), .ref mo, .int (iI mw)])), (mm, aE cA 4096 Mk), (mf, aE cA 32 K)]) [0, 1, 2] (by decide) rfl ?_
    refine g_if_ne (tgt := 23) E dX4_slot_17 (by decide) ⟨(by omega), (by omega)⟩ (fun c_17 => ?_) (fun c_17 => ?_)
    · skip
      refine g_iload_n E dX4_slot_23 rfl 2 rfl ?_
      refine g_if_ne (tgt := 36) E dX4_slot_24 (by decide) ⟨(by omega), (by omega)⟩ (fun c_24 => ?_) (fun c_24 => ?_)
      · skip
        refine g_iload_n E dX4_slot_36 rfl 2 rfl ?_
        refine g_iconst E dX4_slot_37 ?_
        refine g_icmp_ne (tgt := 49) E dX4_slot_38 (by decide) ⟨(by omega), (by omega)⟩ ⟨(by omega), (by omega)⟩ (fun c_38 => ?_) (fun c_38 => ?_)
        · skip
          refine g_aload_n E dX4_slot_49 rfl 0 rfl ?_
          refine g_iload_n E dX4_slot_50 rfl 1 rfl ?_
          refine g_callV (n := 1) (As := [.int (iI b)]) (rest := []) (wr := [(mf, aE cA 32 K)]) E dX4_slot_51 (c_X4_placeOf l D cA y mb ms mm mf mz mt mp mq mo ca my me mn mi ma mu mw Mk b (by omega) (by omega) (by omega)) wd_code_X4_placeOf wd_136 wd_137 wd_138 wd_139 (by decide +kernel) ⟨⟨rfl, rfl⟩, ⟨(Nat.le_of_ble_eq_true rfl), (Nat.le_of_ble_eq_true rfl)⟩, ⟨(Nat.le_of_ble_eq_true rfl), (Nat.le_of_ble_eq_true rfl)⟩⟩ [0, 1] [2] rfl rfl (by decide) 0 rfl rfl rfl rfl (Nat.le_of_ble_eq_true rfl) (fun z_51 w_51 hw_51 => ?_)
          obtain ⟨hp_51, rfl⟩ := hw_51
          refine GG.wss (ws' := [(y, .inr (4, [.int (iI ca), .ref mb, .ref ms, .ref mm, .ref mf, .ref mz, .int (iI my), .ref mt, .int (iI me), .int (iI mn), .ref mp, .int (iI mi), .ref mq, .int (iI ma), .int (iI mu), .ref mo, .int (iI mw)])), (mm, aE cA 4096 Mk), (mf, aE cA 32 K)]) [1, 2, 0] (by decide) rfl ?_
          refine g_ireturn E dX4_slot_54 ?_
          first | exact ⟨Or.inr ⟨by omega, by omega, Or.inr (Or.inl ⟨c_24, rfl⟩)⟩, rfl⟩ | exact ⟨Or.inr ⟨by omega, by omega, Or.inr (Or.inr (Or.inl ⟨c_38, hr_43⟩))⟩, rfl⟩ | exact ⟨Or.inr ⟨by omega, by omega, Or.inr (Or.inr (Or.inr ⟨by omega, hp_51⟩))⟩, rfl⟩
        · skip
          refine g_aload_n E dX4_slot_41 rfl 0 rfl ?_
          refine g_iload_n E dX4_slot_42 rfl 1 rfl ?_
          refine g_callV (n := 1) (As := [.int (iI b)]) (rest := []) (wr := [(mf, aE cA 32 K)]) E dX4_slot_43 (c_X4_sizeOf l D cA y mb ms mm mf mz mt mp mq mo ca my me mn mi ma mu mw Mk b (by omega) (by omega) (by omega)) wd_code_X4_sizeOf wd_127 wd_128 wd_129 wd_130 (by decide +kernel) ⟨⟨rfl, rfl⟩, ⟨(Nat.le_of_ble_eq_true rfl), (Nat.le_of_ble_eq_true rfl)⟩, ⟨(Nat.le_of_ble_eq_true rfl), (Nat.le_of_ble_eq_true rfl)⟩⟩ [0, 1] [2] rfl rfl (by decide) 0 rfl rfl rfl rfl (Nat.le_of_ble_eq_true rfl) (fun z_43 w_43 hw_43 => ?_)
          obtain ⟨hr_43, hr2_43, rfl⟩ := hw_43
          refine GG.wss (ws' := [(y, .inr (4, [.int (iI ca), .ref mb, .ref ms, .ref mm, .ref mf, .ref mz, .int (iI my), .ref mt, .int (iI me), .int (iI mn), .ref mp, .int (iI mi), .ref mq, .int (iI ma), .int (iI mu), .ref mo, .int (iI mw)])), (mm, aE cA 4096 Mk), (mf, aE cA 32 K)]) [1, 2, 0] (by decide) rfl ?_
          refine g_goto (tgt := 54) E dX4_slot_46 (by decide) ?_
          refine g_ireturn E dX4_slot_54 ?_
          first | exact ⟨Or.inr ⟨by omega, by omega, Or.inr (Or.inl ⟨c_24, rfl⟩)⟩, rfl⟩ | exact ⟨Or.inr ⟨by omega, by omega, Or.inr (Or.inr (Or.inl ⟨c_38, hr_43⟩))⟩, rfl⟩ | exact ⟨Or.inr ⟨by omega, by omega, Or.inr (Or.inr (Or.inr ⟨by omega, hp_51⟩))⟩, rfl⟩
      · skip
        refine g_aload_n E dX4_slot_27 rfl 0 rfl ?_
        refine g_getfield E dX4_slot_28 0 4 rfl rfl (by decide) iX4 wd_135 rfl rfl ?_
        refine g_iload_n E dX4_slot_31 rfl 1 rfl ?_
        refine g_iaload E dX4_slot_32 2 rfl (by omega) (by omega) (by omega) ?_
        refine g_goto (tgt := 54) E dX4_slot_33 (by decide) ?_
        refine g_ireturn E dX4_slot_54 ?_
        first | exact ⟨Or.inr ⟨by omega, by omega, Or.inr (Or.inl ⟨c_24, rfl⟩)⟩, rfl⟩ | exact ⟨Or.inr ⟨by omega, by omega, Or.inr (Or.inr (Or.inl ⟨c_38, hr_43⟩))⟩, rfl⟩ | exact ⟨Or.inr ⟨by omega, by omega, Or.inr (Or.inr (Or.inr ⟨by omega, hp_51⟩))⟩, rfl⟩
    · skip
      refine g_bipush E dX4_slot_20 (by decide) ?_
      refine g_ireturn E dX4_slot_22 ?_
      exact ⟨Or.inr ⟨by omega, by omega, Or.inl ⟨by omega, rfl⟩⟩, rfl⟩
  · skip
    refine g_bipush E dX4_slot_8 (by decide) ?_
    refine g_ireturn E dX4_slot_10 ?_
    exact ⟨Or.inl ⟨by omega, rfl⟩, rfl⟩
set_option maxHeartbeats 4000000 in
set_option maxRecDepth 100000 in
theorem c_X4_decode (l : Launch) (D : va_G) (cA : ClassId) (y : Nat) (mb : Nat) (ms : Nat) (mm : Nat) (mf : Nat) (mz : Nat) (mt : Nat) (mp : Nat) (mq : Nat) (mo : Nat) (ca : Int) (my : Int) (me : Int) (mn : Int) (mi : Int) (ma : Int) (mu : Int) (mw : Int) (TA : Int → Int) (IN : Int → Int) (RO : Int → Int) (B : Int → Int) (hmy : 0 ≤ my ∧ my ≤ 600) (hTA : byR my TA) : Ci l D vwCl cA yX4_decode (.code yX4_decode cX4_decode 3 (some .int) :: UW) ({ frames := 2, cells := 0, slots := 0, locals := 48 }) 0 0 [.ref y] [(y, .inr (4, [.int (iI ca), .ref mb, .ref ms, .ref mm, .ref mf, .ref mz, .int (iI my), .ref mt, .int (iI me), .int (iI mn), .ref mp, .int (iI mi), .ref mq, .int (iI ma), .int (iI mu), .ref mo, .int (iI mw)])), (mt, aE cA 600 TA), (mq, aE cA 600 IN), (mo, aE cA 256 RO), (mb, aE cA 256 B)] (fun (r : Int) (w : va_W) => ∃ (wa : Int) (aa : Int) (uu : Int) (OO : Int → Int) (IN2 : Int → Int) (e2 : Int) (B2 : Int → Int), (((rdf TA my 5000 0 0 RO).1 = 0 ∧ r = (rdf TA my 5000 0 0 RO).2.2.1 ∧ e2 = -1 ∧ B2 = cp (rdf TA my 5000 0 0 RO).2.2.2 B 0 0 r ∧ 0 ≤ r ∧ r ≤ 256) ∨ ((rdf TA my 5000 0 0 RO).1 ≠ 0 ∧ r = -(rdf TA my 5000 0 0 RO).1 ∧ e2 = (rdf TA my 5000 0 0 RO).2.1 ∧ B2 = B)) ∧ w = [(y, .inr (4, [.int (iI ca), .ref mb, .ref ms, .ref mm, .ref mf, .ref mz, .int (iI 0), .ref mt, .int (iI e2), .int (iI mn), .ref mp, .int (iI my), .ref mq, .int (iI aa), .int (iI uu), .ref mo, .int (iI wa)])), (mt, aE cA 600 TA), (mq, aE cA 600 IN2), (mo, aE cA 256 OO), (mb, aE cA 256 B2)]) := by
  refine Ci.mk (by decide) (Nat.le_of_ble_eq_true rfl) ?_
  intro p e s m args below meth c A E
  refine GG.lvs (lv' := [(0, .ref y)]) [0] rfl ?_
  refine g_aload_n E dX4_decode_0 rfl 0 rfl ?_
  refine g_aload_n E dX4_decode_1 rfl 0 rfl ?_
  refine g_getfield E dX4_decode_2 0 6 rfl rfl (by decide) iX4 wd_16 rfl rfl ?_
  refine g_putfield (ws' := [(y, .inr (4, [.int (iI ca), .ref mb, .ref ms, .ref mm, .ref mf, .ref mz, .int (iI my), .ref mt, .int (iI me), .int (iI mn), .ref mp, .int (iI my), .ref mq, .int (iI ma), .int (iI mu), .ref mo, .int (iI mw)])), (mt, aE cA 600 TA), (mq, aE cA 600 IN), (mo, aE cA 256 RO), (mb, aE cA 256 B)]) E dX4_decode_5 0 11 rfl rfl (by decide) iX4 tyX4 tyX4_ok nmX4 wd_104 rfl rfl rfl rfl rfl (Nat.le_of_ble_eq_true rfl) rfl ?_
  refine g_iconst E dX4_decode_8 ?_
  refine g_istore_n (lv' := [(1, .int (iI 0)), (0, .ref y)]) E dX4_decode_9 rfl (by decide) rfl ?_
  have L10 : ∀ (fu10 : Nat) (k : Int) (G : Int → Int), 0 ≤ k ∧ k ≤ my → G = cp TA IN 0 0 k → (my - k) < (fu10 : Int) → GG p l e ({ frames := 2, cells := 0, slots := 0, locals := 48 }) s m args below meth c D vwCl A 3 (QI D vwCl cA A below args s 0 0 (fun (r : Int) (w : va_W) => ∃ (wa : Int) (aa : Int) (uu : Int) (OO : Int → Int) (IN2 : Int → Int) (e2 : Int) (B2 : Int → Int), (((rdf TA my 5000 0 0 RO).1 = 0 ∧ r = (rdf TA my 5000 0 0 RO).2.2.1 ∧ e2 = -1 ∧ B2 = cp (rdf TA my 5000 0 0 RO).2.2.2 B 0 0 r ∧ 0 ≤ r ∧ r ≤ 256) ∨ ((rdf TA my 5000 0 0 RO).1 ≠ 0 ∧ r = -(rdf TA my 5000 0 0 RO).1 ∧ e2 = (rdf TA my 5000 0 0 RO).2.1 ∧ B2 = B)) ∧ w = [(y, .inr (4, [.int (iI ca), .ref mb, .ref ms, .ref mm, .ref mf, .ref mz, .int (iI 0), .ref mt, .int (iI e2), .int (iI mn), .ref mp, .int (iI my), .ref mq, .int (iI aa), .int (iI uu), .ref mo, .int (iI wa)])), (mt, aE cA 600 TA), (mq, aE cA 600 IN2), (mo, aE cA 256 OO), (mb, aE cA 256 B2)])) 0 0 [(y, .inr (4, [.int (iI ca), .ref mb, .ref ms, .ref mm, .ref mf, .ref mz, .int (iI my), .ref mt, .int (iI me), .int (iI mn), .ref mp, .int (iI my), .ref mq, .int (iI ma), .int (iI mu), .ref mo, .int (iI mw)])), (mt, aE cA 600 TA), (mq, aE cA 600 G), (mo, aE cA 256 RO), (mb, aE cA 256 B)] [(0, .ref y), (1, .int (iI k))] 10 [] := by
    intro fu10
    induction fu10 with
    | zero => intro k G hk hG hmu10; exfalso; omega
    | succ fu10 ih10 =>
      intro k G hk hG hmu10
      refine g_iload_n E dX4_decode_10 rfl 1 rfl ?_
      refine g_aload_n E dX4_decode_11 rfl 0 rfl ?_
      refine g_getfield E dX4_decode_12 0 6 rfl rfl (by decide) iX4 wd_16 rfl rfl ?_
      refine g_icmp_ge (tgt := 36) E dX4_decode_15 (by decide) ⟨(by omega), (by omega)⟩ ⟨(by omega), (by omega)⟩ (fun c_15 => ?_) (fun c_15 => ?_)
      · skip
        have hkk : k = my := by omega
        rw [hkk] at hG
        have hby : byR my G := by rw [hG]; exact byR_cp (fun k a b => by rw [Int.zero_add]; exact hTA k a b)
        have hrc := rdf_congr (S := G) (S' := TA) hby (fun k a b => by rw [hG]; unfold cp; rw [if_pos (by omega)]; congr 1; omega) 5000 0 0 RO (by omega)
        refine g_aload_n E dX4_decode_36 rfl 0 rfl ?_
        refine g_iconst E dX4_decode_37 ?_
        refine g_putfield (ws' := [(y, .inr (4, [.int (iI ca), .ref mb, .ref ms, .ref mm, .ref mf, .ref mz, .int (iI 0), .ref mt, .int (iI me), .int (iI mn), .ref mp, .int (iI my), .ref mq, .int (iI ma), .int (iI mu), .ref mo, .int (iI mw)])), (mt, aE cA 600 TA), (mq, aE cA 600 G), (mo, aE cA 256 RO), (mb, aE cA 256 B)]) E dX4_decode_38 0 6 rfl rfl (by decide) iX4 tyX4 tyX4_ok nmX4 wd_16 rfl rfl rfl rfl rfl (Nat.le_of_ble_eq_true rfl) rfl ?_
        refine g_aload_n E dX4_decode_41 rfl 0 rfl ?_
        refine g_callV (n := 0) (As := []) (rest := []) (wr := [(mt, aE cA 600 TA), (mb, aE cA 256 B)]) E dX4_decode_42 (c_X4_readAll l D cA y mb ms mm mf mz mt mp mq mo ca 0 me mn my ma mu mw G RO (by omega) (by exact hby)) wd_code_X4_readAll wd_140 wd_141 wd_142 wd_143 (by decide +kernel) ⟨⟨rfl, rfl⟩, ⟨(Nat.le_of_ble_eq_true rfl), (Nat.le_of_ble_eq_true rfl)⟩, ⟨(Nat.le_of_ble_eq_true rfl), (Nat.le_of_ble_eq_true rfl)⟩⟩ [0, 2, 3] [1, 4] rfl rfl (by decide) 0 rfl rfl rfl rfl (Nat.le_of_ble_eq_true rfl) (fun z_42 w_42 hw_42 => ?_)
        obtain ⟨wa_42, aa_42, uu_42, OO_42, hX_42, hb_42, rfl⟩ := hw_42
        refine GG.wss (ws' := [(y, .inr (4, [.int (iI ca), .ref mb, .ref ms, .ref mm, .ref mf, .ref mz, .int (iI 0), .ref mt, .int (iI me), .int (iI mn), .ref mp, .int (iI my), .ref mq, .int (iI aa_42), .int (iI uu_42), .ref mo, .int (iI wa_42)])), (mt, aE cA 600 TA), (mq, aE cA 600 G), (mo, aE cA 256 OO_42), (mb, aE cA 256 B)]) [2, 0, 3, 4, 1] (by decide) rfl ?_
        rw [hrc] at hX_42
        refine g_istore_n (lv' := [(1, .int (iI z_42)), (0, .ref y)]) E dX4_decode_45 rfl (by decide) rfl ?_
        have L59 : ∀ (ep : Int), (0 < z_42 ∧ ep = wa_42) ∨ (z_42 ≤ 0 ∧ ep = -1) → GG p l e ({ frames := 2, cells := 0, slots := 0, locals := 48 }) s m args below meth c D vwCl A 3 (QI D vwCl cA A below args s 0 0 (fun (r : Int) (w : va_W) => ∃ (wa : Int) (aa : Int) (uu : Int) (OO : Int → Int) (IN2 : Int → Int) (e2 : Int) (B2 : Int → Int), (((rdf TA my 5000 0 0 RO).1 = 0 ∧ r = (rdf TA my 5000 0 0 RO).2.2.1 ∧ e2 = -1 ∧ B2 = cp (rdf TA my 5000 0 0 RO).2.2.2 B 0 0 r ∧ 0 ≤ r ∧ r ≤ 256) ∨ ((rdf TA my 5000 0 0 RO).1 ≠ 0 ∧ r = -(rdf TA my 5000 0 0 RO).1 ∧ e2 = (rdf TA my 5000 0 0 RO).2.1 ∧ B2 = B)) ∧ w = [(y, .inr (4, [.int (iI ca), .ref mb, .ref ms, .ref mm, .ref mf, .ref mz, .int (iI 0), .ref mt, .int (iI e2), .int (iI mn), .ref mp, .int (iI my), .ref mq, .int (iI aa), .int (iI uu), .ref mo, .int (iI wa)])), (mt, aE cA 600 TA), (mq, aE cA 600 IN2), (mo, aE cA 256 OO), (mb, aE cA 256 B2)])) 0 0 [(y, .inr (4, [.int (iI ca), .ref mb, .ref ms, .ref mm, .ref mf, .ref mz, .int (iI 0), .ref mt, .int (iI me), .int (iI mn), .ref mp, .int (iI my), .ref mq, .int (iI aa_42), .int (iI uu_42), .ref mo, .int (iI wa_42)])), (mt, aE cA 600 TA), (mq, aE cA 600 G), (mo, aE cA 256 OO_42), (mb, aE cA 256 B)] [(0, .ref y), (1, .int (iI z_42))] 59 [.int (iI ep), .ref y] := by
          intro ep hep
          refine g_putfield (ws' := [(y, .inr (4, [.int (iI ca), .ref mb, .ref ms, .ref mm, .ref mf, .ref mz, .int (iI 0), .ref mt, .int (iI ep), .int (iI mn), .ref mp, .int (iI my), .ref mq, .int (iI aa_42), .int (iI uu_42), .ref mo, .int (iI wa_42)])), (mt, aE cA 600 TA), (mq, aE cA 600 G), (mo, aE cA 256 OO_42), (mb, aE cA 256 B)]) E dX4_decode_59 0 8 rfl rfl (by decide) iX4 tyX4 tyX4_ok nmX4 wd_7 rfl rfl rfl rfl rfl (Nat.le_of_ble_eq_true rfl) rfl ?_
          refine g_iload_n E dX4_decode_62 rfl 1 rfl ?_
          refine g_if_le (tgt := 69) E dX4_decode_63 (by decide) ⟨(by omega), (by omega)⟩ (fun c_63 => ?_) (fun c_63 => ?_)
          · skip
            refine g_iconst E dX4_decode_69 ?_
            refine g_istore_n (lv' := [(2, .int (iI 0)), (0, .ref y), (1, .int (iI z_42))]) E dX4_decode_70 rfl (by decide) rfl ?_
            have L71 : ∀ (fu71 : Nat) (k2 : Int) (G2 : Int → Int), 0 ≤ k2 ∧ k2 ≤ uu_42 → G2 = cp OO_42 B 0 0 k2 → (uu_42 - k2) < (fu71 : Int) → GG p l e ({ frames := 2, cells := 0, slots := 0, locals := 48 }) s m args below meth c D vwCl A 3 (QI D vwCl cA A below args s 0 0 (fun (r : Int) (w : va_W) => ∃ (wa : Int) (aa : Int) (uu : Int) (OO : Int → Int) (IN2 : Int → Int) (e2 : Int) (B2 : Int → Int), (((rdf TA my 5000 0 0 RO).1 = 0 ∧ r = (rdf TA my 5000 0 0 RO).2.2.1 ∧ e2 = -1 ∧ B2 = cp (rdf TA my 5000 0 0 RO).2.2.2 B 0 0 r ∧ 0 ≤ r ∧ r ≤ 256) ∨ ((rdf TA my 5000 0 0 RO).1 ≠ 0 ∧ r = -(rdf TA my 5000 0 0 RO).1 ∧ e2 = (rdf TA my 5000 0 0 RO).2.1 ∧ B2 = B)) ∧ w = [(y, .inr (4, [.int (iI ca), .ref mb, .ref ms, .ref mm, .ref mf, .ref mz, .int (iI 0), .ref mt, .int (iI e2), .int (iI mn), .ref mp, .int (iI my), .ref mq, .int (iI aa), .int (iI uu), .ref mo, .int (iI wa)])), (mt, aE cA 600 TA), (mq, aE cA 600 IN2), (mo, aE cA 256 OO), (mb, aE cA 256 B2)])) 0 0 [(y, .inr (4, [.int (iI ca), .ref mb, .ref ms, .ref mm, .ref mf, .ref mz, .int (iI 0), .ref mt, .int (iI ep), .int (iI mn), .ref mp, .int (iI my), .ref mq, .int (iI aa_42), .int (iI uu_42), .ref mo, .int (iI wa_42)])), (mt, aE cA 600 TA), (mq, aE cA 600 G), (mo, aE cA 256 OO_42), (mb, aE cA 256 G2)] [(0, .ref y), (2, .int (iI k2))] 71 [] := by
              intro fu71
              induction fu71 with
              | zero => intro k2 G2 hk2 hG2 hmu71; exfalso; omega
              | succ fu71 ih71 =>
                intro k2 G2 hk2 hG2 hmu71
                refine g_iload_n E dX4_decode_71 rfl 1 rfl ?_
                refine g_aload_n E dX4_decode_72 rfl 0 rfl ?_
                refine g_getfield E dX4_decode_73 0 14 rfl rfl (by decide) iX4 wd_106 rfl rfl ?_
                refine g_icmp_ge (tgt := 97) E dX4_decode_76 (by decide) ⟨(by omega), (by omega)⟩ ⟨(by omega), (by omega)⟩ (fun c_76 => ?_) (fun c_76 => ?_)
                · skip
                  refine g_aload_n E dX4_decode_97 rfl 0 rfl ?_
                  refine g_getfield E dX4_decode_98 0 14 rfl rfl (by decide) iX4 wd_106 rfl rfl ?_
                  refine g_ireturn E dX4_decode_101 ?_
                  exact ⟨wa_42, aa_42, uu_42, OO_42, _, ep, G2, Or.inl (hX_42.elim (fun g => ⟨g.1, g.2.2.1, by omega, by rw [hG2, show k2 = uu_42 by omega, ← g.2.2.2], by omega, by omega⟩) (fun g => absurd g.1 (by omega))), rfl⟩
                · skip
                  refine g_aload_n E dX4_decode_79 rfl 0 rfl ?_
                  refine g_getfield E dX4_decode_80 0 1 rfl rfl (by decide) iX4 wd_6 rfl rfl ?_
                  refine g_iload_n E dX4_decode_83 rfl 1 rfl ?_
                  refine g_aload_n E dX4_decode_84 rfl 0 rfl ?_
                  refine g_getfield E dX4_decode_85 0 15 rfl rfl (by decide) iX4 wd_111 rfl rfl ?_
                  refine g_iload_n E dX4_decode_88 rfl 1 rfl ?_
                  refine g_iaload E dX4_decode_89 3 rfl (by omega) (by omega) (by omega) ?_
                  refine g_iastore (ws' := [(y, .inr (4, [.int (iI ca), .ref mb, .ref ms, .ref mm, .ref mf, .ref mz, .int (iI 0), .ref mt, .int (iI ep), .int (iI mn), .ref mp, .int (iI my), .ref mq, .int (iI aa_42), .int (iI uu_42), .ref mo, .int (iI wa_42)])), (mt, aE cA 600 TA), (mq, aE cA 600 G), (mo, aE cA 256 OO_42), (mb, aE cA 256 (up G2 k2 (OO_42 k2)))]) E dX4_decode_90 4 rfl (by omega) (by omega) (by omega) rfl ?_
                  refine g_iinc (lv' := [(2, .int (iI (k2 + 1))), (0, .ref y)]) E dX4_decode_91 1 rfl (by decide) rfl ?_
                  refine g_goto (tgt := 71) E dX4_decode_94 (by decide) ?_
                  refine GG.lvs (lv' := [(0, .ref y), (2, .int (iI (k2 + 1)))]) [1, 0] rfl ?_
                  exact ih71 (k2 + 1) (up G2 k2 (OO_42 k2)) (by omega) (by have := cp_s (v := OO_42 k2) hk2.1 hG2 (by rw [Int.zero_add]); rw [Int.zero_add] at this; exact this) (by omega)
            refine GG.lvs (lv' := [(0, .ref y), (2, .int (iI 0))]) [1, 0] rfl ?_
            exact L71 ((uu_42 - 0 : Int).toNat + 1) 0 B (by omega) (by exact (cp_0 ..).symm) (by omega)
          · skip
            refine g_iload_n E dX4_decode_66 rfl 1 rfl ?_
            refine g_ineg E dX4_decode_67 ?_
            refine g_ireturn E dX4_decode_68 ?_
            exact ⟨wa_42, aa_42, uu_42, OO_42, _, ep, B, Or.inr (hX_42.elim (fun g => absurd g.2.1 (by omega)) (fun g => ⟨g.1, by omega, by omega, rfl⟩)), rfl⟩
        refine g_aload_n E dX4_decode_46 rfl 1 rfl ?_
        refine g_iload_n E dX4_decode_47 rfl 0 rfl ?_
        refine g_if_le (tgt := 58) E dX4_decode_48 (by decide) ⟨(by omega), (by omega)⟩ (fun c_48 => ?_) (fun c_48 => ?_)
        · skip
          refine g_iconst E dX4_decode_58 ?_
          refine GG.lvs (lv' := [(0, .ref y), (1, .int (iI z_42))]) [1, 0] rfl ?_
          exact L59 (-1) (by omega)
        · skip
          refine g_aload_n E dX4_decode_51 rfl 1 rfl ?_
          refine g_getfield E dX4_decode_52 0 16 rfl rfl (by decide) iX4 wd_102 rfl rfl ?_
          refine g_goto (tgt := 59) E dX4_decode_55 (by decide) ?_
          refine GG.lvs (lv' := [(0, .ref y), (1, .int (iI z_42))]) [1, 0] rfl ?_
          exact L59 wa_42 (by omega)
      · skip
        refine g_aload_n E dX4_decode_18 rfl 0 rfl ?_
        refine g_getfield E dX4_decode_19 0 12 rfl rfl (by decide) iX4 wd_105 rfl rfl ?_
        refine g_iload_n E dX4_decode_22 rfl 1 rfl ?_
        refine g_aload_n E dX4_decode_23 rfl 0 rfl ?_
        refine g_getfield E dX4_decode_24 0 7 rfl rfl (by decide) iX4 wd_17 rfl rfl ?_
        refine g_iload_n E dX4_decode_27 rfl 1 rfl ?_
        refine g_iaload E dX4_decode_28 1 rfl (by omega) (by omega) (by omega) ?_
        refine g_iastore (ws' := [(y, .inr (4, [.int (iI ca), .ref mb, .ref ms, .ref mm, .ref mf, .ref mz, .int (iI my), .ref mt, .int (iI me), .int (iI mn), .ref mp, .int (iI my), .ref mq, .int (iI ma), .int (iI mu), .ref mo, .int (iI mw)])), (mt, aE cA 600 TA), (mq, aE cA 600 (up G k (TA k))), (mo, aE cA 256 RO), (mb, aE cA 256 B)]) E dX4_decode_29 2 rfl (by omega) (by omega) (by omega) rfl ?_
        refine g_iinc (lv' := [(1, .int (iI (k + 1))), (0, .ref y)]) E dX4_decode_30 1 rfl (by decide) rfl ?_
        refine g_goto (tgt := 10) E dX4_decode_33 (by decide) ?_
        refine GG.lvs (lv' := [(0, .ref y), (1, .int (iI (k + 1)))]) [1, 0] rfl ?_
        exact ih10 (k + 1) (up G k (TA k)) (by omega) (by have := cp_s (v := TA k) hk.1 hG (by rw [Int.zero_add]); rw [Int.zero_add] at this; exact this) (by omega)
  refine GG.lvs (lv' := [(0, .ref y), (1, .int (iI 0))]) [1, 0] rfl ?_
  exact L10 ((my - 0 : Int).toNat + 1) 0 IN (by omega) (by exact (cp_0 ..).symm) (by omega)
