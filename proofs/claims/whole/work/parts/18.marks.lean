theorem wd_116 : Cond.fieldLink RX4 41 "PackedSlotsModel" "capacity" "I" ∈ UW := uw (by decide +kernel) rfl
theorem wd_117 : Cond.fieldLink RX4 16 "PackedSlotsModel" "mark" "[I" ∈ UW := uw (by decide +kernel) rfl
theorem wd_118 : Cond.fieldLink RX4 13 "PackedSlotsModel" "store" "[I" ∈ UW := uw (by decide +kernel) rfl
def mkR (Mk : Int → Int) : Prop := ∀ k : Int, 0 ≤ k → k < 4096 → 0 ≤ Mk k ∧ Mk k ≤ 32
def cnt (Mk : Int → Int) (v : Int) : Nat → Int
  | 0 => 0
  | k + 1 => if Mk (k : Int) = v then cnt Mk v k + 1 else cnt Mk v k
theorem cnt_y {Mk : Int → Int} {v k x : Int} (hk : 0 ≤ k) (hx : x = cnt Mk v k.toNat) (h : Mk k = v) : x + 1 = cnt Mk v (k + 1).toNat := by
  rw [show (k + 1).toNat = k.toNat + 1 by omega, cnt, show ((k.toNat : Nat) : Int) = k by omega, if_pos h, hx]
theorem cnt_n {Mk : Int → Int} {v k x : Int} (hk : 0 ≤ k) (hx : x = cnt Mk v k.toNat) (h : Mk k ≠ v) : x = cnt Mk v (k + 1).toNat := by
  rw [show (k + 1).toNat = k.toNat + 1 by omega, cnt, show ((k.toNat : Nat) : Int) = k by omega, if_neg h, hx]
def rel (ca : Int) (Mk : Int → Int) (b : Int) : Int → Int := fun j => if 0 ≤ j ∧ j < ca ∧ Mk j = b + 1 then 0 else Mk j
theorem rel_0 (Mk : Int → Int) (b : Int) : rel 0 Mk b = Mk := by
  funext j; unfold rel; rw [if_neg (by omega)]
theorem rel_at {Mk : Int → Int} {b k : Int} : rel k Mk b k = Mk k := by
  unfold rel; rw [if_neg (by omega)]
theorem rel_y {Mk G : Int → Int} {b k : Int} (hk : 0 ≤ k) (hG : G = rel k Mk b) (h : Mk k = b + 1) : up G k 0 = rel (k + 1) Mk b := by
  subst hG; funext j; unfold up rel
  by_cases q : j = k
  · subst q; rw [if_pos rfl, if_pos (by omega)]
  · rw [if_neg q]
    by_cases g : 0 ≤ j ∧ j < k ∧ Mk j = b + 1
    · rw [if_pos g, if_pos (by omega)]
    · rw [if_neg g, if_neg (by omega)]
theorem rel_n {Mk G : Int → Int} {b k : Int} (hk : 0 ≤ k) (hG : G = rel k Mk b) (h : Mk k ≠ b + 1) : up G k (G k) = rel (k + 1) Mk b := by
  subst hG; funext j; unfold up rel
  by_cases q : j = k
  · subst q; rw [if_pos rfl, if_neg (by omega), if_neg (by omega)]
  · rw [if_neg q]
    by_cases g : 0 ≤ j ∧ j < k ∧ Mk j = b + 1
    · rw [if_pos g, if_pos (by omega)]
    · rw [if_neg g, if_neg (by omega)]
def isF (Mk : Int → Int) (b j : Int) : Prop := Mk j = 0 ∨ Mk j = b + 1
def roomAt (Mk : Int → Int) (b ca n x : Int) : Prop := 0 ≤ x ∧ x + n ≤ ca ∧ (∀ j, x ≤ j → j < x + n → isF Mk b j) ∧ ∀ q, 0 ≤ q → q < x → ∃ j, q ≤ j ∧ j < q + n ∧ ¬ isF Mk b j
def noRoom (Mk : Int → Int) (b ca n : Int) : Prop := ∀ q, 0 ≤ q → q + n ≤ ca → ∃ j, q ≤ j ∧ j < q + n ∧ ¬ isF Mk b j
def tg (St Mk : Int → Int) : Nat → (Int → Int) × (Int → Int) × Int × Int
  | 0 => (St, Mk, 0, 0)
  | k + 1 => if (tg St Mk k).2.1 (k : Int) = 0 then tg St Mk k else
    if (tg St Mk k).2.2.1 = (k : Int) then ((tg St Mk k).1, (tg St Mk k).2.1, (tg St Mk k).2.2.1 + 1, (tg St Mk k).2.2.2) else
    (up (tg St Mk k).1 (tg St Mk k).2.2.1 ((tg St Mk k).1 (k : Int)), up (up (tg St Mk k).2.1 (tg St Mk k).2.2.1 ((tg St Mk k).2.1 (k : Int))) (k : Int) 0, (tg St Mk k).2.2.1 + 1, (tg St Mk k).2.2.2 + 1)
theorem tg_z {St Mk A B : Int → Int} {k t v : Int} (hk : 0 ≤ k) (h : tg St Mk k.toNat = (A, B, t, v)) (h0 : B k = 0) : tg St Mk (k + 1).toNat = (A, B, t, v) := by
  rw [show (k + 1).toNat = k.toNat + 1 by omega, tg, show ((k.toNat : Nat) : Int) = k by omega, h, if_pos h0]
theorem tg_e {St Mk A B : Int → Int} {k t v : Int} (hk : 0 ≤ k) (h : tg St Mk k.toNat = (A, B, t, v)) (h0 : B k ≠ 0) (h1 : t = k) : tg St Mk (k + 1).toNat = (A, B, t + 1, v) := by
  rw [show (k + 1).toNat = k.toNat + 1 by omega, tg, show ((k.toNat : Nat) : Int) = k by omega, h, if_neg h0, if_pos h1]
theorem tg_m {St Mk A B : Int → Int} {k t v : Int} (hk : 0 ≤ k) (h : tg St Mk k.toNat = (A, B, t, v)) (h0 : B k ≠ 0) (h1 : t ≠ k) : tg St Mk (k + 1).toNat = (up A t (A k), up (up B t (B k)) k 0, t + 1, v + 1) := by
  rw [show (k + 1).toNat = k.toNat + 1 by omega, tg, show ((k.toNat : Nat) : Int) = k by omega, h, if_neg h0, if_neg h1]
theorem mkR_up {Mk : Int → Int} {z v : Int} (h : mkR Mk) (hv : 0 ≤ v ∧ v ≤ 32) : mkR (up Mk z v) := fun k a b => by
  unfold up; split
  · exact hv
  · exact h k a b
def fre (Mk : Int → Int) : Nat → Int × Int × Int × Int
  | 0 => (0, 0, 0, 0)
  | k + 1 => if Mk (k : Int) = 0 then ((fre Mk k).1 + 1, (if (fre Mk k).2.1 < (fre Mk k).2.2.2 + 1 then (fre Mk k).2.2.2 + 1 else (fre Mk k).2.1), (if (fre Mk k).2.2.2 + 1 = 1 then (fre Mk k).2.2.1 + 1 else (fre Mk k).2.2.1), (fre Mk k).2.2.2 + 1)
    else ((fre Mk k).1, (fre Mk k).2.1, (fre Mk k).2.2.1, 0)
theorem fre_y {Mk : Int → Int} {k al lg rw row : Int} (hk : 0 ≤ k) (h : fre Mk k.toNat = (al, lg, rw, row)) (h0 : Mk k = 0) : fre Mk (k + 1).toNat = (al + 1, (if lg < row + 1 then row + 1 else lg), (if row + 1 = 1 then rw + 1 else rw), row + 1) := by
  rw [show (k + 1).toNat = k.toNat + 1 by omega, fre, show ((k.toNat : Nat) : Int) = k by omega, h, if_pos h0]
theorem fre_n {Mk : Int → Int} {k al lg rw row : Int} (hk : 0 ≤ k) (h : fre Mk k.toNat = (al, lg, rw, row)) (h0 : Mk k ≠ 0) : fre Mk (k + 1).toNat = (al, lg, rw, 0) := by
  rw [show (k + 1).toNat = k.toNat + 1 by omega, fre, show ((k.toNat : Nat) : Int) = k by omega, h, if_neg h0]
set_option maxHeartbeats 4000000 in
set_option maxRecDepth 100000 in
theorem c_X4_placeOf (l : Launch) (D : va_G) (cA : ClassId) (y : Nat) (mb : Nat) (ms : Nat) (mm : Nat) (mf : Nat) (mz : Nat) (mt : Nat) (mp : Nat) (mq : Nat) (mo : Nat) (ca : Int) (my : Int) (me : Int) (mn : Int) (mi : Int) (ma : Int) (mu : Int) (mw : Int) (Mk : Int → Int) (b : Int) (hca : 0 ≤ ca ∧ ca ≤ 4096) (hMk : mkR Mk) (hb : 0 ≤ b ∧ b < 32) : Ci l D vwCl cA yX4_placeOf (.code yX4_placeOf cX4_placeOf 3 (some .int) :: UW) ({ frames := 0, cells := 0, slots := 0, locals := 0 }) 0 0 [.ref y, .int (iI b)] [(y, .inr (4, [.int (iI ca), .ref mb, .ref ms, .ref mm, .ref mf, .ref mz, .int (iI my), .ref mt, .int (iI me), .int (iI mn), .ref mp, .int (iI mi), .ref mq, .int (iI ma), .int (iI mu), .ref mo, .int (iI mw)])), (mm, aE cA 4096 Mk)] (fun (r : Int) (w : va_W) => ((0 ≤ r ∧ r < ca ∧ Mk r = b + 1 ∧ ∀ j, 0 ≤ j → j < r → Mk j ≠ b + 1) ∨ (r = -1 ∧ ∀ j, 0 ≤ j → j < ca → Mk j ≠ b + 1)) ∧ w = [(y, .inr (4, [.int (iI ca), .ref mb, .ref ms, .ref mm, .ref mf, .ref mz, .int (iI my), .ref mt, .int (iI me), .int (iI mn), .ref mp, .int (iI mi), .ref mq, .int (iI ma), .int (iI mu), .ref mo, .int (iI mw)])), (mm, aE cA 4096 Mk)]) := by
  refine Ci.mk (by decide) (Nat.le_of_ble_eq_true rfl) ?_
  intro p e s m args below meth c A E
  refine GG.lvs (lv' := [(0, .ref y), (1, .int (iI b))]) [0, 1] rfl ?_
  refine g_iconst E dX4_placeOf_0 ?_
  refine g_istore_n (lv' := [(2, .int (iI 0)), (0, .ref y), (1, .int (iI b))]) E dX4_placeOf_1 rfl (by decide) rfl ?_
  have L2 : ∀ (fu2 : Nat) (k : Int), 0 ≤ k ∧ k ≤ ca → (∀ j, 0 ≤ j → j < k → Mk j ≠ b + 1) → (ca - k) < (fu2 : Int) → GG p l e ({ frames := 0, cells := 0, slots := 0, locals := 0 }) s m args below meth c D vwCl A 3 (QI D vwCl cA A below args s 0 0 (fun (r : Int) (w : va_W) => ((0 ≤ r ∧ r < ca ∧ Mk r = b + 1 ∧ ∀ j, 0 ≤ j → j < r → Mk j ≠ b + 1) ∨ (r = -1 ∧ ∀ j, 0 ≤ j → j < ca → Mk j ≠ b + 1)) ∧ w = [(y, .inr (4, [.int (iI ca), .ref mb, .ref ms, .ref mm, .ref mf, .ref mz, .int (iI my), .ref mt, .int (iI me), .int (iI mn), .ref mp, .int (iI mi), .ref mq, .int (iI ma), .int (iI mu), .ref mo, .int (iI mw)])), (mm, aE cA 4096 Mk)])) 0 0 [(y, .inr (4, [.int (iI ca), .ref mb, .ref ms, .ref mm, .ref mf, .ref mz, .int (iI my), .ref mt, .int (iI me), .int (iI mn), .ref mp, .int (iI mi), .ref mq, .int (iI ma), .int (iI mu), .ref mo, .int (iI mw)])), (mm, aE cA 4096 Mk)] [(0, .ref y), (1, .int (iI b)), (2, .int (iI k))] 2 [] := by
    intro fu2
    induction fu2 with
    | zero => intro k hk hI hmu2; exfalso; omega
    | succ fu2 ih2 =>
      intro k hk hI hmu2
      refine g_iload_n E dX4_placeOf_2 rfl 2 rfl ?_
      refine g_aload_n E dX4_placeOf_3 rfl 0 rfl ?_
      refine g_getfield E dX4_placeOf_4 0 0 rfl rfl (by decide) iX4 wd_116 rfl rfl ?_
      refine g_icmp_ge (tgt := 30) E dX4_placeOf_7 (by decide) ⟨(by omega), (by omega)⟩ ⟨(by omega), (by omega)⟩ (fun c_7 => ?_) (fun c_7 => ?_)
      · skip
        refine g_iconst E dX4_placeOf_30 ?_
        refine g_ireturn E dX4_placeOf_31 ?_
        exact ⟨Or.inr ⟨rfl, fun j h1 h2 => hI j h1 (by omega)⟩, rfl⟩
      · skip
        refine g_aload_n E dX4_placeOf_10 rfl 0 rfl ?_
        refine g_getfield E dX4_placeOf_11 0 3 rfl rfl (by decide) iX4 wd_117 rfl rfl ?_
        refine g_iload_n E dX4_placeOf_14 rfl 2 rfl ?_
        refine g_iaload E dX4_placeOf_15 1 rfl (by omega) (by omega) (by omega) ?_
        have hm := hMk k (by omega) (by omega)
        refine g_iload_n E dX4_placeOf_16 rfl 1 rfl ?_
        refine g_iconst E dX4_placeOf_17 ?_
        refine g_iadd E dX4_placeOf_18 ?_
        refine g_icmp_ne (tgt := 24) E dX4_placeOf_19 (by decide) ⟨(by omega), (by omega)⟩ ⟨(by omega), (by omega)⟩ (fun c_19 => ?_) (fun c_19 => ?_)
        · skip
          refine g_iinc (lv' := [(2, .int (iI (k + 1))), (0, .ref y), (1, .int (iI b))]) E dX4_placeOf_24 2 rfl (by decide) rfl ?_
          refine g_goto (tgt := 2) E dX4_placeOf_27 (by decide) ?_
          refine GG.lvs (lv' := [(0, .ref y), (1, .int (iI b)), (2, .int (iI (k + 1)))]) [1, 2, 0] rfl ?_
          exact ih2 (k + 1) (by omega) (by intro j h1 h2; exact if q : j = k then (by rw [q]; exact c_19) else hI j h1 (by omega)) (by omega)
        · skip
          refine g_iload_n E dX4_placeOf_22 rfl 2 rfl ?_
          refine g_ireturn E dX4_placeOf_23 ?_
          exact ⟨Or.inl ⟨hk.1, by omega, c_19, hI⟩, rfl⟩
  refine GG.lvs (lv' := [(0, .ref y), (1, .int (iI b)), (2, .int (iI 0))]) [1, 2, 0] rfl ?_
  exact L2 ((ca - 0 : Int).toNat + 1) 0 (by omega) (by intro j h1 h2; omega) (by omega)
set_option maxHeartbeats 4000000 in
set_option maxRecDepth 100000 in
theorem c_X4_sizeOf (l : Launch) (D : va_G) (cA : ClassId) (y : Nat) (mb : Nat) (ms : Nat) (mm : Nat) (mf : Nat) (mz : Nat) (mt : Nat) (mp : Nat) (mq : Nat) (mo : Nat) (ca : Int) (my : Int) (me : Int) (mn : Int) (mi : Int) (ma : Int) (mu : Int) (mw : Int) (Mk : Int → Int) (b : Int) (hca : 0 ≤ ca ∧ ca ≤ 4096) (hMk : mkR Mk) (hb : 0 ≤ b ∧ b < 32) : Ci l D vwCl cA yX4_sizeOf (.code yX4_sizeOf cX4_sizeOf 4 (some .int) :: UW) ({ frames := 0, cells := 0, slots := 0, locals := 0 }) 0 0 [.ref y, .int (iI b)] [(y, .inr (4, [.int (iI ca), .ref mb, .ref ms, .ref mm, .ref mf, .ref mz, .int (iI my), .ref mt, .int (iI me), .int (iI mn), .ref mp, .int (iI mi), .ref mq, .int (iI ma), .int (iI mu), .ref mo, .int (iI mw)])), (mm, aE cA 4096 Mk)] (fun (r : Int) (w : va_W) => r = cnt Mk (b + 1) ca.toNat ∧ (0 ≤ r ∧ r ≤ ca) ∧ w = [(y, .inr (4, [.int (iI ca), .ref mb, .ref ms, .ref mm, .ref mf, .ref mz, .int (iI my), .ref mt, .int (iI me), .int (iI mn), .ref mp, .int (iI mi), .ref mq, .int (iI ma), .int (iI mu), .ref mo, .int (iI mw)])), (mm, aE cA 4096 Mk)]) := by
  refine Ci.mk (by decide) (Nat.le_of_ble_eq_true rfl) ?_
  intro p e s m args below meth c A E
  refine GG.lvs (lv' := [(0, .ref y), (1, .int (iI b))]) [0, 1] rfl ?_
  refine g_iconst E dX4_sizeOf_0 ?_
  refine g_istore_n (lv' := [(2, .int (iI 0)), (0, .ref y), (1, .int (iI b))]) E dX4_sizeOf_1 rfl (by decide) rfl ?_
  refine g_iconst E dX4_sizeOf_2 ?_
  refine g_istore_n (lv' := [(3, .int (iI 0)), (2, .int (iI 0)), (0, .ref y), (1, .int (iI b))]) E dX4_sizeOf_3 rfl (by decide) rfl ?_
  have L4 : ∀ (fu4 : Nat) (n : Int) (k : Int), 0 ≤ k ∧ k ≤ ca ∧ 0 ≤ n ∧ n ≤ k → n = cnt Mk (b + 1) k.toNat → (ca - k) < (fu4 : Int) → GG p l e ({ frames := 0, cells := 0, slots := 0, locals := 0 }) s m args below meth c D vwCl A 4 (QI D vwCl cA A below args s 0 0 (fun (r : Int) (w : va_W) => r = cnt Mk (b + 1) ca.toNat ∧ (0 ≤ r ∧ r ≤ ca) ∧ w = [(y, .inr (4, [.int (iI ca), .ref mb, .ref ms, .ref mm, .ref mf, .ref mz, .int (iI my), .ref mt, .int (iI me), .int (iI mn), .ref mp, .int (iI mi), .ref mq, .int (iI ma), .int (iI mu), .ref mo, .int (iI mw)])), (mm, aE cA 4096 Mk)])) 0 0 [(y, .inr (4, [.int (iI ca), .ref mb, .ref ms, .ref mm, .ref mf, .ref mz, .int (iI my), .ref mt, .int (iI me), .int (iI mn), .ref mp, .int (iI mi), .ref mq, .int (iI ma), .int (iI mu), .ref mo, .int (iI mw)])), (mm, aE cA 4096 Mk)] [(0, .ref y), (1, .int (iI b)), (2, .int (iI n)), (3, .int (iI k))] 4 [] := by
    intro fu4
    induction fu4 with
    | zero => intro n k hk hI hmu4; exfalso; omega
    | succ fu4 ih4 =>
      intro n k hk hI hmu4
      refine g_iload_n E dX4_sizeOf_4 rfl 3 rfl ?_
      refine g_aload_n E dX4_sizeOf_5 rfl 0 rfl ?_
      refine g_getfield E dX4_sizeOf_6 0 0 rfl rfl (by decide) iX4 wd_116 rfl rfl ?_
      refine g_icmp_ge (tgt := 38) E dX4_sizeOf_9 (by decide) ⟨(by omega), (by omega)⟩ ⟨(by omega), (by omega)⟩ (fun c_9 => ?_) (fun c_9 => ?_)
      · skip
        refine g_iload_n E dX4_sizeOf_38 rfl 2 rfl ?_
        refine g_ireturn E dX4_sizeOf_39 ?_
        exact ⟨by rw [hI, show k = ca by omega], by omega, rfl⟩
      · skip
        refine g_aload_n E dX4_sizeOf_12 rfl 0 rfl ?_
        refine g_getfield E dX4_sizeOf_13 0 3 rfl rfl (by decide) iX4 wd_117 rfl rfl ?_
        refine g_iload_n E dX4_sizeOf_16 rfl 3 rfl ?_
        refine g_iaload E dX4_sizeOf_17 1 rfl (by omega) (by omega) (by omega) ?_
        have hm := hMk k (by omega) (by omega)
        refine g_iload_n E dX4_sizeOf_18 rfl 1 rfl ?_
        refine g_iconst E dX4_sizeOf_19 ?_
        refine g_iadd E dX4_sizeOf_20 ?_
        refine g_icmp_ne (tgt := 30) E dX4_sizeOf_21 (by decide) ⟨(by omega), (by omega)⟩ ⟨(by omega), (by omega)⟩ (fun c_21 => ?_) (fun c_21 => ?_)
        · skip
          refine g_iload_n E dX4_sizeOf_30 rfl 2 rfl ?_
          refine g_istore_n (lv' := [(2, .int (iI n)), (0, .ref y), (1, .int (iI b)), (3, .int (iI k))]) E dX4_sizeOf_31 rfl (by decide) rfl ?_
          refine g_iinc (lv' := [(3, .int (iI (k + 1))), (2, .int (iI n)), (0, .ref y), (1, .int (iI b))]) E dX4_sizeOf_32 3 rfl (by decide) rfl ?_
          refine g_goto (tgt := 4) E dX4_sizeOf_35 (by decide) ?_
          refine GG.lvs (lv' := [(0, .ref y), (1, .int (iI b)), (2, .int (iI n)), (3, .int (iI (k + 1)))]) [2, 3, 1, 0] rfl ?_
          exact ih4 n (k + 1) (by omega) (by first | exact cnt_y hk.1 hI c_21 | exact cnt_n hk.1 hI c_21) (by omega)
        · skip
          refine g_iload_n E dX4_sizeOf_24 rfl 2 rfl ?_
          refine g_iconst E dX4_sizeOf_25 ?_
          refine g_iadd E dX4_sizeOf_26 ?_
          refine g_goto (tgt := 31) E dX4_sizeOf_27 (by decide) ?_
          refine g_istore_n (lv' := [(2, .int (iI (n + 1))), (0, .ref y), (1, .int (iI b)), (3, .int (iI k))]) E dX4_sizeOf_31 rfl (by decide) rfl ?_
          refine g_iinc (lv' := [(3, .int (iI (k + 1))), (2, .int (iI (n + 1))), (0, .ref y), (1, .int (iI b))]) E dX4_sizeOf_32 3 rfl (by decide) rfl ?_
          refine g_goto (tgt := 4) E dX4_sizeOf_35 (by decide) ?_
          refine GG.lvs (lv' := [(0, .ref y), (1, .int (iI b)), (2, .int (iI (n + 1))), (3, .int (iI (k + 1)))]) [2, 3, 1, 0] rfl ?_
          exact ih4 (n + 1) (k + 1) (by omega) (by first | exact cnt_y hk.1 hI c_21 | exact cnt_n hk.1 hI c_21) (by omega)
  refine GG.lvs (lv' := [(0, .ref y), (1, .int (iI b)), (2, .int (iI 0)), (3, .int (iI 0))]) [2, 3, 1, 0] rfl ?_
  exact L4 ((ca - 0 : Int).toNat + 1) 0 0 (by omega) (by rfl) (by omega)
set_option maxHeartbeats 4000000 in
set_option maxRecDepth 100000 in
theorem c_X4_release (l : Launch) (D : va_G) (cA : ClassId) (y : Nat) (mb : Nat) (ms : Nat) (mm : Nat) (mf : Nat) (mz : Nat) (mt : Nat) (mp : Nat) (mq : Nat) (mo : Nat) (ca : Int) (my : Int) (me : Int) (mn : Int) (mi : Int) (ma : Int) (mu : Int) (mw : Int) (Mk : Int → Int) (b : Int) (hca : 0 ≤ ca ∧ ca ≤ 4096) (hMk : mkR Mk) (hb : 0 ≤ b ∧ b < 32) : Cv l D vwCl cA yX4_release (.code yX4_release cX4_release 3 none :: UW) ({ frames := 0, cells := 0, slots := 0, locals := 0 }) 0 0 [.ref y, .int (iI b)] [(y, .inr (4, [.int (iI ca), .ref mb, .ref ms, .ref mm, .ref mf, .ref mz, .int (iI my), .ref mt, .int (iI me), .int (iI mn), .ref mp, .int (iI mi), .ref mq, .int (iI ma), .int (iI mu), .ref mo, .int (iI mw)])), (mm, aE cA 4096 Mk)] (fun (w : va_W) => w = [(y, .inr (4, [.int (iI ca), .ref mb, .ref ms, .ref mm, .ref mf, .ref mz, .int (iI my), .ref mt, .int (iI me), .int (iI mn), .ref mp, .int (iI mi), .ref mq, .int (iI ma), .int (iI mu), .ref mo, .int (iI mw)])), (mm, aE cA 4096 (rel ca Mk b))]) := by
  refine Cv.mk (by decide) (Nat.le_of_ble_eq_true rfl) ?_
  intro p e s m args below meth c A E hin
  refine GG.lvs (lv' := [(0, .ref y), (1, .int (iI b))]) [0, 1] rfl ?_
  refine g_iconst E dX4_release_0 ?_
  refine g_istore_n (lv' := [(2, .int (iI 0)), (0, .ref y), (1, .int (iI b))]) E dX4_release_1 rfl (by decide) rfl ?_
  have L2 : ∀ (fu2 : Nat) (k : Int) (G : Int → Int), 0 ≤ k ∧ k ≤ ca → G = rel k Mk b → (ca - k) < (fu2 : Int) → GG p l e ({ frames := 0, cells := 0, slots := 0, locals := 0 }) s m args below meth c D vwCl A 3 (QV D vwCl cA A below args s 0 0 (fun (w : va_W) => w = [(y, .inr (4, [.int (iI ca), .ref mb, .ref ms, .ref mm, .ref mf, .ref mz, .int (iI my), .ref mt, .int (iI me), .int (iI mn), .ref mp, .int (iI mi), .ref mq, .int (iI ma), .int (iI mu), .ref mo, .int (iI mw)])), (mm, aE cA 4096 (rel ca Mk b))])) 0 0 [(y, .inr (4, [.int (iI ca), .ref mb, .ref ms, .ref mm, .ref mf, .ref mz, .int (iI my), .ref mt, .int (iI me), .int (iI mn), .ref mp, .int (iI mi), .ref mq, .int (iI ma), .int (iI mu), .ref mo, .int (iI mw)])), (mm, aE cA 4096 G)] [(0, .ref y), (1, .int (iI b)), (2, .int (iI k))] 2 [] := by
    intro fu2
    induction fu2 with
    | zero => intro k G hk hG hmu2; exfalso; omega
    | succ fu2 ih2 =>
      intro k G hk hG hmu2
      refine g_iload_n E dX4_release_2 rfl 2 rfl ?_
      refine g_aload_n E dX4_release_3 rfl 0 rfl ?_
      refine g_getfield E dX4_release_4 0 0 rfl rfl (by decide) iX4 wd_116 rfl rfl ?_
      refine g_icmp_ge (tgt := 44) E dX4_release_7 (by decide) ⟨(by omega), (by omega)⟩ ⟨(by omega), (by omega)⟩ (fun c_7 => ?_) (fun c_7 => ?_)
      · skip
        refine g_return E dX4_release_44 ?_
        have : k = ca := by omega
        subst this
        rw [hG]
      · skip
        refine g_aload_n E dX4_release_10 rfl 0 rfl ?_
        refine g_getfield E dX4_release_11 0 3 rfl rfl (by decide) iX4 wd_117 rfl rfl ?_
        refine g_iload_n E dX4_release_14 rfl 2 rfl ?_
        refine g_aload_n E dX4_release_15 rfl 0 rfl ?_
        refine g_getfield E dX4_release_16 0 3 rfl rfl (by decide) iX4 wd_117 rfl rfl ?_
        refine g_iload_n E dX4_release_19 rfl 2 rfl ?_
        refine g_iaload E dX4_release_20 1 rfl (by omega) (by omega) (by omega) ?_
        have hm := hMk k (by omega) (by omega)
        have hGk : G k = Mk k := by rw [hG]; exact rel_at
        refine g_iload_n E dX4_release_21 rfl 1 rfl ?_
        refine g_iconst E dX4_release_22 ?_
        refine g_iadd E dX4_release_23 ?_
        refine g_icmp_ne (tgt := 31) E dX4_release_24 (by decide) ⟨(by omega), (by omega)⟩ ⟨(by omega), (by omega)⟩ (fun c_24 => ?_) (fun c_24 => ?_)
        · skip
          refine g_aload_n E dX4_release_31 rfl 0 rfl ?_
          refine g_getfield E dX4_release_32 0 3 rfl rfl (by decide) iX4 wd_117 rfl rfl ?_
          refine g_iload_n E dX4_release_35 rfl 2 rfl ?_
          refine g_iaload E dX4_release_36 1 rfl (by omega) (by omega) (by omega) ?_
          refine g_iastore (ws' := [(y, .inr (4, [.int (iI ca), .ref mb, .ref ms, .ref mm, .ref mf, .ref mz, .int (iI my), .ref mt, .int (iI me), .int (iI mn), .ref mp, .int (iI mi), .ref mq, .int (iI ma), .int (iI mu), .ref mo, .int (iI mw)])), (mm, aE cA 4096 (up G k (G k)))]) E dX4_release_37 1 rfl (by omega) (by omega) (by omega) rfl ?_
          refine g_iinc (lv' := [(2, .int (iI (k + 1))), (0, .ref y), (1, .int (iI b))]) E dX4_release_38 2 rfl (by decide) rfl ?_
          refine g_goto (tgt := 2) E dX4_release_41 (by decide) ?_
          refine GG.lvs (lv' := [(0, .ref y), (1, .int (iI b)), (2, .int (iI (k + 1)))]) [1, 2, 0] rfl ?_
          exact ih2 (k + 1) (up G k (G k)) (by omega) (by first | exact rel_y hk.1 hG (by omega) | exact rel_n hk.1 hG (by omega)) (by omega)
        · skip
          refine g_iconst E dX4_release_27 ?_
          refine g_goto (tgt := 37) E dX4_release_28 (by decide) ?_
          refine g_iastore (ws' := [(y, .inr (4, [.int (iI ca), .ref mb, .ref ms, .ref mm, .ref mf, .ref mz, .int (iI my), .ref mt, .int (iI me), .int (iI mn), .ref mp, .int (iI mi), .ref mq, .int (iI ma), .int (iI mu), .ref mo, .int (iI mw)])), (mm, aE cA 4096 (up G k 0))]) E dX4_release_37 1 rfl (by omega) (by omega) (by omega) rfl ?_
          refine g_iinc (lv' := [(2, .int (iI (k + 1))), (0, .ref y), (1, .int (iI b))]) E dX4_release_38 2 rfl (by decide) rfl ?_
          refine g_goto (tgt := 2) E dX4_release_41 (by decide) ?_
          refine GG.lvs (lv' := [(0, .ref y), (1, .int (iI b)), (2, .int (iI (k + 1)))]) [1, 2, 0] rfl ?_
          exact ih2 (k + 1) (up G k 0) (by omega) (by first | exact rel_y hk.1 hG (by omega) | exact rel_n hk.1 hG (by omega)) (by omega)
  refine GG.lvs (lv' := [(0, .ref y), (1, .int (iI b)), (2, .int (iI 0))]) [1, 2, 0] rfl ?_
  exact L2 ((ca - 0 : Int).toNat + 1) 0 Mk (by omega) (by exact (rel_0 ..).symm) (by omega)
set_option maxHeartbeats 4000000 in
set_option maxRecDepth 100000 in
theorem c_X4_room (l : Launch) (D : va_G) (cA : ClassId) (y : Nat) (mb : Nat) (ms : Nat) (mm : Nat) (mf : Nat) (mz : Nat) (mt : Nat) (mp : Nat) (mq : Nat) (mo : Nat) (ca : Int) (my : Int) (me : Int) (mn : Int) (mi : Int) (ma : Int) (mu : Int) (mw : Int) (Mk : Int → Int) (n : Int) (b : Int) (hca : 0 ≤ ca ∧ ca ≤ 4096) (hMk : mkR Mk) (hb : 0 ≤ b ∧ b < 32) (hn : 1 ≤ n ∧ n ≤ 256) : Ci l D vwCl cA yX4_room (.code yX4_room cX4_room 5 (some .int) :: UW) ({ frames := 0, cells := 0, slots := 0, locals := 0 }) 0 0 [.ref y, .int (iI n), .int (iI b)] [(y, .inr (4, [.int (iI ca), .ref mb, .ref ms, .ref mm, .ref mf, .ref mz, .int (iI my), .ref mt, .int (iI me), .int (iI mn), .ref mp, .int (iI mi), .ref mq, .int (iI ma), .int (iI mu), .ref mo, .int (iI mw)])), (mm, aE cA 4096 Mk)] (fun (r : Int) (w : va_W) => ((0 ≤ r ∧ roomAt Mk b ca n r) ∨ (r = -1 ∧ noRoom Mk b ca n)) ∧ (-1 ≤ r ∧ r ≤ ca) ∧ w = [(y, .inr (4, [.int (iI ca), .ref mb, .ref ms, .ref mm, .ref mf, .ref mz, .int (iI my), .ref mt, .int (iI me), .int (iI mn), .ref mp, .int (iI mi), .ref mq, .int (iI ma), .int (iI mu), .ref mo, .int (iI mw)])), (mm, aE cA 4096 Mk)]) := by
  refine Ci.mk (by decide) (Nat.le_of_ble_eq_true rfl) ?_
  intro p e s m args below meth c A E
  refine GG.lvs (lv' := [(0, .ref y), (1, .int (iI n)), (2, .int (iI b))]) [0, 1, 2] rfl ?_
  refine g_iconst E dX4_room_0 ?_
  refine g_istore_n (lv' := [(3, .int (iI 0)), (0, .ref y), (1, .int (iI n)), (2, .int (iI b))]) E dX4_room_1 rfl (by decide) rfl ?_
  refine g_iconst E dX4_room_2 ?_
  refine g_istore (lv' := [(4, .int (iI 0)), (3, .int (iI 0)), (0, .ref y), (1, .int (iI n)), (2, .int (iI b))]) E dX4_room_3 (by decide) rfl ?_
  have L5 : ∀ (fu5 : Nat) (row : Int) (k : Int), 0 ≤ k ∧ k ≤ ca ∧ 0 ≤ row ∧ row ≤ k ∧ row < n → (∀ j, k - row ≤ j → j < k → isF Mk b j) → row = k ∨ ¬ isF Mk b (k - row - 1) → (∀ q, 0 ≤ q → q + n ≤ k → ∃ j, q ≤ j ∧ j < q + n ∧ ¬ isF Mk b j) → (ca - k) < (fu5 : Int) → GG p l e ({ frames := 0, cells := 0, slots := 0, locals := 0 }) s m args below meth c D vwCl A 5 (QI D vwCl cA A below args s 0 0 (fun (r : Int) (w : va_W) => ((0 ≤ r ∧ roomAt Mk b ca n r) ∨ (r = -1 ∧ noRoom Mk b ca n)) ∧ (-1 ≤ r ∧ r ≤ ca) ∧ w = [(y, .inr (4, [.int (iI ca), .ref mb, .ref ms, .ref mm, .ref mf, .ref mz, .int (iI my), .ref mt, .int (iI me), .int (iI mn), .ref mp, .int (iI mi), .ref mq, .int (iI ma), .int (iI mu), .ref mo, .int (iI mw)])), (mm, aE cA 4096 Mk)])) 0 0 [(y, .inr (4, [.int (iI ca), .ref mb, .ref ms, .ref mm, .ref mf, .ref mz, .int (iI my), .ref mt, .int (iI me), .int (iI mn), .ref mp, .int (iI mi), .ref mq, .int (iI ma), .int (iI mu), .ref mo, .int (iI mw)])), (mm, aE cA 4096 Mk)] [(0, .ref y), (1, .int (iI n)), (2, .int (iI b)), (3, .int (iI row)), (4, .int (iI k))] 5 [] := by
    intro fu5
    induction fu5 with
    | zero => intro row k hk hI hJ hQ hmu5; exfalso; omega
    | succ fu5 ih5 =>
      intro row k hk hI hJ hQ hmu5
      refine g_iload E dX4_room_5 4 rfl ?_
      refine g_aload_n E dX4_room_7 rfl 0 rfl ?_
      refine g_getfield E dX4_room_8 0 0 rfl rfl (by decide) iX4 wd_116 rfl rfl ?_
      refine g_icmp_ge (tgt := 63) E dX4_room_11 (by decide) ⟨(by omega), (by omega)⟩ ⟨(by omega), (by omega)⟩ (fun c_11 => ?_) (fun c_11 => ?_)
      · skip
        refine g_iconst E dX4_room_63 ?_
        refine g_ireturn E dX4_room_64 ?_
        exact ⟨Or.inr ⟨rfl, fun q h1 h2 => hQ q h1 (by omega)⟩, by omega, rfl⟩
      · skip
        have L44 : ∀ (row2 : Int), (row2 = row + 1 ∧ isF Mk b k) ∨ (row2 = 0 ∧ ¬ isF Mk b k) → GG p l e ({ frames := 0, cells := 0, slots := 0, locals := 0 }) s m args below meth c D vwCl A 5 (QI D vwCl cA A below args s 0 0 (fun (r : Int) (w : va_W) => ((0 ≤ r ∧ roomAt Mk b ca n r) ∨ (r = -1 ∧ noRoom Mk b ca n)) ∧ (-1 ≤ r ∧ r ≤ ca) ∧ w = [(y, .inr (4, [.int (iI ca), .ref mb, .ref ms, .ref mm, .ref mf, .ref mz, .int (iI my), .ref mt, .int (iI me), .int (iI mn), .ref mp, .int (iI mi), .ref mq, .int (iI ma), .int (iI mu), .ref mo, .int (iI mw)])), (mm, aE cA 4096 Mk)])) 0 0 [(y, .inr (4, [.int (iI ca), .ref mb, .ref ms, .ref mm, .ref mf, .ref mz, .int (iI my), .ref mt, .int (iI me), .int (iI mn), .ref mp, .int (iI mi), .ref mq, .int (iI ma), .int (iI mu), .ref mo, .int (iI mw)])), (mm, aE cA 4096 Mk)] [(0, .ref y), (1, .int (iI n)), (2, .int (iI b)), (4, .int (iI k))] 44 [.int (iI row2)] := by
          intro row2 hr2
          refine g_istore_n (lv' := [(3, .int (iI row2)), (0, .ref y), (1, .int (iI n)), (2, .int (iI b)), (4, .int (iI k))]) E dX4_room_44 rfl (by decide) rfl ?_
          refine g_iload_n E dX4_room_45 rfl 0 rfl ?_
          refine g_iload_n E dX4_room_46 rfl 2 rfl ?_
          refine g_icmp_ne (tgt := 57) E dX4_room_47 (by decide) ⟨(by omega), (by omega)⟩ ⟨(by omega), (by omega)⟩ (fun c_47 => ?_) (fun c_47 => ?_)
          · skip
            have hI2 : ∀ j, k + 1 - row2 ≤ j → j < k + 1 → isF Mk b j := fun j h1 h2 => hr2.elim (fun g => if e : j = k then (by rw [e]; exact g.2) else hI j (by omega) (by omega)) (fun g => by omega)
            have hJ2 : row2 = k + 1 ∨ ¬ isF Mk b (k + 1 - row2 - 1) := hr2.elim (fun g => hJ.elim (fun e => Or.inl (by omega)) (fun e => Or.inr (by rw [show k + 1 - row2 - 1 = k - row - 1 by omega]; exact e))) (fun g => Or.inr (by rw [show k + 1 - row2 - 1 = k by omega]; exact g.2))
            have hQ2 : ∀ q, 0 ≤ q → q + n ≤ k + 1 → ∃ j, q ≤ j ∧ j < q + n ∧ ¬ isF Mk b j := by
              intro q h1 h2
              by_cases e : q + n ≤ k
              · exact hQ q h1 e
              · rcases hr2 with g | g
                · rcases hJ with e2 | e2
                  · exfalso; omega
                  · exact ⟨k - row - 1, by omega, by omega, e2⟩
                · exact ⟨k, by omega, by omega, g.2⟩
            refine g_iinc (lv' := [(4, .int (iI (k + 1))), (3, .int (iI row2)), (0, .ref y), (1, .int (iI n)), (2, .int (iI b))]) E dX4_room_57 4 rfl (by decide) rfl ?_
            refine g_goto (tgt := 5) E dX4_room_60 (by decide) ?_
            refine GG.lvs (lv' := [(0, .ref y), (1, .int (iI n)), (2, .int (iI b)), (3, .int (iI row2)), (4, .int (iI (k + 1)))]) [2, 3, 4, 1, 0] rfl ?_
            exact ih5 row2 (k + 1) (by omega) (by exact hI2) (by exact hJ2) (by exact hQ2) (by omega)
          · skip
            refine g_iload E dX4_room_50 4 rfl ?_
            refine g_iconst E dX4_room_52 ?_
            refine g_iadd E dX4_room_53 ?_
            refine g_iload_n E dX4_room_54 rfl 2 rfl ?_
            refine g_isub E dX4_room_55 ?_
            refine g_ireturn E dX4_room_56 ?_
            have g1 := hr2.resolve_right (fun g => by omega)
            exact ⟨Or.inl ⟨by omega, by omega, by omega, fun j h1 h2 => if e : j = k then (by rw [e]; exact g1.2) else hI j (by omega) (by omega), fun q h1 h2 => hQ q h1 (by omega)⟩, by omega, rfl⟩
        refine g_aload_n E dX4_room_14 rfl 0 rfl ?_
        refine g_getfield E dX4_room_15 0 3 rfl rfl (by decide) iX4 wd_117 rfl rfl ?_
        refine g_iload E dX4_room_18 4 rfl ?_
        refine g_iaload E dX4_room_20 1 rfl (by omega) (by omega) (by omega) ?_
        have hm := hMk k (by omega) (by omega)
        refine g_if_eq (tgt := 37) E dX4_room_21 (by decide) ⟨(by omega), (by omega)⟩ (fun c_21 => ?_) (fun c_21 => ?_)
        · skip
          refine g_iload_n E dX4_room_37 rfl 3 rfl ?_
          refine g_iconst E dX4_room_38 ?_
          refine g_iadd E dX4_room_39 ?_
          refine g_goto (tgt := 44) E dX4_room_40 (by decide) ?_
          refine GG.lvs (lv' := [(0, .ref y), (1, .int (iI n)), (2, .int (iI b)), (4, .int (iI k))]) [0, 1, 2, 4] rfl ?_
          exact L44 (row + 1) (by first | exact Or.inl ⟨rfl, Or.inl c_21⟩ | exact Or.inl ⟨rfl, Or.inr c_34⟩ | exact Or.inr ⟨rfl, fun g => g.elim c_21 c_34⟩)
        · skip
          refine g_aload_n E dX4_room_24 rfl 0 rfl ?_
          refine g_getfield E dX4_room_25 0 3 rfl rfl (by decide) iX4 wd_117 rfl rfl ?_
          refine g_iload E dX4_room_28 4 rfl ?_
          refine g_iaload E dX4_room_30 1 rfl (by omega) (by omega) (by omega) ?_
          have hm2 := hMk k (by omega) (by omega)
          refine g_iload_n E dX4_room_31 rfl 2 rfl ?_
          refine g_iconst E dX4_room_32 ?_
          refine g_iadd E dX4_room_33 ?_
          refine g_icmp_ne (tgt := 43) E dX4_room_34 (by decide) ⟨(by omega), (by omega)⟩ ⟨(by omega), (by omega)⟩ (fun c_34 => ?_) (fun c_34 => ?_)
          · skip
            refine g_iconst E dX4_room_43 ?_
            refine GG.lvs (lv' := [(0, .ref y), (1, .int (iI n)), (2, .int (iI b)), (4, .int (iI k))]) [0, 1, 2, 4] rfl ?_
            exact L44 0 (by first | exact Or.inl ⟨rfl, Or.inl c_21⟩ | exact Or.inl ⟨rfl, Or.inr c_34⟩ | exact Or.inr ⟨rfl, fun g => g.elim c_21 c_34⟩)
          · skip
            refine g_iload_n E dX4_room_37 rfl 3 rfl ?_
            refine g_iconst E dX4_room_38 ?_
            refine g_iadd E dX4_room_39 ?_
            refine g_goto (tgt := 44) E dX4_room_40 (by decide) ?_
            refine GG.lvs (lv' := [(0, .ref y), (1, .int (iI n)), (2, .int (iI b)), (4, .int (iI k))]) [0, 1, 2, 4] rfl ?_
            exact L44 (row + 1) (by first | exact Or.inl ⟨rfl, Or.inl c_21⟩ | exact Or.inl ⟨rfl, Or.inr c_34⟩ | exact Or.inr ⟨rfl, fun g => g.elim c_21 c_34⟩)
  refine GG.lvs (lv' := [(0, .ref y), (1, .int (iI n)), (2, .int (iI b)), (3, .int (iI 0)), (4, .int (iI 0))]) [2, 3, 4, 1, 0] rfl ?_
  exact L5 ((ca - 0 : Int).toNat + 1) 0 0 (by omega) (by intro j h1 h2; omega) (by exact Or.inl rfl) (by intro q h1 h2; omega) (by omega)
set_option maxHeartbeats 4000000 in
set_option maxRecDepth 100000 in
theorem c_X4_together (l : Launch) (D : va_G) (cA : ClassId) (y : Nat) (mb : Nat) (ms : Nat) (mm : Nat) (mf : Nat) (mz : Nat) (mt : Nat) (mp : Nat) (mq : Nat) (mo : Nat) (ca : Int) (my : Int) (me : Int) (mn : Int) (mi : Int) (ma : Int) (mu : Int) (mw : Int) (Mk : Int → Int) (St : Int → Int) (hca : 0 ≤ ca ∧ ca ≤ 4096) (hMk : mkR Mk) : Ci l D vwCl cA yX4_together (.code yX4_together cX4_together 4 (some .int) :: UW) ({ frames := 0, cells := 0, slots := 0, locals := 0 }) 0 0 [.ref y] [(y, .inr (4, [.int (iI ca), .ref mb, .ref ms, .ref mm, .ref mf, .ref mz, .int (iI my), .ref mt, .int (iI me), .int (iI mn), .ref mp, .int (iI mi), .ref mq, .int (iI ma), .int (iI mu), .ref mo, .int (iI mw)])), (mm, aE cA 4096 Mk), (ms, aE cA 4096 St)] (fun (r : Int) (w : va_W) => ∃ (TG : (Int → Int) × (Int → Int) × Int × Int), TG = tg St Mk ca.toNat ∧ r = TG.2.2.2 ∧ mkR TG.2.1 ∧ w = [(y, .inr (4, [.int (iI ca), .ref mb, .ref ms, .ref mm, .ref mf, .ref mz, .int (iI my), .ref mt, .int (iI me), .int (iI mn), .ref mp, .int (iI mi), .ref mq, .int (iI ma), .int (iI mu), .ref mo, .int (iI mw)])), (mm, aE cA 4096 TG.2.1), (ms, aE cA 4096 TG.1)]) := by
  refine Ci.mk (by decide) (Nat.le_of_ble_eq_true rfl) ?_
  intro p e s m args below meth c A E
  refine GG.lvs (lv' := [(0, .ref y)]) [0] rfl ?_
  refine g_iconst E dX4_together_0 ?_
  refine g_istore_n (lv' := [(1, .int (iI 0)), (0, .ref y)]) E dX4_together_1 rfl (by decide) rfl ?_
  refine g_iconst E dX4_together_2 ?_
  refine g_istore_n (lv' := [(2, .int (iI 0)), (1, .int (iI 0)), (0, .ref y)]) E dX4_together_3 rfl (by decide) rfl ?_
  refine g_iconst E dX4_together_4 ?_
  refine g_istore_n (lv' := [(3, .int (iI 0)), (2, .int (iI 0)), (1, .int (iI 0)), (0, .ref y)]) E dX4_together_5 rfl (by decide) rfl ?_
  have L6 : ∀ (fu6 : Nat) (mv : Int) (t : Int) (k : Int) (G : Int → Int) (H : Int → Int), 0 ≤ k ∧ k ≤ ca ∧ 0 ≤ t ∧ t ≤ k ∧ 0 ≤ mv ∧ mv ≤ k → tg St Mk k.toNat = (H, G, t, mv) → mkR G → (ca - k) < (fu6 : Int) → GG p l e ({ frames := 0, cells := 0, slots := 0, locals := 0 }) s m args below meth c D vwCl A 4 (QI D vwCl cA A below args s 0 0 (fun (r : Int) (w : va_W) => ∃ (TG : (Int → Int) × (Int → Int) × Int × Int), TG = tg St Mk ca.toNat ∧ r = TG.2.2.2 ∧ mkR TG.2.1 ∧ w = [(y, .inr (4, [.int (iI ca), .ref mb, .ref ms, .ref mm, .ref mf, .ref mz, .int (iI my), .ref mt, .int (iI me), .int (iI mn), .ref mp, .int (iI mi), .ref mq, .int (iI ma), .int (iI mu), .ref mo, .int (iI mw)])), (mm, aE cA 4096 TG.2.1), (ms, aE cA 4096 TG.1)])) 0 0 [(y, .inr (4, [.int (iI ca), .ref mb, .ref ms, .ref mm, .ref mf, .ref mz, .int (iI my), .ref mt, .int (iI me), .int (iI mn), .ref mp, .int (iI mi), .ref mq, .int (iI ma), .int (iI mu), .ref mo, .int (iI mw)])), (mm, aE cA 4096 G), (ms, aE cA 4096 H)] [(0, .ref y), (1, .int (iI mv)), (2, .int (iI t)), (3, .int (iI k))] 6 [] := by
    intro fu6
    induction fu6 with
    | zero => intro mv t k G H hk hI hGr hmu6; exfalso; omega
    | succ fu6 ih6 =>
      intro mv t k G H hk hI hGr hmu6
      refine g_iload_n E dX4_together_6 rfl 3 rfl ?_
      refine g_aload_n E dX4_together_7 rfl 0 rfl ?_
      refine g_getfield E dX4_together_8 0 0 rfl rfl (by decide) iX4 wd_116 rfl rfl ?_
      refine g_icmp_ge (tgt := 74) E dX4_together_11 (by decide) ⟨(by omega), (by omega)⟩ ⟨(by omega), (by omega)⟩ (fun c_11 => ?_) (fun c_11 => ?_)
      · skip
        refine g_iload_n E dX4_together_74 rfl 1 rfl ?_
        refine g_ireturn E dX4_together_75 ?_
        exact ⟨(H, G, t, mv), by rw [← hI, show k = ca by omega], rfl, hGr, rfl⟩
      · skip
        refine g_aload_n E dX4_together_14 rfl 0 rfl ?_
        refine g_getfield E dX4_together_15 0 3 rfl rfl (by decide) iX4 wd_117 rfl rfl ?_
        refine g_iload_n E dX4_together_18 rfl 3 rfl ?_
        refine g_iaload E dX4_together_19 1 rfl (by omega) (by omega) (by omega) ?_
        have hm := hGr k (by omega) (by omega)
        refine g_if_ne (tgt := 26) E dX4_together_20 (by decide) ⟨(by omega), (by omega)⟩ (fun c_20 => ?_) (fun c_20 => ?_)
        · skip
          refine g_iload_n E dX4_together_26 rfl 2 rfl ?_
          refine g_iload_n E dX4_together_27 rfl 3 rfl ?_
          refine g_icmp_eq (tgt := 65) E dX4_together_28 (by decide) ⟨(by omega), (by omega)⟩ ⟨(by omega), (by omega)⟩ (fun c_28 => ?_) (fun c_28 => ?_)
          · skip
            refine g_iinc (lv' := [(2, .int (iI (t + 1))), (0, .ref y), (1, .int (iI mv)), (3, .int (iI k))]) E dX4_together_65 2 rfl (by decide) rfl ?_
            refine g_iinc (lv' := [(3, .int (iI (k + 1))), (2, .int (iI (t + 1))), (0, .ref y), (1, .int (iI mv))]) E dX4_together_68 3 rfl (by decide) rfl ?_
            refine g_goto (tgt := 6) E dX4_together_71 (by decide) ?_
            refine GG.lvs (lv' := [(0, .ref y), (1, .int (iI mv)), (2, .int (iI (t + 1))), (3, .int (iI (k + 1)))]) [2, 3, 1, 0] rfl ?_
            exact ih6 mv (t + 1) (k + 1) G H (by omega) (by first | exact tg_z hk.1 hI c_20 | exact tg_e hk.1 hI c_20 c_28 | exact tg_m hk.1 hI c_20 c_28) (by first | exact hGr | exact mkR_up (mkR_up hGr hm) (by omega)) (by omega)
          · skip
            refine g_aload_n E dX4_together_31 rfl 0 rfl ?_
            refine g_getfield E dX4_together_32 0 2 rfl rfl (by decide) iX4 wd_118 rfl rfl ?_
            refine g_iload_n E dX4_together_35 rfl 2 rfl ?_
            refine g_aload_n E dX4_together_36 rfl 0 rfl ?_
            refine g_getfield E dX4_together_37 0 2 rfl rfl (by decide) iX4 wd_118 rfl rfl ?_
            refine g_iload_n E dX4_together_40 rfl 3 rfl ?_
            refine g_iaload E dX4_together_41 2 rfl (by omega) (by omega) (by omega) ?_
            refine g_iastore (ws' := [(y, .inr (4, [.int (iI ca), .ref mb, .ref ms, .ref mm, .ref mf, .ref mz, .int (iI my), .ref mt, .int (iI me), .int (iI mn), .ref mp, .int (iI mi), .ref mq, .int (iI ma), .int (iI mu), .ref mo, .int (iI mw)])), (mm, aE cA 4096 G), (ms, aE cA 4096 (up H t (H k)))]) E dX4_together_42 2 rfl (by omega) (by omega) (by omega) rfl ?_
            refine g_aload_n E dX4_together_43 rfl 0 rfl ?_
            refine g_getfield E dX4_together_44 0 3 rfl rfl (by decide) iX4 wd_117 rfl rfl ?_
            refine g_iload_n E dX4_together_47 rfl 2 rfl ?_
            refine g_aload_n E dX4_together_48 rfl 0 rfl ?_
            refine g_getfield E dX4_together_49 0 3 rfl rfl (by decide) iX4 wd_117 rfl rfl ?_
            refine g_iload_n E dX4_together_52 rfl 3 rfl ?_
            refine g_iaload E dX4_together_53 1 rfl (by omega) (by omega) (by omega) ?_
            refine g_iastore (ws' := [(y, .inr (4, [.int (iI ca), .ref mb, .ref ms, .ref mm, .ref mf, .ref mz, .int (iI my), .ref mt, .int (iI me), .int (iI mn), .ref mp, .int (iI mi), .ref mq, .int (iI ma), .int (iI mu), .ref mo, .int (iI mw)])), (mm, aE cA 4096 (up G t (G k))), (ms, aE cA 4096 (up H t (H k)))]) E dX4_together_54 1 rfl (by omega) (by omega) (by omega) rfl ?_
            refine g_aload_n E dX4_together_55 rfl 0 rfl ?_
            refine g_getfield E dX4_together_56 0 3 rfl rfl (by decide) iX4 wd_117 rfl rfl ?_
            refine g_iload_n E dX4_together_59 rfl 3 rfl ?_
            refine g_iconst E dX4_together_60 ?_
            refine g_iastore (ws' := [(y, .inr (4, [.int (iI ca), .ref mb, .ref ms, .ref mm, .ref mf, .ref mz, .int (iI my), .ref mt, .int (iI me), .int (iI mn), .ref mp, .int (iI mi), .ref mq, .int (iI ma), .int (iI mu), .ref mo, .int (iI mw)])), (mm, aE cA 4096 (up (up G t (G k)) k 0)), (ms, aE cA 4096 (up H t (H k)))]) E dX4_together_61 1 rfl (by omega) (by omega) (by omega) rfl ?_
            refine g_iinc (lv' := [(1, .int (iI (mv + 1))), (0, .ref y), (2, .int (iI t)), (3, .int (iI k))]) E dX4_together_62 1 rfl (by decide) rfl ?_
            refine g_iinc (lv' := [(2, .int (iI (t + 1))), (1, .int (iI (mv + 1))), (0, .ref y), (3, .int (iI k))]) E dX4_together_65 2 rfl (by decide) rfl ?_
            refine g_iinc (lv' := [(3, .int (iI (k + 1))), (2, .int (iI (t + 1))), (1, .int (iI (mv + 1))), (0, .ref y)]) E dX4_together_68 3 rfl (by decide) rfl ?_
            refine g_goto (tgt := 6) E dX4_together_71 (by decide) ?_
            refine GG.lvs (lv' := [(0, .ref y), (1, .int (iI (mv + 1))), (2, .int (iI (t + 1))), (3, .int (iI (k + 1)))]) [3, 2, 1, 0] rfl ?_
            exact ih6 (mv + 1) (t + 1) (k + 1) (up (up G t (G k)) k 0) (up H t (H k)) (by omega) (by first | exact tg_z hk.1 hI c_20 | exact tg_e hk.1 hI c_20 c_28 | exact tg_m hk.1 hI c_20 c_28) (by first | exact hGr | exact mkR_up (mkR_up hGr hm) (by omega)) (by omega)
        · skip
          refine g_goto (tgt := 68) E dX4_together_23 (by decide) ?_
          refine g_iinc (lv' := [(3, .int (iI (k + 1))), (0, .ref y), (1, .int (iI mv)), (2, .int (iI t))]) E dX4_together_68 3 rfl (by decide) rfl ?_
          refine g_goto (tgt := 6) E dX4_together_71 (by decide) ?_
          refine GG.lvs (lv' := [(0, .ref y), (1, .int (iI mv)), (2, .int (iI t)), (3, .int (iI (k + 1)))]) [1, 2, 3, 0] rfl ?_
          exact ih6 mv t (k + 1) G H (by omega) (by first | exact tg_z hk.1 hI c_20 | exact tg_e hk.1 hI c_20 c_28 | exact tg_m hk.1 hI c_20 c_28) (by first | exact hGr | exact mkR_up (mkR_up hGr hm) (by omega)) (by omega)
  refine GG.lvs (lv' := [(0, .ref y), (1, .int (iI 0)), (2, .int (iI 0)), (3, .int (iI 0))]) [3, 2, 1, 0] rfl ?_
  exact L6 ((ca - 0 : Int).toNat + 1) 0 0 0 Mk St (by omega) (by rfl) (by exact hMk) (by omega)
