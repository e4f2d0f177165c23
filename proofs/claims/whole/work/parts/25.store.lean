theorem wd_157 : Cond.fieldLink RX2 25 "PackedSlots$Store" "bytes" "[I" ∈ UW := uw (by decide +kernel) rfl
theorem wd_158 : Cond.fieldLink RX2 9 "PackedSlots$Store" "starts" "[I" ∈ UW := uw (by decide +kernel) rfl
theorem wd_159 : Cond.fieldLink RX2 18 "PackedSlots$Store" "order" "[I" ∈ UW := uw (by decide +kernel) rfl
theorem wd_160 : Cond.fieldLink RX2 15 "PackedSlots$Store" "sizes" "[I" ∈ UW := uw (by decide +kernel) rfl
theorem wd_161 : Cond.fieldLink RX2 21 "PackedSlots$Store" "slots" "I" ∈ UW := uw (by decide +kernel) rfl
theorem wd_162 : Cond.methodLink RX2 71 yX2_gapStart ∈ UW := uw (by decide +kernel) rfl
theorem wd_163 : Cond.instanceMethod yX2_gapStart ∈ UW := uw (by decide +kernel) rfl
theorem wd_164 : Cond.selects RX2 yX2_gapStart yX2_gapStart ∈ UW := uw (by decide +kernel) rfl
theorem wd_165 : Cond.initialized yX2_gapStart.cls ∈ UW := uw (by decide +kernel) rfl
theorem wd_166 : Cond.methodLink RX2 62 yX2_gapSize ∈ UW := uw (by decide +kernel) rfl
theorem wd_167 : Cond.instanceMethod yX2_gapSize ∈ UW := uw (by decide +kernel) rfl
theorem wd_168 : Cond.selects RX2 yX2_gapSize yX2_gapSize ∈ UW := uw (by decide +kernel) rfl
theorem wd_169 : Cond.initialized yX2_gapSize.cls ∈ UW := uw (by decide +kernel) rfl
theorem wd_170 : Cond.methodLink RX2 65 Lib.Math.max.name ∈ UW := uw (by decide +kernel) rfl
theorem wd_171 : Cond.static Lib.Math.max.name ∈ UW := uw (by decide +kernel) rfl
theorem wd_172 : Cond.methodLink RX2 58 yX2_removeFromOrder ∈ UW := uw (by decide +kernel) rfl
theorem wd_173 : Cond.instanceMethod yX2_removeFromOrder ∈ UW := uw (by decide +kernel) rfl
theorem wd_174 : Cond.selects RX2 yX2_removeFromOrder yX2_removeFromOrder ∈ UW := uw (by decide +kernel) rfl
theorem wd_175 : Cond.initialized yX2_removeFromOrder.cls ∈ UW := uw (by decide +kernel) rfl
theorem wd_176 : Cond.methodLink RX2 52 arraycopyName ∈ UW := uw (by decide +kernel) rfl
theorem wd_177 : Cond.native arraycopyName ∈ UW := uw (by decide +kernel) rfl
theorem wd_178 : Cond.static arraycopyName ∈ UW := uw (by decide +kernel) rfl
theorem wd_179 : Cond.initialized "java/lang/System" ∈ UW := uw (by decide +kernel) rfl
theorem shl_0 (O : Int → Int) (k : Int) : shl O k k = O := by
  funext j; unfold shl; rw [if_neg (by omega)]
theorem shl_at {O : Int → Int} {k0 k : Int} : shl O k0 (k - 1) k = O k := by
  unfold shl; rw [if_neg (by omega)]
theorem shl_s {O G : Int → Int} {k0 k : Int} (h : k0 < k) (hG : G = shl O k0 (k - 1)) : up G (k - 1) (G k) = shl O k0 k := by
  subst hG; funext j; unfold up
  by_cases q : j = k - 1
  · subst q; rw [if_pos rfl, shl_at]; unfold shl; rw [if_pos (by omega), show k - 1 + 1 = k by omega]
  · rw [if_neg q]; unfold shl
    by_cases w : k0 ≤ j ∧ j < k - 1
    · rw [if_pos w, if_pos (by omega)]
    · rw [if_neg w, if_neg (by omega)]
def inm (O : Int → Int) (k n : Int) : Int → Int := fun j => if k < j ∧ j ≤ n then O (j - 1) else O j
theorem inm_0 (O : Int → Int) (n : Int) : inm O n n = O := by
  funext j; unfold inm; rw [if_neg (by omega)]
theorem inm_s {O G : Int → Int} {k n : Int} (h : k ≤ n) (hG : G = inm O k n) : up G k (G (k - 1)) = inm O (k + -1) n := by
  subst hG; funext j; unfold up
  by_cases q : j = k
  · subst q; rw [if_pos rfl]; unfold inm; rw [if_neg (by omega), if_pos (by omega)]
  · rw [if_neg q]; unfold inm
    by_cases w : k < j ∧ j ≤ n
    · rw [if_pos w, if_pos (by omega)]
    · rw [if_neg w, if_neg (by omega)]
theorem inm_e {O G : Int → Int} {g n b : Int} (hG : G = inm O g n) : up G g b = ins O g n b := by
  subst hG; funext j; unfold up ins inm
  by_cases q : j = g
  · rw [if_pos q]
  · rw [if_neg q]
theorem LR.cnt {cap n : Int} {S Z O Mk : Int → Int} (h : LR cap n S Z O Mk) {b : Int} (hb : 0 ≤ b ∧ b < 32) : cnt Mk (b + 1) cap.toNat = Z b := by
  rcases h.1.2.2.2.1 b hb.1 hb.2 with q | ⟨k, k1, k2, k3⟩
  · rw [q.1]
    exact cnt_out cap.toNat (fun j x y e => by have := (h.2.1 j x (by omega) b hb.1 hb.2).mp e; omega)
  · have hz := h.1.2.1 k k1 k2
    rw [k3] at hz
    exact cnt_slot (by omega) (by omega) (by omega) (fun j x y => h.2.1 j x y b hb.1 hb.2)
theorem sG_s {g : Int → Int} {k x z : Int} (hk : 0 ≤ k) (hx : x = sG g k.toNat) (hz : z = g k) : x + z = sG g (k + 1).toNat := by
  rw [show (k + 1).toNat = k.toNat + 1 by omega, sG, show ((k.toNat : Nat) : Int) = k by omega, hx, hz]
theorem mG_s {g : Int → Int} {k x z : Int} (hk : 0 ≤ k) (hx : x = mG g k.toNat) (hz : z = g k) : max x z = mG g (k + 1).toNat := by
  rw [show (k + 1).toNat = k.toNat + 1 by omega, mG, show ((k.toNat : Nat) : Int) = k by omega, hx, hz]
theorem cG_y {g : Int → Int} {k x z : Int} (hk : 0 ≤ k) (hx : x = cG g k.toNat) (hz : z = g k) (h : 0 < z) : x + 1 = cG g (k + 1).toNat := by
  rw [show (k + 1).toNat = k.toNat + 1 by omega, cG, show ((k.toNat : Nat) : Int) = k by omega, hx, if_pos (by omega)]
theorem cG_n {g : Int → Int} {k x z : Int} (hk : 0 ≤ k) (hx : x = cG g k.toNat) (hz : z = g k) (h : z ≤ 0) : x = cG g (k + 1).toNat := by
  rw [show (k + 1).toNat = k.toNat + 1 by omega, cG, show ((k.toNat : Nat) : Int) = k by omega, hx, if_neg (by omega)]
set_option maxHeartbeats 4000000 in
set_option maxRecDepth 100000 in
theorem c_X2_has (l : Launch) (D : va_G) (cA : ClassId) (sto : Nat) (bya : Nat) (ss : Nat) (zz : Nat) (od : Nat) (ns : Int) (cap : Nat) (St : Int → Int) (i : Int) (hcap : cap ≤ 4096) (hi : iB i) : Ci l D vwCl cA yX2_has (.code yX2_has cX2_has 2 (some .boolean) :: UW) ({ frames := 0, cells := 0, slots := 0, locals := 0 }) 0 0 [.ref sto, .int (iI i)] [(sto, .inr (2, [.ref bya, .ref ss, .ref zz, .ref od, .int (iI ns)])), (bya, aE cA cap St)] (fun (r : Int) (w : va_W) => ((r = 1 ∧ 0 ≤ i ∧ i < (cap : Int)) ∨ (r = 0 ∧ (i < 0 ∨ (cap : Int) ≤ i))) ∧ w = [(sto, .inr (2, [.ref bya, .ref ss, .ref zz, .ref od, .int (iI ns)])), (bya, aE cA cap St)]) := by
  refine Ci.mk (by decide) (Nat.le_of_ble_eq_true rfl) ?_
  intro p e s m args below meth c A E
  refine GG.lvs (lv' := [(0, .ref sto), (1, .int (iI i))]) [0, 1] rfl ?_
  refine g_iload_n E dX2_has_0 rfl 1 rfl ?_
  refine g_if_lt (tgt := 17) E dX2_has_1 (by decide) ⟨(by omega), (by omega)⟩ (fun c_1 => ?_) (fun c_1 => ?_)
  · skip
    refine g_iconst E dX2_has_17 ?_
    refine g_zreturn E dX2_has_18 (by omega) ?_
    exact ⟨by omega, rfl⟩
  · skip
    refine g_iload_n E dX2_has_4 rfl 1 rfl ?_
    refine g_aload_n E dX2_has_5 rfl 0 rfl ?_
    refine g_getfield E dX2_has_6 0 0 rfl rfl (by decide) iX2 wd_157 rfl rfl ?_
    refine g_arraylength E dX2_has_9 1 rfl ?_
    refine g_icmp_ge (tgt := 17) E dX2_has_10 (by decide) ⟨(by omega), (by omega)⟩ ⟨(by omega), (by omega)⟩ (fun c_10 => ?_) (fun c_10 => ?_)
    · skip
      refine g_iconst E dX2_has_17 ?_
      refine g_zreturn E dX2_has_18 (by omega) ?_
      exact ⟨by omega, rfl⟩
    · skip
      refine g_iconst E dX2_has_13 ?_
      refine g_goto (tgt := 18) E dX2_has_14 (by decide) ?_
      refine g_zreturn E dX2_has_18 (by omega) ?_
      exact ⟨by omega, rfl⟩
set_option maxHeartbeats 4000000 in
set_option maxRecDepth 100000 in
theorem c_X2_gapStart (l : Launch) (D : va_G) (cA : ClassId) (sto : Nat) (bya : Nat) (ss : Nat) (zz : Nat) (od : Nat) (ns : Int) (cap : Nat) (S : Int → Int) (Z : Int → Int) (O : Int → Int) (k : Int) (hcap : cap ≤ 4096) (hSI : SI (cap : Int) ns S Z O) (hk : 0 ≤ k ∧ k ≤ ns) : Ci l D vwCl cA yX2_gapStart (.code yX2_gapStart cX2_gapStart 2 (some .int) :: UW) ({ frames := 0, cells := 0, slots := 0, locals := 0 }) 0 0 [.ref sto, .int (iI k)] [(sto, .inr (2, [.ref bya, .ref ss, .ref zz, .ref od, .int (iI ns)])), (ss, aE cA 32 S), (zz, aE cA 32 Z), (od, aE cA 32 O)] (fun (r : Int) (w : va_W) => r = gs S Z O k ∧ w = [(sto, .inr (2, [.ref bya, .ref ss, .ref zz, .ref od, .int (iI ns)])), (ss, aE cA 32 S), (zz, aE cA 32 Z), (od, aE cA 32 O)]) := by
  refine Ci.mk (by decide) (Nat.le_of_ble_eq_true rfl) ?_
  intro p e s m args below meth c A E
  refine GG.lvs (lv' := [(0, .ref sto), (1, .int (iI k))]) [0, 1] rfl ?_
  have hn := hSI.1
  refine g_iload_n E dX2_gapStart_0 rfl 1 rfl ?_
  refine g_if_ne (tgt := 8) E dX2_gapStart_1 (by decide) ⟨(by omega), (by omega)⟩ (fun c_1 => ?_) (fun c_1 => ?_)
  · skip
    have hb := hSI.2.1 (k - 1) (by omega) (by omega)
    refine g_aload_n E dX2_gapStart_8 rfl 0 rfl ?_
    refine g_getfield E dX2_gapStart_9 0 1 rfl rfl (by decide) iX2 wd_158 rfl rfl ?_
    refine g_aload_n E dX2_gapStart_12 rfl 0 rfl ?_
    refine g_getfield E dX2_gapStart_13 0 3 rfl rfl (by decide) iX2 wd_159 rfl rfl ?_
    refine g_iload_n E dX2_gapStart_16 rfl 1 rfl ?_
    refine g_iconst E dX2_gapStart_17 ?_
    refine g_isub E dX2_gapStart_18 ?_
    refine g_iaload E dX2_gapStart_19 3 rfl (by omega) (by omega) (by omega) ?_
    refine g_iaload E dX2_gapStart_20 1 rfl (by omega) (by omega) (by omega) ?_
    refine g_aload_n E dX2_gapStart_21 rfl 0 rfl ?_
    refine g_getfield E dX2_gapStart_22 0 2 rfl rfl (by decide) iX2 wd_160 rfl rfl ?_
    refine g_aload_n E dX2_gapStart_25 rfl 0 rfl ?_
    refine g_getfield E dX2_gapStart_26 0 3 rfl rfl (by decide) iX2 wd_159 rfl rfl ?_
    refine g_iload_n E dX2_gapStart_29 rfl 1 rfl ?_
    refine g_iconst E dX2_gapStart_30 ?_
    refine g_isub E dX2_gapStart_31 ?_
    refine g_iaload E dX2_gapStart_32 3 rfl (by omega) (by omega) (by omega) ?_
    refine g_iaload E dX2_gapStart_33 2 rfl (by omega) (by omega) (by omega) ?_
    refine g_iadd E dX2_gapStart_34 ?_
    refine g_ireturn E dX2_gapStart_35 ?_
    first | exact ⟨by rw [c_1, gs_0], rfl⟩ | exact ⟨by unfold gs; rw [if_neg c_1], rfl⟩
  · skip
    refine g_iconst E dX2_gapStart_4 ?_
    refine g_goto (tgt := 35) E dX2_gapStart_5 (by decide) ?_
    refine g_ireturn E dX2_gapStart_35 ?_
    first | exact ⟨by rw [c_1, gs_0], rfl⟩ | exact ⟨by unfold gs; rw [if_neg c_1], rfl⟩
set_option maxHeartbeats 4000000 in
set_option maxRecDepth 100000 in
theorem c_X2_gapSize (l : Launch) (D : va_G) (cA : ClassId) (sto : Nat) (bya : Nat) (ss : Nat) (zz : Nat) (od : Nat) (ns : Int) (cap : Nat) (St : Int → Int) (S : Int → Int) (Z : Int → Int) (O : Int → Int) (k : Int) (hcap : cap ≤ 4096) (hSI : SI (cap : Int) ns S Z O) (hk : 0 ≤ k ∧ k ≤ ns) : Ci l D vwCl cA yX2_gapSize (.code yX2_gapSize cX2_gapSize 3 (some .int) :: UW) ({ frames := 1, cells := 0, slots := 0, locals := 21 }) 0 0 [.ref sto, .int (iI k)] [(sto, .inr (2, [.ref bya, .ref ss, .ref zz, .ref od, .int (iI ns)])), (bya, aE cA cap St), (ss, aE cA 32 S), (zz, aE cA 32 Z), (od, aE cA 32 O)] (fun (r : Int) (w : va_W) => r = gz (cap : Int) ns S Z O k ∧ (0 ≤ r ∧ r ≤ (cap : Int)) ∧ w = [(sto, .inr (2, [.ref bya, .ref ss, .ref zz, .ref od, .int (iI ns)])), (bya, aE cA cap St), (ss, aE cA 32 S), (zz, aE cA 32 Z), (od, aE cA 32 O)]) := by
  refine Ci.mk (by decide) (Nat.le_of_ble_eq_true rfl) ?_
  intro p e s m args below meth c A E
  refine GG.lvs (lv' := [(0, .ref sto), (1, .int (iI k))]) [0, 1] rfl ?_
  have hn := hSI.1
  have hg := hSI.gap (by omega) hk.1 hk.2
  refine g_iload_n E dX2_gapSize_0 rfl 1 rfl ?_
  refine g_aload_n E dX2_gapSize_1 rfl 0 rfl ?_
  refine g_getfield E dX2_gapSize_2 0 4 rfl rfl (by decide) iX2 wd_161 rfl rfl ?_
  refine g_icmp_ne (tgt := 16) E dX2_gapSize_5 (by decide) ⟨(by omega), (by omega)⟩ ⟨(by omega), (by omega)⟩ (fun c_5 => ?_) (fun c_5 => ?_)
  · skip
    have hb := hSI.2.1 k (by omega) (by omega)
    refine g_aload_n E dX2_gapSize_16 rfl 0 rfl ?_
    refine g_getfield E dX2_gapSize_17 0 1 rfl rfl (by decide) iX2 wd_158 rfl rfl ?_
    refine g_aload_n E dX2_gapSize_20 rfl 0 rfl ?_
    refine g_getfield E dX2_gapSize_21 0 3 rfl rfl (by decide) iX2 wd_159 rfl rfl ?_
    refine g_iload_n E dX2_gapSize_24 rfl 1 rfl ?_
    refine g_iaload E dX2_gapSize_25 4 rfl (by omega) (by omega) (by omega) ?_
    refine g_iaload E dX2_gapSize_26 2 rfl (by omega) (by omega) (by omega) ?_
    refine g_istore_n (lv' := [(2, .int (iI (S (O k)))), (0, .ref sto), (1, .int (iI k))]) E dX2_gapSize_27 rfl (by decide) rfl ?_
    refine g_iload_n E dX2_gapSize_28 rfl 0 rfl ?_
    refine g_aload_n E dX2_gapSize_29 rfl 1 rfl ?_
    refine g_iload_n E dX2_gapSize_30 rfl 2 rfl ?_
    refine g_callV (n := 1) (As := [.int (iI k)]) (rest := [.int (iI (S (O k)))]) (wr := [(bya, aE cA cap St)]) E dX2_gapSize_31 (c_X2_gapStart l D cA sto bya ss zz od ns _ S Z O k (by omega) (by exact hSI) (by omega)) wd_code_X2_gapStart wd_162 wd_163 wd_164 wd_165 (by decide +kernel) ⟨⟨rfl, rfl⟩, ⟨(Nat.le_of_ble_eq_true rfl), (Nat.le_of_ble_eq_true rfl)⟩, ⟨(Nat.le_of_ble_eq_true rfl), (Nat.le_of_ble_eq_true rfl)⟩⟩ [0, 2, 3, 4] [1] rfl rfl (by decide) 0 rfl rfl rfl rfl (Nat.le_of_ble_eq_true rfl) (fun z_31 w_31 hw_31 => ?_)
    obtain ⟨hr_31, rfl⟩ := hw_31
    subst hr_31
    refine GG.wss (ws' := [(sto, .inr (2, [.ref bya, .ref ss, .ref zz, .ref od, .int (iI ns)])), (bya, aE cA cap St), (ss, aE cA 32 S), (zz, aE cA 32 Z), (od, aE cA 32 O)]) [1, 0, 2, 3, 4] (by decide) rfl ?_
    refine g_isub E dX2_gapSize_34 ?_
    refine g_ireturn E dX2_gapSize_35 ?_
    have hge : ge (cap : Int) ns S O k - gs S Z O k = gz (cap : Int) ns S Z O k := rfl
    first | (rw [c_5, ge_n] at hg hge; rw [c_5]; exact ⟨hge, by omega, rfl⟩) | (rw [ge_lt (by omega)] at hg hge; exact ⟨hge, by omega, rfl⟩)
  · skip
    refine g_aload_n E dX2_gapSize_8 rfl 0 rfl ?_
    refine g_getfield E dX2_gapSize_9 0 0 rfl rfl (by decide) iX2 wd_157 rfl rfl ?_
    refine g_arraylength E dX2_gapSize_12 1 rfl ?_
    refine g_goto (tgt := 27) E dX2_gapSize_13 (by decide) ?_
    refine g_istore_n (lv' := [(2, .int (iI (cap : Int))), (0, .ref sto), (1, .int (iI k))]) E dX2_gapSize_27 rfl (by decide) rfl ?_
    refine g_iload_n E dX2_gapSize_28 rfl 0 rfl ?_
    refine g_aload_n E dX2_gapSize_29 rfl 1 rfl ?_
    refine g_iload_n E dX2_gapSize_30 rfl 2 rfl ?_
    refine g_callV (n := 1) (As := [.int (iI k)]) (rest := [.int (iI (cap : Int))]) (wr := [(bya, aE cA cap St)]) E dX2_gapSize_31 (c_X2_gapStart l D cA sto bya ss zz od ns _ S Z O k (by omega) (by exact hSI) (by omega)) wd_code_X2_gapStart wd_162 wd_163 wd_164 wd_165 (by decide +kernel) ⟨⟨rfl, rfl⟩, ⟨(Nat.le_of_ble_eq_true rfl), (Nat.le_of_ble_eq_true rfl)⟩, ⟨(Nat.le_of_ble_eq_true rfl), (Nat.le_of_ble_eq_true rfl)⟩⟩ [0, 2, 3, 4] [1] rfl rfl (by decide) 0 rfl rfl rfl rfl (Nat.le_of_ble_eq_true rfl) (fun z_31 w_31 hw_31 => ?_)
    obtain ⟨hr_31, rfl⟩ := hw_31
    subst hr_31
    refine GG.wss (ws' := [(sto, .inr (2, [.ref bya, .ref ss, .ref zz, .ref od, .int (iI ns)])), (bya, aE cA cap St), (ss, aE cA 32 S), (zz, aE cA 32 Z), (od, aE cA 32 O)]) [1, 0, 2, 3, 4] (by decide) rfl ?_
    refine g_isub E dX2_gapSize_34 ?_
    refine g_ireturn E dX2_gapSize_35 ?_
    have hge : ge (cap : Int) ns S O k - gs S Z O k = gz (cap : Int) ns S Z O k := rfl
    first | (rw [c_5, ge_n] at hg hge; rw [c_5]; exact ⟨hge, by omega, rfl⟩) | (rw [ge_lt (by omega)] at hg hge; exact ⟨hge, by omega, rfl⟩)
set_option maxHeartbeats 4000000 in
set_option maxRecDepth 100000 in
theorem c_X2_freeBytes (l : Launch) (D : va_G) (cA : ClassId) (sto : Nat) (bya : Nat) (ss : Nat) (zz : Nat) (od : Nat) (ns : Int) (cap : Nat) (St : Int → Int) (S : Int → Int) (Z : Int → Int) (O : Int → Int) (Mk : Int → Int) (hcap : cap ≤ 4096) (hLR : LR (cap : Int) ns S Z O Mk) : Ci l D vwCl cA yX2_freeBytes (.code yX2_freeBytes cX2_freeBytes 3 (some .int) :: UW) ({ frames := 2, cells := 0, slots := 0, locals := 43 }) 0 0 [.ref sto] [(sto, .inr (2, [.ref bya, .ref ss, .ref zz, .ref od, .int (iI ns)])), (bya, aE cA cap St), (ss, aE cA 32 S), (zz, aE cA 32 Z), (od, aE cA 32 O)] (fun (r : Int) (w : va_W) => r = (fre Mk (cap : Int).toNat).1 ∧ (0 ≤ r ∧ r ≤ 4096 * 34) ∧ w = [(sto, .inr (2, [.ref bya, .ref ss, .ref zz, .ref od, .int (iI ns)])), (bya, aE cA cap St), (ss, aE cA 32 S), (zz, aE cA 32 Z), (od, aE cA 32 O)]) := by
  refine Ci.mk (by decide) (Nat.le_of_ble_eq_true rfl) ?_
  intro p e s m args below meth c A E
  refine GG.lvs (lv' := [(0, .ref sto)]) [0] rfl ?_
  have hn := hLR.1.1
  refine g_iconst E dX2_freeBytes_0 ?_
  refine g_istore_n (lv' := [(1, .int (iI 0)), (0, .ref sto)]) E dX2_freeBytes_1 rfl (by decide) rfl ?_
  refine g_iconst E dX2_freeBytes_2 ?_
  refine g_istore_n (lv' := [(2, .int (iI 0)), (1, .int (iI 0)), (0, .ref sto)]) E dX2_freeBytes_3 rfl (by decide) rfl ?_
  have L4 : ∀ (fu4 : Nat) (sm : Int) (k : Int), 0 ≤ k ∧ k ≤ ns + 1 ∧ 0 ≤ sm ∧ sm ≤ 4096 * k → sm = sG (gz (cap : Int) ns S Z O) k.toNat → (ns + 1 - k) < (fu4 : Int) → GG p l e ({ frames := 2, cells := 0, slots := 0, locals := 43 }) s m args below meth c D vwCl A 3 (QI D vwCl cA A below args s 0 0 (fun (r : Int) (w : va_W) => r = (fre Mk (cap : Int).toNat).1 ∧ (0 ≤ r ∧ r ≤ 4096 * 34) ∧ w = [(sto, .inr (2, [.ref bya, .ref ss, .ref zz, .ref od, .int (iI ns)])), (bya, aE cA cap St), (ss, aE cA 32 S), (zz, aE cA 32 Z), (od, aE cA 32 O)])) 0 0 [(sto, .inr (2, [.ref bya, .ref ss, .ref zz, .ref od, .int (iI ns)])), (bya, aE cA cap St), (ss, aE cA 32 S), (zz, aE cA 32 Z), (od, aE cA 32 O)] [(0, .ref sto), (1, .int (iI sm)), (2, .int (iI k))] 4 [] := by
    intro fu4
    induction fu4 with
    | zero => intro sm k hk hI hmu4; exfalso; omega
    | succ fu4 ih4 =>
      intro sm k hk hI hmu4
      refine g_iload_n E dX2_freeBytes_4 rfl 2 rfl ?_
      refine g_aload_n E dX2_freeBytes_5 rfl 0 rfl ?_
      refine g_getfield E dX2_freeBytes_6 0 4 rfl rfl (by decide) iX2 wd_161 rfl rfl ?_
      refine g_icmp_gt (tgt := 26) E dX2_freeBytes_9 (by decide) ⟨(by omega), (by omega)⟩ ⟨(by omega), (by omega)⟩ (fun c_9 => ?_) (fun c_9 => ?_)
      · skip
        refine g_iload_n E dX2_freeBytes_26 rfl 1 rfl ?_
        refine g_ireturn E dX2_freeBytes_27 ?_
        exact ⟨by rw [hLR.fre_all (by omega), hI, show k.toNat = ns.toNat + 1 by omega], by omega, rfl⟩
      · skip
        refine g_iload_n E dX2_freeBytes_12 rfl 1 rfl ?_
        refine g_aload_n E dX2_freeBytes_13 rfl 0 rfl ?_
        refine g_iload_n E dX2_freeBytes_14 rfl 2 rfl ?_
        refine g_callV (n := 1) (As := [.int (iI k)]) (rest := [.int (iI sm)]) (wr := []) E dX2_freeBytes_15 (c_X2_gapSize l D cA sto bya ss zz od ns cap St S Z O k (by omega) (by exact hLR.1) (by omega)) wd_code_X2_gapSize wd_166 wd_167 wd_168 wd_169 (by decide +kernel) ⟨⟨rfl, rfl⟩, ⟨(Nat.le_of_ble_eq_true rfl), (Nat.le_of_ble_eq_true rfl)⟩, ⟨(Nat.le_of_ble_eq_true rfl), (Nat.le_of_ble_eq_true rfl)⟩⟩ [0, 1, 2, 3, 4] [] rfl rfl (by decide) 0 rfl rfl rfl rfl (Nat.le_of_ble_eq_true rfl) (fun z_15 w_15 hw_15 => ?_)
        obtain ⟨hr_15, hr2_15, rfl⟩ := hw_15
        refine GG.wss (ws' := [(sto, .inr (2, [.ref bya, .ref ss, .ref zz, .ref od, .int (iI ns)])), (bya, aE cA cap St), (ss, aE cA 32 S), (zz, aE cA 32 Z), (od, aE cA 32 O)]) [0, 1, 2, 3, 4] (by decide) rfl ?_
        refine g_iadd E dX2_freeBytes_18 ?_
        refine g_istore_n (lv' := [(1, .int (iI (sm + z_15))), (0, .ref sto), (2, .int (iI k))]) E dX2_freeBytes_19 rfl (by decide) rfl ?_
        refine g_iinc (lv' := [(2, .int (iI (k + 1))), (1, .int (iI (sm + z_15))), (0, .ref sto)]) E dX2_freeBytes_20 2 rfl (by decide) rfl ?_
        refine g_goto (tgt := 4) E dX2_freeBytes_23 (by decide) ?_
        refine GG.lvs (lv' := [(0, .ref sto), (1, .int (iI (sm + z_15))), (2, .int (iI (k + 1)))]) [2, 1, 0] rfl ?_
        exact ih4 (sm + z_15) (k + 1) (by omega) (by exact sG_s hk.1 hI hr_15) (by omega)
  refine GG.lvs (lv' := [(0, .ref sto), (1, .int (iI 0)), (2, .int (iI 0))]) [2, 1, 0] rfl ?_
  exact L4 ((ns + 1 - 0 : Int).toNat + 1) 0 0 (by omega) (by rfl) (by omega)
set_option maxHeartbeats 4000000 in
set_option maxRecDepth 100000 in
theorem c_X2_longestGap (l : Launch) (D : va_G) (cA : ClassId) (sto : Nat) (bya : Nat) (ss : Nat) (zz : Nat) (od : Nat) (ns : Int) (cap : Nat) (St : Int → Int) (S : Int → Int) (Z : Int → Int) (O : Int → Int) (Mk : Int → Int) (hcap : cap ≤ 4096) (hLR : LR (cap : Int) ns S Z O Mk) : Ci l D vwCl cA yX2_longestGap (.code yX2_longestGap cX2_longestGap 3 (some .int) :: UW) ({ frames := 2, cells := 0, slots := 0, locals := 43 }) 0 0 [.ref sto] [(sto, .inr (2, [.ref bya, .ref ss, .ref zz, .ref od, .int (iI ns)])), (bya, aE cA cap St), (ss, aE cA 32 S), (zz, aE cA 32 Z), (od, aE cA 32 O)] (fun (r : Int) (w : va_W) => r = (fre Mk (cap : Int).toNat).2.1 ∧ (0 ≤ r ∧ r ≤ 4096) ∧ w = [(sto, .inr (2, [.ref bya, .ref ss, .ref zz, .ref od, .int (iI ns)])), (bya, aE cA cap St), (ss, aE cA 32 S), (zz, aE cA 32 Z), (od, aE cA 32 O)]) := by
  refine Ci.mk (by decide) (Nat.le_of_ble_eq_true rfl) ?_
  intro p e s m args below meth c A E
  refine GG.lvs (lv' := [(0, .ref sto)]) [0] rfl ?_
  have hn := hLR.1.1
  refine g_iconst E dX2_longestGap_0 ?_
  refine g_istore_n (lv' := [(1, .int (iI 0)), (0, .ref sto)]) E dX2_longestGap_1 rfl (by decide) rfl ?_
  refine g_iconst E dX2_longestGap_2 ?_
  refine g_istore_n (lv' := [(2, .int (iI 0)), (1, .int (iI 0)), (0, .ref sto)]) E dX2_longestGap_3 rfl (by decide) rfl ?_
  have L4 : ∀ (fu4 : Nat) (sm : Int) (k : Int), 0 ≤ k ∧ k ≤ ns + 1 ∧ 0 ≤ sm ∧ sm ≤ 4096 → sm = mG (gz (cap : Int) ns S Z O) k.toNat → (ns + 1 - k) < (fu4 : Int) → GG p l e ({ frames := 2, cells := 0, slots := 0, locals := 43 }) s m args below meth c D vwCl A 3 (QI D vwCl cA A below args s 0 0 (fun (r : Int) (w : va_W) => r = (fre Mk (cap : Int).toNat).2.1 ∧ (0 ≤ r ∧ r ≤ 4096) ∧ w = [(sto, .inr (2, [.ref bya, .ref ss, .ref zz, .ref od, .int (iI ns)])), (bya, aE cA cap St), (ss, aE cA 32 S), (zz, aE cA 32 Z), (od, aE cA 32 O)])) 0 0 [(sto, .inr (2, [.ref bya, .ref ss, .ref zz, .ref od, .int (iI ns)])), (bya, aE cA cap St), (ss, aE cA 32 S), (zz, aE cA 32 Z), (od, aE cA 32 O)] [(0, .ref sto), (1, .int (iI sm)), (2, .int (iI k))] 4 [] := by
    intro fu4
    induction fu4 with
    | zero => intro sm k hk hI hmu4; exfalso; omega
    | succ fu4 ih4 =>
      intro sm k hk hI hmu4
      refine g_iload_n E dX2_longestGap_4 rfl 2 rfl ?_
      refine g_aload_n E dX2_longestGap_5 rfl 0 rfl ?_
      refine g_getfield E dX2_longestGap_6 0 4 rfl rfl (by decide) iX2 wd_161 rfl rfl ?_
      refine g_icmp_gt (tgt := 28) E dX2_longestGap_9 (by decide) ⟨(by omega), (by omega)⟩ ⟨(by omega), (by omega)⟩ (fun c_9 => ?_) (fun c_9 => ?_)
      · skip
        refine g_iload_n E dX2_longestGap_28 rfl 1 rfl ?_
        refine g_ireturn E dX2_longestGap_29 ?_
        exact ⟨by rw [hLR.fre_all (by omega), hI, show k.toNat = ns.toNat + 1 by omega], by omega, rfl⟩
      · skip
        refine g_iload_n E dX2_longestGap_12 rfl 1 rfl ?_
        refine g_aload_n E dX2_longestGap_13 rfl 0 rfl ?_
        refine g_iload_n E dX2_longestGap_14 rfl 2 rfl ?_
        refine g_callV (n := 1) (As := [.int (iI k)]) (rest := [.int (iI sm)]) (wr := []) E dX2_longestGap_15 (c_X2_gapSize l D cA sto bya ss zz od ns cap St S Z O k (by omega) (by exact hLR.1) (by omega)) wd_code_X2_gapSize wd_166 wd_167 wd_168 wd_169 (by decide +kernel) ⟨⟨rfl, rfl⟩, ⟨(Nat.le_of_ble_eq_true rfl), (Nat.le_of_ble_eq_true rfl)⟩, ⟨(Nat.le_of_ble_eq_true rfl), (Nat.le_of_ble_eq_true rfl)⟩⟩ [0, 1, 2, 3, 4] [] rfl rfl (by decide) 0 rfl rfl rfl rfl (Nat.le_of_ble_eq_true rfl) (fun z_15 w_15 hw_15 => ?_)
        obtain ⟨hr_15, hr2_15, rfl⟩ := hw_15
        refine GG.wss (ws' := [(sto, .inr (2, [.ref bya, .ref ss, .ref zz, .ref od, .int (iI ns)])), (bya, aE cA cap St), (ss, aE cA 32 S), (zz, aE cA 32 Z), (od, aE cA 32 O)]) [0, 1, 2, 3, 4] (by decide) rfl ?_
        refine g_max E dX2_longestGap_18 wd_170 wd_171 wd_35 wd_maxcode (Nat.le_of_ble_eq_true rfl) (Nat.le_of_ble_eq_true rfl) (Nat.le_of_ble_eq_true rfl) (Nat.le_of_ble_eq_true rfl) ⟨(by omega), (by omega)⟩ ⟨(by omega), (by omega)⟩ ?_
        refine g_istore_n (lv' := [(1, .int (iI (max sm z_15))), (0, .ref sto), (2, .int (iI k))]) E dX2_longestGap_21 rfl (by decide) rfl ?_
        refine g_iinc (lv' := [(2, .int (iI (k + 1))), (1, .int (iI (max sm z_15))), (0, .ref sto)]) E dX2_longestGap_22 2 rfl (by decide) rfl ?_
        refine g_goto (tgt := 4) E dX2_longestGap_25 (by decide) ?_
        refine GG.lvs (lv' := [(0, .ref sto), (1, .int (iI (max sm z_15))), (2, .int (iI (k + 1)))]) [2, 1, 0] rfl ?_
        exact ih4 (max sm z_15) (k + 1) (by omega) (by exact mG_s hk.1 hI hr_15) (by omega)
  refine GG.lvs (lv' := [(0, .ref sto), (1, .int (iI 0)), (2, .int (iI 0))]) [2, 1, 0] rfl ?_
  exact L4 ((ns + 1 - 0 : Int).toNat + 1) 0 0 (by omega) (by rfl) (by omega)
set_option maxHeartbeats 4000000 in
set_option maxRecDepth 100000 in
theorem c_X2_freeRows (l : Launch) (D : va_G) (cA : ClassId) (sto : Nat) (bya : Nat) (ss : Nat) (zz : Nat) (od : Nat) (ns : Int) (cap : Nat) (St : Int → Int) (S : Int → Int) (Z : Int → Int) (O : Int → Int) (Mk : Int → Int) (hcap : cap ≤ 4096) (hLR : LR (cap : Int) ns S Z O Mk) : Ci l D vwCl cA yX2_freeRows (.code yX2_freeRows cX2_freeRows 3 (some .int) :: UW) ({ frames := 2, cells := 0, slots := 0, locals := 43 }) 0 0 [.ref sto] [(sto, .inr (2, [.ref bya, .ref ss, .ref zz, .ref od, .int (iI ns)])), (bya, aE cA cap St), (ss, aE cA 32 S), (zz, aE cA 32 Z), (od, aE cA 32 O)] (fun (r : Int) (w : va_W) => r = (fre Mk (cap : Int).toNat).2.2.1 ∧ (0 ≤ r ∧ r ≤ 34) ∧ w = [(sto, .inr (2, [.ref bya, .ref ss, .ref zz, .ref od, .int (iI ns)])), (bya, aE cA cap St), (ss, aE cA 32 S), (zz, aE cA 32 Z), (od, aE cA 32 O)]) := by
  refine Ci.mk (by decide) (Nat.le_of_ble_eq_true rfl) ?_
  intro p e s m args below meth c A E
  refine GG.lvs (lv' := [(0, .ref sto)]) [0] rfl ?_
  have hn := hLR.1.1
  refine g_iconst E dX2_freeRows_0 ?_
  refine g_istore_n (lv' := [(1, .int (iI 0)), (0, .ref sto)]) E dX2_freeRows_1 rfl (by decide) rfl ?_
  refine g_iconst E dX2_freeRows_2 ?_
  refine g_istore_n (lv' := [(2, .int (iI 0)), (1, .int (iI 0)), (0, .ref sto)]) E dX2_freeRows_3 rfl (by decide) rfl ?_
  have L4 : ∀ (fu4 : Nat) (sm : Int) (k : Int), 0 ≤ k ∧ k ≤ ns + 1 ∧ 0 ≤ sm ∧ sm ≤ k → sm = cG (gz (cap : Int) ns S Z O) k.toNat → (ns + 1 - k) < (fu4 : Int) → GG p l e ({ frames := 2, cells := 0, slots := 0, locals := 43 }) s m args below meth c D vwCl A 3 (QI D vwCl cA A below args s 0 0 (fun (r : Int) (w : va_W) => r = (fre Mk (cap : Int).toNat).2.2.1 ∧ (0 ≤ r ∧ r ≤ 34) ∧ w = [(sto, .inr (2, [.ref bya, .ref ss, .ref zz, .ref od, .int (iI ns)])), (bya, aE cA cap St), (ss, aE cA 32 S), (zz, aE cA 32 Z), (od, aE cA 32 O)])) 0 0 [(sto, .inr (2, [.ref bya, .ref ss, .ref zz, .ref od, .int (iI ns)])), (bya, aE cA cap St), (ss, aE cA 32 S), (zz, aE cA 32 Z), (od, aE cA 32 O)] [(0, .ref sto), (1, .int (iI sm)), (2, .int (iI k))] 4 [] := by
    intro fu4
    induction fu4 with
    | zero => intro sm k hk hI hmu4; exfalso; omega
    | succ fu4 ih4 =>
      intro sm k hk hI hmu4
      refine g_iload_n E dX2_freeRows_4 rfl 2 rfl ?_
      refine g_aload_n E dX2_freeRows_5 rfl 0 rfl ?_
      refine g_getfield E dX2_freeRows_6 0 4 rfl rfl (by decide) iX2 wd_161 rfl rfl ?_
      refine g_icmp_gt (tgt := 29) E dX2_freeRows_9 (by decide) ⟨(by omega), (by omega)⟩ ⟨(by omega), (by omega)⟩ (fun c_9 => ?_) (fun c_9 => ?_)
      · skip
        refine g_iload_n E dX2_freeRows_29 rfl 1 rfl ?_
        refine g_ireturn E dX2_freeRows_30 ?_
        exact ⟨by rw [hLR.fre_all (by omega), hI, show k.toNat = ns.toNat + 1 by omega], by omega, rfl⟩
      · skip
        refine g_aload_n E dX2_freeRows_12 rfl 0 rfl ?_
        refine g_iload_n E dX2_freeRows_13 rfl 2 rfl ?_
        refine g_callV (n := 1) (As := [.int (iI k)]) (rest := []) (wr := []) E dX2_freeRows_14 (c_X2_gapSize l D cA sto bya ss zz od ns cap St S Z O k (by omega) (by exact hLR.1) (by omega)) wd_code_X2_gapSize wd_166 wd_167 wd_168 wd_169 (by decide +kernel) ⟨⟨rfl, rfl⟩, ⟨(Nat.le_of_ble_eq_true rfl), (Nat.le_of_ble_eq_true rfl)⟩, ⟨(Nat.le_of_ble_eq_true rfl), (Nat.le_of_ble_eq_true rfl)⟩⟩ [0, 1, 2, 3, 4] [] rfl rfl (by decide) 0 rfl rfl rfl rfl (Nat.le_of_ble_eq_true rfl) (fun z_14 w_14 hw_14 => ?_)
        obtain ⟨hr_14, hr2_14, rfl⟩ := hw_14
        refine GG.wss (ws' := [(sto, .inr (2, [.ref bya, .ref ss, .ref zz, .ref od, .int (iI ns)])), (bya, aE cA cap St), (ss, aE cA 32 S), (zz, aE cA 32 Z), (od, aE cA 32 O)]) [0, 1, 2, 3, 4] (by decide) rfl ?_
        refine g_if_le (tgt := 23) E dX2_freeRows_17 (by decide) ⟨(by omega), (by omega)⟩ (fun c_17 => ?_) (fun c_17 => ?_)
        · skip
          refine g_iinc (lv' := [(2, .int (iI (k + 1))), (0, .ref sto), (1, .int (iI sm))]) E dX2_freeRows_23 2 rfl (by decide) rfl ?_
          refine g_goto (tgt := 4) E dX2_freeRows_26 (by decide) ?_
          refine GG.lvs (lv' := [(0, .ref sto), (1, .int (iI sm)), (2, .int (iI (k + 1)))]) [1, 2, 0] rfl ?_
          exact ih4 sm (k + 1) (by omega) (by first | exact cG_y hk.1 hI hr_14 c_17 | exact cG_n hk.1 hI hr_14 c_17) (by omega)
        · skip
          refine g_iinc (lv' := [(1, .int (iI (sm + 1))), (0, .ref sto), (2, .int (iI k))]) E dX2_freeRows_20 1 rfl (by decide) rfl ?_
          refine g_iinc (lv' := [(2, .int (iI (k + 1))), (1, .int (iI (sm + 1))), (0, .ref sto)]) E dX2_freeRows_23 2 rfl (by decide) rfl ?_
          refine g_goto (tgt := 4) E dX2_freeRows_26 (by decide) ?_
          refine GG.lvs (lv' := [(0, .ref sto), (1, .int (iI (sm + 1))), (2, .int (iI (k + 1)))]) [2, 1, 0] rfl ?_
          exact ih4 (sm + 1) (k + 1) (by omega) (by first | exact cG_y hk.1 hI hr_14 c_17 | exact cG_n hk.1 hI hr_14 c_17) (by omega)
  refine GG.lvs (lv' := [(0, .ref sto), (1, .int (iI 0)), (2, .int (iI 0))]) [2, 1, 0] rfl ?_
  exact L4 ((ns + 1 - 0 : Int).toNat + 1) 0 0 (by omega) (by rfl) (by omega)
set_option maxHeartbeats 4000000 in
set_option maxRecDepth 100000 in
theorem c_X2_firstGapOf (l : Launch) (D : va_G) (cA : ClassId) (sto : Nat) (bya : Nat) (ss : Nat) (zz : Nat) (od : Nat) (ns : Int) (cap : Nat) (St : Int → Int) (S : Int → Int) (Z : Int → Int) (O : Int → Int) (bm : Int) (hcap : cap ≤ 4096) (hSI : SI (cap : Int) ns S Z O) (hm : 1 ≤ bm ∧ bm ≤ 256) : Ci l D vwCl cA yX2_firstGapOf (.code yX2_firstGapOf cX2_firstGapOf 3 (some .int) :: UW) ({ frames := 2, cells := 0, slots := 0, locals := 43 }) 0 0 [.ref sto, .int (iI bm)] [(sto, .inr (2, [.ref bya, .ref ss, .ref zz, .ref od, .int (iI ns)])), (bya, aE cA cap St), (ss, aE cA 32 S), (zz, aE cA 32 Z), (od, aE cA 32 O)] (fun (r : Int) (w : va_W) => ((0 ≤ r ∧ r ≤ ns ∧ bm ≤ gz (cap : Int) ns S Z O r ∧ ∀ i, 0 ≤ i → i < r → gz (cap : Int) ns S Z O i < bm) ∨ (r = -1 ∧ ∀ i, 0 ≤ i → i ≤ ns → gz (cap : Int) ns S Z O i < bm)) ∧ w = [(sto, .inr (2, [.ref bya, .ref ss, .ref zz, .ref od, .int (iI ns)])), (bya, aE cA cap St), (ss, aE cA 32 S), (zz, aE cA 32 Z), (od, aE cA 32 O)]) := by
  refine Ci.mk (by decide) (Nat.le_of_ble_eq_true rfl) ?_
  intro p e s m args below meth c A E
  refine GG.lvs (lv' := [(0, .ref sto), (1, .int (iI bm))]) [0, 1] rfl ?_
  have hn := hSI.1
  refine g_iconst E dX2_firstGapOf_0 ?_
  refine g_istore_n (lv' := [(2, .int (iI 0)), (0, .ref sto), (1, .int (iI bm))]) E dX2_firstGapOf_1 rfl (by decide) rfl ?_
  have L2 : ∀ (fu2 : Nat) (k : Int), 0 ≤ k ∧ k ≤ ns + 1 → (∀ i, 0 ≤ i → i < k → gz (cap : Int) ns S Z O i < bm) → (ns + 1 - k) < (fu2 : Int) → GG p l e ({ frames := 2, cells := 0, slots := 0, locals := 43 }) s m args below meth c D vwCl A 3 (QI D vwCl cA A below args s 0 0 (fun (r : Int) (w : va_W) => ((0 ≤ r ∧ r ≤ ns ∧ bm ≤ gz (cap : Int) ns S Z O r ∧ ∀ i, 0 ≤ i → i < r → gz (cap : Int) ns S Z O i < bm) ∨ (r = -1 ∧ ∀ i, 0 ≤ i → i ≤ ns → gz (cap : Int) ns S Z O i < bm)) ∧ w = [(sto, .inr (2, [.ref bya, .ref ss, .ref zz, .ref od, .int (iI ns)])), (bya, aE cA cap St), (ss, aE cA 32 S), (zz, aE cA 32 Z), (od, aE cA 32 O)])) 0 0 [(sto, .inr (2, [.ref bya, .ref ss, .ref zz, .ref od, .int (iI ns)])), (bya, aE cA cap St), (ss, aE cA 32 S), (zz, aE cA 32 Z), (od, aE cA 32 O)] [(0, .ref sto), (1, .int (iI bm)), (2, .int (iI k))] 2 [] := by
    intro fu2
    induction fu2 with
    | zero => intro k hk hI hmu2; exfalso; omega
    | succ fu2 ih2 =>
      intro k hk hI hmu2
      refine g_iload_n E dX2_firstGapOf_2 rfl 2 rfl ?_
      refine g_aload_n E dX2_firstGapOf_3 rfl 0 rfl ?_
      refine g_getfield E dX2_firstGapOf_4 0 4 rfl rfl (by decide) iX2 wd_161 rfl rfl ?_
      refine g_icmp_gt (tgt := 27) E dX2_firstGapOf_7 (by decide) ⟨(by omega), (by omega)⟩ ⟨(by omega), (by omega)⟩ (fun c_7 => ?_) (fun c_7 => ?_)
      · skip
        refine g_iconst E dX2_firstGapOf_27 ?_
        refine g_ireturn E dX2_firstGapOf_28 ?_
        exact ⟨Or.inr ⟨rfl, fun i h1 h2 => hI i h1 (by omega)⟩, rfl⟩
      · skip
        refine g_aload_n E dX2_firstGapOf_10 rfl 0 rfl ?_
        refine g_iload_n E dX2_firstGapOf_11 rfl 2 rfl ?_
        refine g_callV (n := 1) (As := [.int (iI k)]) (rest := []) (wr := []) E dX2_firstGapOf_12 (c_X2_gapSize l D cA sto bya ss zz od ns cap St S Z O k (by omega) (by exact hSI) (by omega)) wd_code_X2_gapSize wd_166 wd_167 wd_168 wd_169 (by decide +kernel) ⟨⟨rfl, rfl⟩, ⟨(Nat.le_of_ble_eq_true rfl), (Nat.le_of_ble_eq_true rfl)⟩, ⟨(Nat.le_of_ble_eq_true rfl), (Nat.le_of_ble_eq_true rfl)⟩⟩ [0, 1, 2, 3, 4] [] rfl rfl (by decide) 0 rfl rfl rfl rfl (Nat.le_of_ble_eq_true rfl) (fun z_12 w_12 hw_12 => ?_)
        obtain ⟨hr_12, hr2_12, rfl⟩ := hw_12
        refine GG.wss (ws' := [(sto, .inr (2, [.ref bya, .ref ss, .ref zz, .ref od, .int (iI ns)])), (bya, aE cA cap St), (ss, aE cA 32 S), (zz, aE cA 32 Z), (od, aE cA 32 O)]) [0, 1, 2, 3, 4] (by decide) rfl ?_
        refine g_iload_n E dX2_firstGapOf_15 rfl 1 rfl ?_
        refine g_icmp_lt (tgt := 21) E dX2_firstGapOf_16 (by decide) ⟨(by omega), (by omega)⟩ ⟨(by omega), (by omega)⟩ (fun c_16 => ?_) (fun c_16 => ?_)
        · skip
          refine g_iinc (lv' := [(2, .int (iI (k + 1))), (0, .ref sto), (1, .int (iI bm))]) E dX2_firstGapOf_21 2 rfl (by decide) rfl ?_
          refine g_goto (tgt := 2) E dX2_firstGapOf_24 (by decide) ?_
          refine GG.lvs (lv' := [(0, .ref sto), (1, .int (iI bm)), (2, .int (iI (k + 1)))]) [1, 2, 0] rfl ?_
          exact ih2 (k + 1) (by omega) (by intro i h1 h2; exact if q : i = k then (by rw [q, ← hr_12]; omega) else hI i h1 (by omega)) (by omega)
        · skip
          refine g_iload_n E dX2_firstGapOf_19 rfl 2 rfl ?_
          refine g_ireturn E dX2_firstGapOf_20 ?_
          exact ⟨Or.inl ⟨hk.1, by omega, by rw [← hr_12]; omega, hI⟩, rfl⟩
  refine GG.lvs (lv' := [(0, .ref sto), (1, .int (iI bm)), (2, .int (iI 0))]) [1, 2, 0] rfl ?_
  exact L2 ((ns + 1 - 0 : Int).toNat + 1) 0 (by omega) (by intro i h1 h2; omega) (by omega)
set_option maxHeartbeats 4000000 in
set_option maxRecDepth 100000 in
theorem c_X2_removeFromOrder (l : Launch) (D : va_G) (cA : ClassId) (sto : Nat) (bya : Nat) (ss : Nat) (zz : Nat) (od : Nat) (ns : Int) (cap : Nat) (S : Int → Int) (Z : Int → Int) (O : Int → Int) (b : Int) (k0 : Int) (hcap : cap ≤ 4096) (hSI : SI (cap : Int) ns S Z O) (hk0 : 0 ≤ k0 ∧ k0 < ns) (e0 : O k0 = b) : Cv l D vwCl cA yX2_removeFromOrder (.code yX2_removeFromOrder cX2_removeFromOrder 4 none :: UW) ({ frames := 0, cells := 0, slots := 0, locals := 0 }) 0 0 [.ref sto, .int (iI b)] [(sto, .inr (2, [.ref bya, .ref ss, .ref zz, .ref od, .int (iI ns)])), (od, aE cA 32 O)] (fun (w : va_W) => w = [(sto, .inr (2, [.ref bya, .ref ss, .ref zz, .ref od, .int (iI (ns - 1))])), (od, aE cA 32 (shl O k0 (ns - 1)))]) := by
  refine Cv.mk (by decide) (Nat.le_of_ble_eq_true rfl) ?_
  intro p e s m args below meth c A E hin
  refine GG.lvs (lv' := [(0, .ref sto), (1, .int (iI b))]) [0, 1] rfl ?_
  have hn := hSI.1
  have hb0 := hSI.2.1 k0 hk0.1 hk0.2
  refine g_iconst E dX2_removeFromOrder_0 ?_
  refine g_istore_n (lv' := [(2, .int (iI 0)), (0, .ref sto), (1, .int (iI b))]) E dX2_removeFromOrder_1 rfl (by decide) rfl ?_
  refine g_iconst E dX2_removeFromOrder_2 ?_
  refine g_istore_n (lv' := [(3, .int (iI 0)), (2, .int (iI 0)), (0, .ref sto), (1, .int (iI b))]) E dX2_removeFromOrder_3 rfl (by decide) rfl ?_
  have L4 : ∀ (fu4 : Nat) (lf : Int) (k : Int) (G : Int → Int), 0 ≤ k ∧ k ≤ ns ∧ 0 ≤ lf ∧ lf ≤ k → (k ≤ k0 ∧ lf = k ∧ G = O) ∨ (k0 < k ∧ lf = k - 1 ∧ G = shl O k0 (k - 1)) → (ns - k) < (fu4 : Int) → GG p l e ({ frames := 0, cells := 0, slots := 0, locals := 0 }) s m args below meth c D vwCl A 4 (QV D vwCl cA A below args s 0 0 (fun (w : va_W) => w = [(sto, .inr (2, [.ref bya, .ref ss, .ref zz, .ref od, .int (iI (ns - 1))])), (od, aE cA 32 (shl O k0 (ns - 1)))])) 0 0 [(sto, .inr (2, [.ref bya, .ref ss, .ref zz, .ref od, .int (iI ns)])), (od, aE cA 32 G)] [(0, .ref sto), (1, .int (iI b)), (2, .int (iI lf)), (3, .int (iI k))] 4 [] := by
    intro fu4
    induction fu4 with
    | zero => intro lf k G hk hI hmu4; exfalso; omega
    | succ fu4 ih4 =>
      intro lf k G hk hI hmu4
      refine g_iload_n E dX2_removeFromOrder_4 rfl 3 rfl ?_
      refine g_aload_n E dX2_removeFromOrder_5 rfl 0 rfl ?_
      refine g_getfield E dX2_removeFromOrder_6 0 4 rfl rfl (by decide) iX2 wd_161 rfl rfl ?_
      refine g_icmp_ge (tgt := 43) E dX2_removeFromOrder_9 (by decide) ⟨(by omega), (by omega)⟩ ⟨(by omega), (by omega)⟩ (fun c_9 => ?_) (fun c_9 => ?_)
      · skip
        refine g_aload_n E dX2_removeFromOrder_43 rfl 0 rfl ?_
        refine g_iload_n E dX2_removeFromOrder_44 rfl 2 rfl ?_
        refine g_putfield (ws' := [(sto, .inr (2, [.ref bya, .ref ss, .ref zz, .ref od, .int (iI lf)])), (od, aE cA 32 G)]) E dX2_removeFromOrder_45 0 4 rfl rfl (by decide) iX2 tyX2 tyX2_ok nmX2 wd_161 rfl rfl rfl rfl rfl (Nat.le_of_ble_eq_true rfl) rfl ?_
        refine g_return E dX2_removeFromOrder_48 ?_
        have g := hI.resolve_left (fun g => by omega)
        rw [g.2.1, g.2.2, show k = ns by omega]
      · skip
        refine g_aload_n E dX2_removeFromOrder_12 rfl 0 rfl ?_
        refine g_getfield E dX2_removeFromOrder_13 0 3 rfl rfl (by decide) iX2 wd_159 rfl rfl ?_
        refine g_iload_n E dX2_removeFromOrder_16 rfl 3 rfl ?_
        refine g_iaload E dX2_removeFromOrder_17 1 rfl (by omega) (by omega) (by omega) ?_
        have hGk : G k = O k := hI.elim (fun g => by rw [g.2.2]) (fun g => by rw [g.2.2]; exact shl_at)
        have hbk := hSI.2.1 k (by omega) (by omega)
        refine g_iload_n E dX2_removeFromOrder_18 rfl 1 rfl ?_
        refine g_icmp_eq (tgt := 37) E dX2_removeFromOrder_19 (by decide) ⟨(by omega), (by omega)⟩ ⟨(by omega), (by omega)⟩ (fun c_19 => ?_) (fun c_19 => ?_)
        · skip
          have hnx : (k + 1 ≤ k0 ∧ lf = k + 1 ∧ G = O) ∨ (k0 < k + 1 ∧ lf = k + 1 - 1 ∧ G = shl O k0 (k + 1 - 1)) := by
            have ek : k = k0 := hSI.inj hk.1 (by omega) hk0.1 hk0.2 (by omega)
            rcases hI with g | g
            · exact Or.inr ⟨by omega, by omega, by rw [g.2.2, show k + 1 - 1 = k0 by omega, shl_0]⟩
            · exfalso; omega
          refine g_iinc (lv' := [(3, .int (iI (k + 1))), (0, .ref sto), (1, .int (iI b)), (2, .int (iI lf))]) E dX2_removeFromOrder_37 3 rfl (by decide) rfl ?_
          refine g_goto (tgt := 4) E dX2_removeFromOrder_40 (by decide) ?_
          refine GG.lvs (lv' := [(0, .ref sto), (1, .int (iI b)), (2, .int (iI lf)), (3, .int (iI (k + 1)))]) [1, 2, 3, 0] rfl ?_
          exact ih4 lf (k + 1) G (by omega) (by exact hnx) (by omega)
        · skip
          have hnx : (k + 1 ≤ k0 ∧ lf + 1 = k + 1 ∧ up G lf (G k) = O) ∨ (k0 < k + 1 ∧ lf + 1 = k + 1 - 1 ∧ up G lf (G k) = shl O k0 (k + 1 - 1)) := by
            have ek : k ≠ k0 := fun q => c_19 (by rw [hGk, q]; exact e0)
            rcases hI with g | g
            · exact Or.inl ⟨by omega, by omega, by rw [g.2.1, g.2.2]; exact up_self rfl⟩
            · exact Or.inr ⟨by omega, by omega, by rw [g.2.1, show k + 1 - 1 = k by omega]; exact shl_s g.1 g.2.2⟩
          refine g_aload_n E dX2_removeFromOrder_22 rfl 0 rfl ?_
          refine g_getfield E dX2_removeFromOrder_23 0 3 rfl rfl (by decide) iX2 wd_159 rfl rfl ?_
          refine g_iload_n E dX2_removeFromOrder_26 rfl 2 rfl ?_
          refine g_aload_n E dX2_removeFromOrder_27 rfl 0 rfl ?_
          refine g_getfield E dX2_removeFromOrder_28 0 3 rfl rfl (by decide) iX2 wd_159 rfl rfl ?_
          refine g_iload_n E dX2_removeFromOrder_31 rfl 3 rfl ?_
          refine g_iaload E dX2_removeFromOrder_32 1 rfl (by omega) (by omega) (by omega) ?_
          refine g_iastore (ws' := [(sto, .inr (2, [.ref bya, .ref ss, .ref zz, .ref od, .int (iI ns)])), (od, aE cA 32 (up G lf (G k)))]) E dX2_removeFromOrder_33 1 rfl (by omega) (by omega) (by omega) rfl ?_
          refine g_iinc (lv' := [(2, .int (iI (lf + 1))), (0, .ref sto), (1, .int (iI b)), (3, .int (iI k))]) E dX2_removeFromOrder_34 2 rfl (by decide) rfl ?_
          refine g_iinc (lv' := [(3, .int (iI (k + 1))), (2, .int (iI (lf + 1))), (0, .ref sto), (1, .int (iI b))]) E dX2_removeFromOrder_37 3 rfl (by decide) rfl ?_
          refine g_goto (tgt := 4) E dX2_removeFromOrder_40 (by decide) ?_
          refine GG.lvs (lv' := [(0, .ref sto), (1, .int (iI b)), (2, .int (iI (lf + 1))), (3, .int (iI (k + 1)))]) [2, 3, 1, 0] rfl ?_
          exact ih4 (lf + 1) (k + 1) (up G lf (G k)) (by omega) (by exact hnx) (by omega)
  refine GG.lvs (lv' := [(0, .ref sto), (1, .int (iI b)), (2, .int (iI 0)), (3, .int (iI 0))]) [2, 3, 1, 0] rfl ?_
  exact L4 ((ns - 0 : Int).toNat + 1) 0 0 O (by omega) (by exact Or.inl ⟨by omega, rfl, rfl⟩) (by omega)
set_option maxHeartbeats 4000000 in
set_option maxRecDepth 100000 in
theorem c_X2_release (l : Launch) (D : va_G) (cA : ClassId) (sto : Nat) (bya : Nat) (ss : Nat) (zz : Nat) (od : Nat) (ns : Int) (cap : Nat) (S : Int → Int) (Z : Int → Int) (O : Int → Int) (Mk : Int → Int) (b : Int) (hcap : cap ≤ 4096) (hLR : LR (cap : Int) ns S Z O Mk) (hb : 0 ≤ b ∧ b < 32) : Ci l D vwCl cA yX2_release (.code yX2_release cX2_release 3 (some .int) :: UW) ({ frames := 1, cells := 0, slots := 0, locals := 23 }) 0 0 [.ref sto, .int (iI b)] [(sto, .inr (2, [.ref bya, .ref ss, .ref zz, .ref od, .int (iI ns)])), (ss, aE cA 32 S), (zz, aE cA 32 Z), (od, aE cA 32 O)] (fun (r : Int) (w : va_W) => ∃ (S2 : Int → Int) (Z2 : Int → Int) (O2 : Int → Int) (n2 : Int), r = Z b ∧ LR (cap : Int) n2 S2 Z2 O2 (rel (cap : Int) Mk b) ∧ Z2 = up Z b 0 ∧ w = [(sto, .inr (2, [.ref bya, .ref ss, .ref zz, .ref od, .int (iI n2)])), (ss, aE cA 32 S2), (zz, aE cA 32 Z2), (od, aE cA 32 O2)]) := by
  refine Ci.mk (by decide) (Nat.le_of_ble_eq_true rfl) ?_
  intro p e s m args below meth c A E
  refine GG.lvs (lv' := [(0, .ref sto), (1, .int (iI b))]) [0, 1] rfl ?_
  refine g_aload_n E dX2_release_0 rfl 0 rfl ?_
  refine g_getfield E dX2_release_1 0 2 rfl rfl (by decide) iX2 wd_160 rfl rfl ?_
  refine g_iload_n E dX2_release_4 rfl 1 rfl ?_
  refine g_iaload E dX2_release_5 2 rfl (by omega) (by omega) (by omega) ?_
  have hzb : 0 ≤ Z b ∧ Z b ≤ 256 := (hLR.1.2.2.2.1 b hb.1 hb.2).elim (fun g => by omega) (fun ⟨k, g1, g2, g3⟩ => by have := hLR.1.2.1 k g1 g2; rw [g3] at this; omega)
  refine g_istore_n (lv' := [(2, .int (iI (Z b))), (0, .ref sto), (1, .int (iI b))]) E dX2_release_6 rfl (by decide) rfl ?_
  refine g_iload_n E dX2_release_7 rfl 0 rfl ?_
  refine g_if_le (tgt := 30) E dX2_release_8 (by decide) ⟨(by omega), (by omega)⟩ (fun c_8 => ?_) (fun c_8 => ?_)
  · skip
    refine g_iload_n E dX2_release_30 rfl 0 rfl ?_
    refine g_ireturn E dX2_release_31 ?_
    first | exact ⟨S, Z, O, ns, rfl, by rw [hLR.rel_id hb (by omega)]; exact hLR, (up_self (by omega)).symm, rfl⟩ | exact ⟨_, _, _, _, rfl, hLR.release hb g1 g2 g3, rfl, rfl⟩
  · skip
    obtain ⟨k0, g1, g2, g3⟩ := (hLR.1.2.2.2.1 b hb.1 hb.2).resolve_left (fun g => by omega)
    refine g_aload_n E dX2_release_11 rfl 1 rfl ?_
    refine g_iload_n E dX2_release_12 rfl 2 rfl ?_
    refine g_callVv (n := 1) (As := [.int (iI b)]) (rest := []) (wr := [(ss, aE cA 32 S), (zz, aE cA 32 Z)]) E dX2_release_13 (c_X2_removeFromOrder l D cA sto bya ss zz od ns _ _ _ O b k0 (by omega) (by exact hLR.1) (by omega) (by exact g3)) wd_code_X2_removeFromOrder wd_172 wd_173 wd_174 wd_175 (by decide +kernel) ⟨⟨rfl, rfl⟩, ⟨(Nat.le_of_ble_eq_true rfl), (Nat.le_of_ble_eq_true rfl)⟩, ⟨(Nat.le_of_ble_eq_true rfl), (Nat.le_of_ble_eq_true rfl)⟩⟩ [0, 3] [1, 2] rfl rfl (by decide) 0 rfl rfl rfl rfl (Nat.le_of_ble_eq_true rfl) (fun w_13 hw_13 => ?_)
    subst hw_13
    refine GG.wss (ws' := [(sto, .inr (2, [.ref bya, .ref ss, .ref zz, .ref od, .int (iI (ns - 1))])), (ss, aE cA 32 S), (zz, aE cA 32 Z), (od, aE cA 32 (shl O k0 (ns - 1)))]) [2, 0, 1, 3] (by decide) rfl ?_
    refine g_aload_n E dX2_release_16 rfl 1 rfl ?_
    refine g_getfield E dX2_release_17 0 1 rfl rfl (by decide) iX2 wd_158 rfl rfl ?_
    refine g_iload_n E dX2_release_20 rfl 2 rfl ?_
    refine g_iconst E dX2_release_21 ?_
    refine g_iastore (ws' := [(sto, .inr (2, [.ref bya, .ref ss, .ref zz, .ref od, .int (iI (ns - 1))])), (ss, aE cA 32 (up S b (-1))), (zz, aE cA 32 Z), (od, aE cA 32 (shl O k0 (ns - 1)))]) E dX2_release_22 1 rfl (by omega) (by omega) (by omega) rfl ?_
    refine g_aload_n E dX2_release_23 rfl 1 rfl ?_
    refine g_getfield E dX2_release_24 0 2 rfl rfl (by decide) iX2 wd_160 rfl rfl ?_
    refine g_iload_n E dX2_release_27 rfl 2 rfl ?_
    refine g_iconst E dX2_release_28 ?_
    refine g_iastore (ws' := [(sto, .inr (2, [.ref bya, .ref ss, .ref zz, .ref od, .int (iI (ns - 1))])), (ss, aE cA 32 (up S b (-1))), (zz, aE cA 32 (up Z b 0)), (od, aE cA 32 (shl O k0 (ns - 1)))]) E dX2_release_29 2 rfl (by omega) (by omega) (by omega) rfl ?_
    refine g_iload_n E dX2_release_30 rfl 0 rfl ?_
    refine g_ireturn E dX2_release_31 ?_
    first | exact ⟨S, Z, O, ns, rfl, by rw [hLR.rel_id hb (by omega)]; exact hLR, (up_self (by omega)).symm, rfl⟩ | exact ⟨_, _, _, _, rfl, hLR.release hb g1 g2 g3, rfl, rfl⟩
set_option maxHeartbeats 4000000 in
set_option maxRecDepth 100000 in
theorem c_X2_insert (l : Launch) (D : va_G) (cA : ClassId) (sto : Nat) (bya : Nat) (ss : Nat) (zz : Nat) (od : Nat) (ns : Int) (cap : Nat) (S : Int → Int) (Z : Int → Int) (O : Int → Int) (g : Int) (b : Int) (bm : Int) (hcap : cap ≤ 4096) (hSI : SI (cap : Int) ns S Z O) (hg : 0 ≤ g ∧ g ≤ ns) (hb : 0 ≤ b ∧ b < 32) (hn : ns ≤ 31) : Cv l D vwCl cA yX2_insert (.code yX2_insert cX2_insert 5 none :: UW) ({ frames := 1, cells := 0, slots := 0, locals := 21 }) 0 0 [.ref sto, .int (iI g), .int (iI b), .int (iI bm)] [(sto, .inr (2, [.ref bya, .ref ss, .ref zz, .ref od, .int (iI ns)])), (ss, aE cA 32 S), (zz, aE cA 32 Z), (od, aE cA 32 O)] (fun (w : va_W) => w = [(sto, .inr (2, [.ref bya, .ref ss, .ref zz, .ref od, .int (iI (ns + 1))])), (ss, aE cA 32 (up S b (gs S Z O g))), (zz, aE cA 32 (up Z b bm)), (od, aE cA 32 (ins O g ns b))]) := by
  refine Cv.mk (by decide) (Nat.le_of_ble_eq_true rfl) ?_
  intro p e s m args below meth c A E hin
  refine GG.lvs (lv' := [(0, .ref sto), (1, .int (iI g)), (2, .int (iI b)), (3, .int (iI bm))]) [0, 1, 2, 3] rfl ?_
  have hn0 := hSI.1
  refine g_aload_n E dX2_insert_0 rfl 0 rfl ?_
  refine g_getfield E dX2_insert_1 0 1 rfl rfl (by decide) iX2 wd_158 rfl rfl ?_
  refine g_iload_n E dX2_insert_4 rfl 2 rfl ?_
  refine g_aload_n E dX2_insert_5 rfl 0 rfl ?_
  refine g_iload_n E dX2_insert_6 rfl 1 rfl ?_
  refine g_callV (n := 1) (As := [.int (iI g)]) (rest := [.int (iI b), .ref ss]) (wr := []) E dX2_insert_7 (c_X2_gapStart l D cA sto bya ss zz od ns _ S Z O g (by omega) (by exact hSI) (by omega)) wd_code_X2_gapStart wd_162 wd_163 wd_164 wd_165 (by decide +kernel) ⟨⟨rfl, rfl⟩, ⟨(Nat.le_of_ble_eq_true rfl), (Nat.le_of_ble_eq_true rfl)⟩, ⟨(Nat.le_of_ble_eq_true rfl), (Nat.le_of_ble_eq_true rfl)⟩⟩ [0, 1, 2, 3] [] rfl rfl (by decide) 0 rfl rfl rfl rfl (Nat.le_of_ble_eq_true rfl) (fun z_7 w_7 hw_7 => ?_)
  obtain ⟨hr_7, rfl⟩ := hw_7
  subst hr_7
  refine GG.wss (ws' := [(sto, .inr (2, [.ref bya, .ref ss, .ref zz, .ref od, .int (iI ns)])), (ss, aE cA 32 S), (zz, aE cA 32 Z), (od, aE cA 32 O)]) [0, 1, 2, 3] (by decide) rfl ?_
  refine g_iastore (ws' := [(sto, .inr (2, [.ref bya, .ref ss, .ref zz, .ref od, .int (iI ns)])), (ss, aE cA 32 (up S b (gs S Z O g))), (zz, aE cA 32 Z), (od, aE cA 32 O)]) E dX2_insert_10 1 rfl (by omega) (by omega) (by omega) rfl ?_
  refine g_aload_n E dX2_insert_11 rfl 0 rfl ?_
  refine g_getfield E dX2_insert_12 0 2 rfl rfl (by decide) iX2 wd_160 rfl rfl ?_
  refine g_iload_n E dX2_insert_15 rfl 2 rfl ?_
  refine g_iload_n E dX2_insert_16 rfl 3 rfl ?_
  refine g_iastore (ws' := [(sto, .inr (2, [.ref bya, .ref ss, .ref zz, .ref od, .int (iI ns)])), (ss, aE cA 32 (up S b (gs S Z O g))), (zz, aE cA 32 (up Z b bm)), (od, aE cA 32 O)]) E dX2_insert_17 2 rfl (by omega) (by omega) (by omega) rfl ?_
  refine g_aload_n E dX2_insert_18 rfl 0 rfl ?_
  refine g_getfield E dX2_insert_19 0 4 rfl rfl (by decide) iX2 wd_161 rfl rfl ?_
  refine g_istore (lv' := [(4, .int (iI ns)), (0, .ref sto), (1, .int (iI g)), (2, .int (iI b)), (3, .int (iI bm))]) E dX2_insert_22 (by decide) rfl ?_
  have L24 : ∀ (fu24 : Nat) (k : Int) (G : Int → Int), g ≤ k ∧ k ≤ ns → G = inm O k ns → (k - g) < (fu24 : Int) → GG p l e ({ frames := 1, cells := 0, slots := 0, locals := 21 }) s m args below meth c D vwCl A 5 (QV D vwCl cA A below args s 0 0 (fun (w : va_W) => w = [(sto, .inr (2, [.ref bya, .ref ss, .ref zz, .ref od, .int (iI (ns + 1))])), (ss, aE cA 32 (up S b (gs S Z O g))), (zz, aE cA 32 (up Z b bm)), (od, aE cA 32 (ins O g ns b))])) 0 0 [(sto, .inr (2, [.ref bya, .ref ss, .ref zz, .ref od, .int (iI ns)])), (ss, aE cA 32 (up S b (gs S Z O g))), (zz, aE cA 32 (up Z b bm)), (od, aE cA 32 G)] [(0, .ref sto), (1, .int (iI g)), (2, .int (iI b)), (3, .int (iI bm)), (4, .int (iI k))] 24 [] := by
    intro fu24
    induction fu24 with
    | zero => intro k G hk hG hmu24; exfalso; omega
    | succ fu24 ih24 =>
      intro k G hk hG hmu24
      refine g_iload E dX2_insert_24 4 rfl ?_
      refine g_iload_n E dX2_insert_26 rfl 1 rfl ?_
      refine g_icmp_le (tgt := 52) E dX2_insert_27 (by decide) ⟨(by omega), (by omega)⟩ ⟨(by omega), (by omega)⟩ (fun c_27 => ?_) (fun c_27 => ?_)
      · skip
        refine g_aload_n E dX2_insert_52 rfl 0 rfl ?_
        refine g_getfield E dX2_insert_53 0 3 rfl rfl (by decide) iX2 wd_159 rfl rfl ?_
        refine g_iload_n E dX2_insert_56 rfl 1 rfl ?_
        refine g_iload_n E dX2_insert_57 rfl 2 rfl ?_
        refine g_iastore (ws' := [(sto, .inr (2, [.ref bya, .ref ss, .ref zz, .ref od, .int (iI ns)])), (ss, aE cA 32 (up S b (gs S Z O g))), (zz, aE cA 32 (up Z b bm)), (od, aE cA 32 (up G g b))]) E dX2_insert_58 3 rfl (by omega) (by omega) (by omega) rfl ?_
        refine g_aload_n E dX2_insert_59 rfl 0 rfl ?_
        refine g_dup E dX2_insert_60 rfl ?_
        refine g_getfield E dX2_insert_61 0 4 rfl rfl (by decide) iX2 wd_161 rfl rfl ?_
        refine g_iconst E dX2_insert_64 ?_
        refine g_iadd E dX2_insert_65 ?_
        refine g_putfield (ws' := [(sto, .inr (2, [.ref bya, .ref ss, .ref zz, .ref od, .int (iI (ns + 1))])), (ss, aE cA 32 (up S b (gs S Z O g))), (zz, aE cA 32 (up Z b bm)), (od, aE cA 32 (up G g b))]) E dX2_insert_66 0 4 rfl rfl (by decide) iX2 tyX2 tyX2_ok nmX2 wd_161 rfl rfl rfl rfl rfl (Nat.le_of_ble_eq_true rfl) rfl ?_
        refine g_return E dX2_insert_69 ?_
        have hkg : k = g := by omega
        rw [hkg] at hG
        rw [inm_e hG]
      · skip
        refine g_aload_n E dX2_insert_30 rfl 0 rfl ?_
        refine g_getfield E dX2_insert_31 0 3 rfl rfl (by decide) iX2 wd_159 rfl rfl ?_
        refine g_iload E dX2_insert_34 4 rfl ?_
        refine g_aload_n E dX2_insert_36 rfl 0 rfl ?_
        refine g_getfield E dX2_insert_37 0 3 rfl rfl (by decide) iX2 wd_159 rfl rfl ?_
        refine g_iload E dX2_insert_40 4 rfl ?_
        refine g_iconst E dX2_insert_42 ?_
        refine g_isub E dX2_insert_43 ?_
        refine g_iaload E dX2_insert_44 3 rfl (by omega) (by omega) (by omega) ?_
        refine g_iastore (ws' := [(sto, .inr (2, [.ref bya, .ref ss, .ref zz, .ref od, .int (iI ns)])), (ss, aE cA 32 (up S b (gs S Z O g))), (zz, aE cA 32 (up Z b bm)), (od, aE cA 32 (up G k (G (k - 1))))]) E dX2_insert_45 3 rfl (by omega) (by omega) (by omega) rfl ?_
        refine g_iinc (lv' := [(4, .int (iI (k + (-1)))), (0, .ref sto), (1, .int (iI g)), (2, .int (iI b)), (3, .int (iI bm))]) E dX2_insert_46 4 rfl (by decide) rfl ?_
        refine g_goto (tgt := 24) E dX2_insert_49 (by decide) ?_
        refine GG.lvs (lv' := [(0, .ref sto), (1, .int (iI g)), (2, .int (iI b)), (3, .int (iI bm)), (4, .int (iI (k + (-1))))]) [1, 2, 3, 4, 0] rfl ?_
        exact ih24 (k + (-1)) (up G k (G (k - 1))) (by omega) (by exact inm_s hk.2 hG) (by omega)
  refine GG.lvs (lv' := [(0, .ref sto), (1, .int (iI g)), (2, .int (iI b)), (3, .int (iI bm)), (4, .int (iI ns))]) [1, 2, 3, 4, 0] rfl ?_
  exact L24 ((ns - g : Int).toNat + 1) ns O (by omega) (by exact (inm_0 ..).symm) (by omega)
set_option maxHeartbeats 4000000 in
set_option maxRecDepth 100000 in
theorem c_X2_putTogether (l : Launch) (D : va_G) (cA : ClassId) (sto : Nat) (bya : Nat) (ss : Nat) (zz : Nat) (od : Nat) (ns : Int) (cap : Nat) (St : Int → Int) (S : Int → Int) (Z : Int → Int) (O : Int → Int) (Mk : Int → Int) (hcap : cap ≤ 4096) (hLR : LR (cap : Int) ns S Z O Mk) : Ci l D vwCl cA yX2_putTogether (.code yX2_putTogether cX2_putTogether 5 (some .int) :: UW) ({ frames := 1, cells := 0, slots := 0, locals := 30 }) 0 0 [.ref sto] [(sto, .inr (2, [.ref bya, .ref ss, .ref zz, .ref od, .int (iI ns)])), (bya, aE cA cap St), (ss, aE cA 32 S), (zz, aE cA 32 Z), (od, aE cA 32 O)] (fun (r : Int) (w : va_W) => ∃ (P2 : Int → Int), r = (tg St Mk (cap : Int).toNat).2.2.2 ∧ LR (cap : Int) ns P2 Z O (tg St Mk (cap : Int).toNat).2.1 ∧ (tg St Mk (cap : Int).toNat).2.2.1 = gs P2 Z O ns ∧ w = [(sto, .inr (2, [.ref bya, .ref ss, .ref zz, .ref od, .int (iI ns)])), (bya, aE cA cap ((tg St Mk (cap : Int).toNat).1)), (ss, aE cA 32 P2), (zz, aE cA 32 Z), (od, aE cA 32 O)]) := by
  refine Ci.mk (by decide) (Nat.le_of_ble_eq_true rfl) ?_
  intro p e s m args below meth c A E
  refine GG.lvs (lv' := [(0, .ref sto)]) [0] rfl ?_
  have hn := hLR.1.1
  refine g_iconst E dX2_putTogether_0 ?_
  refine g_istore_n (lv' := [(1, .int (iI 0)), (0, .ref sto)]) E dX2_putTogether_1 rfl (by decide) rfl ?_
  refine g_iconst E dX2_putTogether_2 ?_
  refine g_istore_n (lv' := [(2, .int (iI 0)), (1, .int (iI 0)), (0, .ref sto)]) E dX2_putTogether_3 rfl (by decide) rfl ?_
  refine g_iconst E dX2_putTogether_4 ?_
  refine g_istore_n (lv' := [(3, .int (iI 0)), (2, .int (iI 0)), (1, .int (iI 0)), (0, .ref sto)]) E dX2_putTogether_5 rfl (by decide) rfl ?_
  have L6 : ∀ (fu6 : Nat) (mv : Int) (t : Int) (k : Int) (AA : Int → Int) (P : Int → Int), 0 ≤ k ∧ k ≤ ns ∧ 0 ≤ mv ∧ mv ≤ 256 * k → tgc Z O St S k.toNat = (AA, P, t, mv) → (ns - k) < (fu6 : Int) → GG p l e ({ frames := 1, cells := 0, slots := 0, locals := 30 }) s m args below meth c D vwCl A 5 (QI D vwCl cA A below args s 0 0 (fun (r : Int) (w : va_W) => ∃ (P2 : Int → Int), r = (tg St Mk (cap : Int).toNat).2.2.2 ∧ LR (cap : Int) ns P2 Z O (tg St Mk (cap : Int).toNat).2.1 ∧ (tg St Mk (cap : Int).toNat).2.2.1 = gs P2 Z O ns ∧ w = [(sto, .inr (2, [.ref bya, .ref ss, .ref zz, .ref od, .int (iI ns)])), (bya, aE cA cap ((tg St Mk (cap : Int).toNat).1)), (ss, aE cA 32 P2), (zz, aE cA 32 Z), (od, aE cA 32 O)])) 0 0 [(sto, .inr (2, [.ref bya, .ref ss, .ref zz, .ref od, .int (iI ns)])), (bya, aE cA cap AA), (ss, aE cA 32 P), (zz, aE cA 32 Z), (od, aE cA 32 O)] [(0, .ref sto), (1, .int (iI mv)), (2, .int (iI t)), (3, .int (iI k))] 6 [] := by
    intro fu6
    induction fu6 with
    | zero => intro mv t k AA P hk hI hmu6; exfalso; omega
    | succ fu6 ih6 =>
      intro mv t k AA P hk hI hmu6
      have hTI := tgc_TI (St := St) hLR.1 (by omega) k.toNat (by omega)
      rw [hI, show ((k.toNat : Nat) : Int) = k by omega] at hTI
      have ht0 : 0 ≤ t ∧ t ≤ gs S Z O k := ⟨hTI.1, hTI.2.1⟩
      have hgp := hLR.1.gap (by omega) (k := k) (by omega) (by omega)
      refine g_iload_n E dX2_putTogether_6 rfl 3 rfl ?_
      refine g_aload_n E dX2_putTogether_7 rfl 0 rfl ?_
      refine g_getfield E dX2_putTogether_8 0 4 rfl rfl (by decide) iX2 wd_161 rfl rfl ?_
      refine g_icmp_ge (tgt := 93) E dX2_putTogether_11 (by decide) ⟨(by omega), (by omega)⟩ ⟨(by omega), (by omega)⟩ (fun c_11 => ?_) (fun c_11 => ?_)
      · skip
        have hkn : k = ns := by omega
        rw [hkn] at hI
        have hfin := hLR.together (by omega) St
        rw [hI] at hfin
        refine g_iload_n E dX2_putTogether_93 rfl 1 rfl ?_
        refine g_ireturn E dX2_putTogether_94 ?_
        exact ⟨P, hfin.2.2.2.symm, hfin.1, hfin.2.2.1, by rw [hfin.2.1]⟩
      · skip
        have hbk := hLR.1.2.1 k (by omega) (by omega)
        have hPk : P (O k) = S (O k) := hTI.2.2.2.1 k (by omega) (by omega)
        rw [ge_lt (by omega)] at hgp
        refine g_aload_n E dX2_putTogether_14 rfl 0 rfl ?_
        refine g_getfield E dX2_putTogether_15 0 3 rfl rfl (by decide) iX2 wd_159 rfl rfl ?_
        refine g_iload_n E dX2_putTogether_18 rfl 3 rfl ?_
        refine g_iaload E dX2_putTogether_19 4 rfl (by omega) (by omega) (by omega) ?_
        refine g_istore (lv' := [(4, .int (iI (O k))), (0, .ref sto), (1, .int (iI mv)), (2, .int (iI t)), (3, .int (iI k))]) E dX2_putTogether_20 (by decide) rfl ?_
        refine g_aload_n E dX2_putTogether_22 rfl 1 rfl ?_
        refine g_getfield E dX2_putTogether_23 0 1 rfl rfl (by decide) iX2 wd_158 rfl rfl ?_
        refine g_iload E dX2_putTogether_26 0 rfl ?_
        refine g_iaload E dX2_putTogether_28 2 rfl (by omega) (by omega) (by omega) ?_
        refine g_iload_n E dX2_putTogether_29 rfl 3 rfl ?_
        refine g_icmp_eq (tgt := 77) E dX2_putTogether_30 (by decide) ⟨(by omega), (by omega)⟩ ⟨(by omega), (by omega)⟩ (fun c_30 => ?_) (fun c_30 => ?_)
        · skip
          refine g_iload_n E dX2_putTogether_77 rfl 3 rfl ?_
          refine g_aload_n E dX2_putTogether_78 rfl 1 rfl ?_
          refine g_getfield E dX2_putTogether_79 0 2 rfl rfl (by decide) iX2 wd_160 rfl rfl ?_
          refine g_iload E dX2_putTogether_82 0 rfl ?_
          refine g_iaload E dX2_putTogether_84 3 rfl (by omega) (by omega) (by omega) ?_
          refine g_iadd E dX2_putTogether_85 ?_
          refine g_istore_n (lv' := [(2, .int (iI (t + (Z (O k))))), (4, .int (iI (O k))), (0, .ref sto), (1, .int (iI mv)), (3, .int (iI k))]) E dX2_putTogether_86 rfl (by decide) rfl ?_
          refine g_iinc (lv' := [(3, .int (iI (k + 1))), (2, .int (iI (t + (Z (O k))))), (4, .int (iI (O k))), (0, .ref sto), (1, .int (iI mv))]) E dX2_putTogether_87 4 rfl (by decide) rfl ?_
          refine g_goto (tgt := 6) E dX2_putTogether_90 (by decide) ?_
          refine GG.lvs (lv' := [(0, .ref sto), (1, .int (iI mv)), (2, .int (iI (t + (Z (O k))))), (3, .int (iI (k + 1)))]) [3, 4, 1, 0] rfl ?_
          exact ih6 mv (t + (Z (O k))) (k + 1) AA P (by omega) (by first | exact tgc_e hk.1 hI c_30 | exact tgc_m hk.1 hI c_30) (by omega)
        · skip
          refine g_aload_n E dX2_putTogether_33 rfl 1 rfl ?_
          refine g_getfield E dX2_putTogether_34 0 0 rfl rfl (by decide) iX2 wd_157 rfl rfl ?_
          refine g_aload_n E dX2_putTogether_37 rfl 1 rfl ?_
          refine g_getfield E dX2_putTogether_38 0 1 rfl rfl (by decide) iX2 wd_158 rfl rfl ?_
          refine g_iload E dX2_putTogether_41 0 rfl ?_
          refine g_iaload E dX2_putTogether_43 2 rfl (by omega) (by omega) (by omega) ?_
          refine g_aload_n E dX2_putTogether_44 rfl 1 rfl ?_
          refine g_getfield E dX2_putTogether_45 0 0 rfl rfl (by decide) iX2 wd_157 rfl rfl ?_
          refine g_iload_n E dX2_putTogether_48 rfl 3 rfl ?_
          refine g_aload_n E dX2_putTogether_49 rfl 1 rfl ?_
          refine g_getfield E dX2_putTogether_50 0 2 rfl rfl (by decide) iX2 wd_160 rfl rfl ?_
          refine g_iload E dX2_putTogether_53 0 rfl ?_
          refine g_iaload E dX2_putTogether_55 3 rfl (by omega) (by omega) (by omega) ?_
          refine g_arraycopy (ws' := [(sto, .inr (2, [.ref bya, .ref ss, .ref zz, .ref od, .int (iI ns)])), (bya, aE cA cap (cp AA AA (P (O k)) t (Z (O k)))), (ss, aE cA 32 P), (zz, aE cA 32 Z), (od, aE cA 32 O)]) E dX2_putTogether_56 wd_176 wd_177 wd_178 wd_179 1 1 rfl rfl (by omega) (by omega) (by omega) (by omega) (by omega) (by omega) (by omega) (Nat.le_of_ble_eq_true rfl) (by decide) rfl ?_
          refine g_aload_n E dX2_putTogether_59 rfl 1 rfl ?_
          refine g_getfield E dX2_putTogether_60 0 1 rfl rfl (by decide) iX2 wd_158 rfl rfl ?_
          refine g_iload E dX2_putTogether_63 0 rfl ?_
          refine g_iload_n E dX2_putTogether_65 rfl 3 rfl ?_
          refine g_iastore (ws' := [(sto, .inr (2, [.ref bya, .ref ss, .ref zz, .ref od, .int (iI ns)])), (bya, aE cA cap (cp AA AA (P (O k)) t (Z (O k)))), (ss, aE cA 32 (up P (O k) t)), (zz, aE cA 32 Z), (od, aE cA 32 O)]) E dX2_putTogether_66 2 rfl (by omega) (by omega) (by omega) rfl ?_
          refine g_iload_n E dX2_putTogether_67 rfl 2 rfl ?_
          refine g_aload_n E dX2_putTogether_68 rfl 1 rfl ?_
          refine g_getfield E dX2_putTogether_69 0 2 rfl rfl (by decide) iX2 wd_160 rfl rfl ?_
          refine g_iload E dX2_putTogether_72 0 rfl ?_
          refine g_iaload E dX2_putTogether_74 3 rfl (by omega) (by omega) (by omega) ?_
          refine g_iadd E dX2_putTogether_75 ?_
          refine g_istore_n (lv' := [(1, .int (iI (mv + (Z (O k))))), (4, .int (iI (O k))), (0, .ref sto), (2, .int (iI t)), (3, .int (iI k))]) E dX2_putTogether_76 rfl (by decide) rfl ?_
          refine g_iload_n E dX2_putTogether_77 rfl 3 rfl ?_
          refine g_aload_n E dX2_putTogether_78 rfl 2 rfl ?_
          refine g_getfield E dX2_putTogether_79 0 2 rfl rfl (by decide) iX2 wd_160 rfl rfl ?_
          refine g_iload E dX2_putTogether_82 1 rfl ?_
          refine g_iaload E dX2_putTogether_84 3 rfl (by omega) (by omega) (by omega) ?_
          refine g_iadd E dX2_putTogether_85 ?_
          refine g_istore_n (lv' := [(2, .int (iI (t + (Z (O k))))), (1, .int (iI (mv + (Z (O k))))), (4, .int (iI (O k))), (0, .ref sto), (3, .int (iI k))]) E dX2_putTogether_86 rfl (by decide) rfl ?_
          refine g_iinc (lv' := [(3, .int (iI (k + 1))), (2, .int (iI (t + (Z (O k))))), (1, .int (iI (mv + (Z (O k))))), (4, .int (iI (O k))), (0, .ref sto)]) E dX2_putTogether_87 4 rfl (by decide) rfl ?_
          refine g_goto (tgt := 6) E dX2_putTogether_90 (by decide) ?_
          refine GG.lvs (lv' := [(0, .ref sto), (1, .int (iI (mv + (Z (O k))))), (2, .int (iI (t + (Z (O k))))), (3, .int (iI (k + 1)))]) [4, 2, 1, 0] rfl ?_
          exact ih6 (mv + (Z (O k))) (t + (Z (O k))) (k + 1) (cp AA AA (P (O k)) t (Z (O k))) (up P (O k) t) (by omega) (by first | exact tgc_e hk.1 hI c_30 | exact tgc_m hk.1 hI c_30) (by omega)
  refine GG.lvs (lv' := [(0, .ref sto), (1, .int (iI 0)), (2, .int (iI 0)), (3, .int (iI 0))]) [3, 2, 1, 0] rfl ?_
  exact L6 ((ns - 0 : Int).toNat + 1) 0 0 0 St S (by omega) (by rfl) (by omega)
