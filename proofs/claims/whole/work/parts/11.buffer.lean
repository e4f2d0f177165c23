theorem wd_8 : Cond.methodLink RX3 61 yX3_liesInBuffer ∈ UW := uw (by decide +kernel) rfl
theorem wd_9 : Cond.static yX3_liesInBuffer ∈ UW := uw (by decide +kernel) rfl
theorem wd_10 : Cond.initialized yX3_liesInBuffer.cls ∈ UW := uw (by decide +kernel) rfl
theorem wd_11 : Cond.methodLink RX3 65 yX3_putHighestFirst ∈ UW := uw (by decide +kernel) rfl
theorem wd_12 : Cond.static yX3_putHighestFirst ∈ UW := uw (by decide +kernel) rfl
theorem wd_13 : Cond.initialized yX3_putHighestFirst.cls ∈ UW := uw (by decide +kernel) rfl
theorem wd_14 : Cond.fieldLink RX3 36 "PackedSlots" "taped" "I" ∈ UW := uw (by decide +kernel) rfl
theorem wd_15 : Cond.fieldLink RX3 33 "PackedSlots" "tape" "[I" ∈ UW := uw (by decide +kernel) rfl
theorem wd_16 : Cond.fieldLink RX4 114 "PackedSlotsModel" "typed" "I" ∈ UW := uw (by decide +kernel) rfl
theorem wd_17 : Cond.fieldLink RX4 25 "PackedSlotsModel" "tape" "[I" ∈ UW := uw (by decide +kernel) rfl
def byt (v j : Int) : Int := v % 4294967296 / (2 ^ j.toNat : Nat) % 256
def phf (v n : Int) (g : Int → Int) (a k : Int) : Int → Int := fun j => if a ≤ j ∧ j < a + k then byt v (8 * (n - 1 - (j - a))) else g j
theorem phf_0 (v n : Int) (g : Int → Int) (a : Int) : phf v n g a 0 = g := by
  funext j; unfold phf; rw [if_neg (by omega)]
theorem phf_s {v n a k : Int} {g G : Int → Int} (hk : 0 ≤ k) (hG : G = phf v n g a k) : up G (a + k) (v % 4294967296 / (2 ^ (8 * (n - 1 - k)).toNat : Nat) % 256) = phf v n g a (k + 1) := by
  subst hG; funext j; unfold up
  by_cases h : j = a + k
  · subst h; rw [if_pos rfl]; unfold phf; rw [if_pos (by omega)]; unfold byt; rw [show a + k - a = k by omega]
  · rw [if_neg h]; unfold phf
    by_cases h2 : a ≤ j ∧ j < a + k
    · rw [if_pos h2, if_pos (by omega)]
    · rw [if_neg h2, if_neg (by omega)]
def rnf (B : Int → Int) (a n v : Int) : Int → Int := fun j => if a ≤ j ∧ j < a + n then v else B j
theorem rnf_0 (B : Int → Int) (a v : Int) : rnf B a (a - a) v = B := by
  funext j; unfold rnf; rw [if_neg (by omega)]
theorem rnf_s {B G : Int → Int} {a k v : Int} (hk : a ≤ k) (hG : G = rnf B a (k - a) v) : up G k v = rnf B a (k + 1 - a) v := by
  subst hG; funext j; unfold up rnf
  by_cases h : j = k
  · rw [if_pos h, if_pos (by omega)]
  · rw [if_neg h]
    by_cases h2 : a ≤ j ∧ j < a + (k - a)
    · rw [if_pos h2, if_pos (by omega)]
    · rw [if_neg h2, if_neg (by omega)]
def cpk (B : Int → Int) (t f : Int) : Nat → (Int → Int)
  | 0 => B
  | k + 1 => up (cpk B t f k) (t + (k : Int)) (cpk B t f k (f + (k : Int)))
theorem cpk_s {B G : Int → Int} {t f k : Int} (hk : 0 ≤ k) (hG : G = cpk B t f k.toNat) : up G (t + k) (G (f + k)) = cpk B t f (k + 1).toNat := by
  obtain ⟨x, rfl⟩ := Int.eq_ofNat_of_zero_le hk
  subst hG
  rw [show ((x : Int) + 1).toNat = x + 1 by omega, show ((x : Int)).toNat = x by omega]
  rfl
def fillR (a : Int) : Int := if 0 ≤ a ∧ a ≤ 252 then 1 else -12
def fillB (B : Int → Int) (a v : Int) : Int → Int := if 0 ≤ a ∧ a ≤ 252 then phf v 4 B a 4 else B
def runR (a n : Int) : Int := if 0 ≤ a ∧ a < 256 ∧ 1 ≤ n ∧ n ≤ 256 - a then 1 else -12
def runB (B : Int → Int) (a n b : Int) : Int → Int := if 0 ≤ a ∧ a < 256 ∧ 1 ≤ n ∧ n ≤ 256 - a then rnf B a n (b % 256) else B
def copyR (t f n : Int) : Int := if 0 ≤ t ∧ 0 ≤ f ∧ 1 ≤ n ∧ n ≤ 256 - t ∧ n ≤ 256 - f then 1 else -12
def copyB (B : Int → Int) (t f n : Int) : Int → Int := if 0 ≤ t ∧ 0 ≤ f ∧ 1 ≤ n ∧ n ≤ 256 - t ∧ n ≤ 256 - f then cpk B t f n.toNat else B
def typeR (tn n : Int) : Int := if 1 ≤ n ∧ n ≤ 4 then (if tn + n ≤ 600 then tn + n else -14) else -12
def typeN (tn n : Int) : Int := if 1 ≤ n ∧ n ≤ 4 ∧ tn + n ≤ 600 then tn + n else tn
def typeT (T : Int → Int) (tn v n : Int) : Int → Int := if 1 ≤ n ∧ n ≤ 4 ∧ tn + n ≤ 600 then phf v n T tn n else T
set_option maxHeartbeats 4000000 in
set_option maxRecDepth 100000 in
theorem c_X3_putHighestFirst (l : Launch) (D : va_G) (cA : ClassId) (v : Int) (n : Int) (a : Int) (q : Nat) (N : Nat) (g : Int → Int) (hn : 0 ≤ n ∧ n ≤ 4) (ha : 0 ≤ a ∧ a + n ≤ N) (hN : N ≤ 2147483647) : Cv l D vwCl cA yX3_putHighestFirst (.code yX3_putHighestFirst cX3_putHighestFirst 5 none :: UW) ({ frames := 0, cells := 0, slots := 0, locals := 0 }) 0 0 [.int (iI v), .int (iI n), .ref q, .int (iI a)] [(q, aE cA N g)] (fun (w : va_W) => w = [(q, aE cA N (phf v n g a n))]) := by
  refine Cv.mk (by decide) (Nat.le_of_ble_eq_true rfl) ?_
  intro p e s m args below meth c A E hin
  refine GG.lvs (lv' := [(0, .int (iI v)), (1, .int (iI n)), (2, .ref q), (3, .int (iI a))]) [0, 1, 2, 3] rfl ?_
  refine g_iconst E dX3_putHighestFirst_0 ?_
  refine g_istore (lv' := [(4, .int (iI 0)), (0, .int (iI v)), (1, .int (iI n)), (2, .ref q), (3, .int (iI a))]) E dX3_putHighestFirst_1 (by decide) rfl ?_
  have L3 : ∀ (fu3 : Nat) (k : Int) (G : Int → Int), 0 ≤ k ∧ k ≤ n → G = phf v n g a k → (n - k) < (fu3 : Int) → GG p l e ({ frames := 0, cells := 0, slots := 0, locals := 0 }) s m args below meth c D vwCl A 5 (QV D vwCl cA A below args s 0 0 (fun (w : va_W) => w = [(q, aE cA N (phf v n g a n))])) 0 0 [(q, aE cA N G)] [(0, .int (iI v)), (1, .int (iI n)), (2, .ref q), (3, .int (iI a)), (4, .int (iI k))] 3 [] := by
    intro fu3
    induction fu3 with
    | zero => intro k G hk hG hmu3; exfalso; omega
    | succ fu3 ih3 =>
      intro k G hk hG hmu3
      refine g_iload E dX3_putHighestFirst_3 4 rfl ?_
      refine g_iload_n E dX3_putHighestFirst_5 rfl 1 rfl ?_
      refine g_icmp_ge (tgt := 36) E dX3_putHighestFirst_6 (by decide) ⟨(by omega), (by omega)⟩ ⟨(by omega), (by omega)⟩ (fun c_6 => ?_) (fun c_6 => ?_)
      · skip
        refine g_return E dX3_putHighestFirst_36 ?_
        have : k = n := by omega
        subst this
        rw [hG]
      · skip
        refine g_aload_n E dX3_putHighestFirst_9 rfl 2 rfl ?_
        refine g_iload_n E dX3_putHighestFirst_10 rfl 3 rfl ?_
        refine g_iload E dX3_putHighestFirst_11 4 rfl ?_
        refine g_iadd E dX3_putHighestFirst_13 ?_
        refine g_iload_n E dX3_putHighestFirst_14 rfl 0 rfl ?_
        refine g_bipush E dX3_putHighestFirst_15 (by decide) ?_
        refine g_iload_n E dX3_putHighestFirst_17 rfl 1 rfl ?_
        refine g_iconst E dX3_putHighestFirst_18 ?_
        refine g_isub E dX3_putHighestFirst_19 ?_
        refine g_iload E dX3_putHighestFirst_20 4 rfl ?_
        refine g_isub E dX3_putHighestFirst_22 ?_
        refine g_imul E dX3_putHighestFirst_23 ?_
        refine g_iushr E dX3_putHighestFirst_24 (by omega) (by omega) ?_
        refine g_sipush E dX3_putHighestFirst_25 (by decide) ?_
        refine g_iand255 E dX3_putHighestFirst_28 ?_
        refine g_iastore (ws' := [(q, aE cA N (up G (a + k) ((v % 4294967296 / (2 ^ (8 * ((n - 1) - k)).toNat : Nat)) % 256)))]) E dX3_putHighestFirst_29 0 rfl (by omega) (by omega) (by omega) rfl ?_
        refine g_iinc (lv' := [(4, .int (iI (k + 1))), (0, .int (iI v)), (1, .int (iI n)), (2, .ref q), (3, .int (iI a))]) E dX3_putHighestFirst_30 4 rfl (by decide) rfl ?_
        refine g_goto (tgt := 3) E dX3_putHighestFirst_33 (by decide) ?_
        refine GG.lvs (lv' := [(0, .int (iI v)), (1, .int (iI n)), (2, .ref q), (3, .int (iI a)), (4, .int (iI (k + 1)))]) [1, 2, 3, 4, 0] rfl ?_
        exact ih3 (k + 1) (up G (a + k) ((v % 4294967296 / (2 ^ (8 * ((n - 1) - k)).toNat : Nat)) % 256)) (by omega) (by exact phf_s hk.1 hG) (by omega)
  refine GG.lvs (lv' := [(0, .int (iI v)), (1, .int (iI n)), (2, .ref q), (3, .int (iI a)), (4, .int (iI 0))]) [1, 2, 3, 4, 0] rfl ?_
  exact L3 ((n - 0 : Int).toNat + 1) 0 g (by omega) (by exact (phf_0 ..).symm) (by omega)
set_option maxHeartbeats 4000000 in
set_option maxRecDepth 100000 in
theorem c_X3_fill (l : Launch) (D : va_G) (cA : ClassId) (x : Nat) (bu : Nat) (ki : Nat) (sa : Nat) (sto : Nat) (pk : Nat) (rd : Nat) (ta : Nat) (tn : Int) (tp : Int) (B : Int → Int) (a : Int) (v : Int) (ha : iB a) (hv : iB v) : Ci l D vwCl cA yX3_fill (.code yX3_fill cX3_fill 3 (some .int) :: UW) ({ frames := 1, cells := 0, slots := 0, locals := 24 }) 0 0 [.ref x, .int (iI a), .int (iI v)] [(x, .inr (3, [.ref bu, .ref ki, .ref sa, .ref sto, .ref pk, .ref rd, .ref ta, .int (iI tn), .int (iI tp)])), (bu, aE cA 256 B)] (fun (r : Int) (w : va_W) => r = fillR a ∧ w = [(x, .inr (3, [.ref bu, .ref ki, .ref sa, .ref sto, .ref pk, .ref rd, .ref ta, .int (iI tn), .int (iI tp)])), (bu, aE cA 256 (fillB B a v))]) := by
  refine Ci.mk (by decide) (Nat.le_of_ble_eq_true rfl) ?_
  intro p e s m args below meth c A E
  refine GG.lvs (lv' := [(0, .ref x), (1, .int (iI a)), (2, .int (iI v))]) [0, 1, 2] rfl ?_
  refine g_iload_n E dX3_fill_0 rfl 1 rfl ?_
  refine g_iconst E dX3_fill_1 ?_
  refine g_callS (n := 2) (As := [.int (iI a), .int (iI 4)]) (rest := []) (wr := [(x, .inr (3, [.ref bu, .ref ki, .ref sa, .ref sto, .ref pk, .ref rd, .ref ta, .int (iI tn), .int (iI tp)])), (bu, aE cA 256 B)]) E dX3_fill_2 (c_X3_liesInBuffer l D cA a 4 (by omega) (by omega)) wd_code_X3_liesInBuffer wd_8 wd_9 wd_10 (by decide +kernel) ⟨⟨rfl, rfl⟩, ⟨(Nat.le_of_ble_eq_true rfl), (Nat.le_of_ble_eq_true rfl)⟩, ⟨(Nat.le_of_ble_eq_true rfl), (Nat.le_of_ble_eq_true rfl)⟩⟩ [] [0, 1] rfl rfl (by decide) rfl rfl (Nat.le_of_ble_eq_true rfl) (fun z_2 w_2 hw_2 => ?_)
  obtain ⟨h_2, rfl⟩ := hw_2
  refine GG.wss (ws' := [(x, .inr (3, [.ref bu, .ref ki, .ref sa, .ref sto, .ref pk, .ref rd, .ref ta, .int (iI tn), .int (iI tp)])), (bu, aE cA 256 B)]) [0, 1] (by decide) rfl ?_
  refine g_if_ne (tgt := 11) E dX3_fill_5 (by decide) ⟨(by omega), (by omega)⟩ (fun c_5 => ?_) (fun c_5 => ?_)
  · skip
    refine g_iload_n E dX3_fill_11 rfl 2 rfl ?_
    refine g_iconst E dX3_fill_12 ?_
    refine g_aload_n E dX3_fill_13 rfl 0 rfl ?_
    refine g_getfield E dX3_fill_14 0 0 rfl rfl (by decide) iX3 wd_1 rfl rfl ?_
    refine g_iload_n E dX3_fill_17 rfl 1 rfl ?_
    refine g_callSv (n := 4) (As := [.int (iI v), .int (iI 4), .ref bu, .int (iI a)]) (rest := []) (wr := [(x, .inr (3, [.ref bu, .ref ki, .ref sa, .ref sto, .ref pk, .ref rd, .ref ta, .int (iI tn), .int (iI tp)]))]) E dX3_fill_18 (c_X3_putHighestFirst l D cA v 4 a bu 256 B (by omega) (by omega) (by omega)) wd_code_X3_putHighestFirst wd_11 wd_12 wd_13 (by decide +kernel) ⟨⟨rfl, rfl⟩, ⟨(Nat.le_of_ble_eq_true rfl), (Nat.le_of_ble_eq_true rfl)⟩, ⟨(Nat.le_of_ble_eq_true rfl), (Nat.le_of_ble_eq_true rfl)⟩⟩ [1] [0] rfl rfl (by decide) rfl rfl (Nat.le_of_ble_eq_true rfl) (fun w_18 hw_18 => ?_)
    subst hw_18
    refine GG.wss (ws' := [(x, .inr (3, [.ref bu, .ref ki, .ref sa, .ref sto, .ref pk, .ref rd, .ref ta, .int (iI tn), .int (iI tp)])), (bu, aE cA 256 (phf v 4 B a 4))]) [0, 1] (by decide) rfl ?_
    refine g_iconst E dX3_fill_21 ?_
    refine g_ireturn E dX3_fill_22 ?_
    have hc : 0 ≤ a ∧ a ≤ 252 := by omega
    exact ⟨by rw [fillR, if_pos hc], by rw [fillB, if_pos hc]⟩
  · skip
    refine g_bipush E dX3_fill_8 (by decide) ?_
    refine g_ireturn E dX3_fill_10 ?_
    have hc : ¬ (0 ≤ a ∧ a ≤ 252) := by omega
    exact ⟨by rw [fillR, if_neg hc], by rw [fillB, if_neg hc]⟩
set_option maxHeartbeats 4000000 in
set_option maxRecDepth 100000 in
theorem c_X3_run (l : Launch) (D : va_G) (cA : ClassId) (x : Nat) (bu : Nat) (ki : Nat) (sa : Nat) (sto : Nat) (pk : Nat) (rd : Nat) (ta : Nat) (tn : Int) (tp : Int) (B : Int → Int) (a : Int) (n : Int) (b : Int) (ha : iB a) (hn : iB n) (hb : iB b) : Ci l D vwCl cA yX3_run (.code yX3_run cX3_run 5 (some .int) :: UW) ({ frames := 1, cells := 0, slots := 0, locals := 21 }) 0 0 [.ref x, .int (iI a), .int (iI n), .int (iI b)] [(x, .inr (3, [.ref bu, .ref ki, .ref sa, .ref sto, .ref pk, .ref rd, .ref ta, .int (iI tn), .int (iI tp)])), (bu, aE cA 256 B)] (fun (r : Int) (w : va_W) => r = runR a n ∧ w = [(x, .inr (3, [.ref bu, .ref ki, .ref sa, .ref sto, .ref pk, .ref rd, .ref ta, .int (iI tn), .int (iI tp)])), (bu, aE cA 256 (runB B a n b))]) := by
  refine Ci.mk (by decide) (Nat.le_of_ble_eq_true rfl) ?_
  intro p e s m args below meth c A E
  refine GG.lvs (lv' := [(0, .ref x), (1, .int (iI a)), (2, .int (iI n)), (3, .int (iI b))]) [0, 1, 2, 3] rfl ?_
  refine g_iload_n E dX3_run_0 rfl 1 rfl ?_
  refine g_iload_n E dX3_run_1 rfl 2 rfl ?_
  refine g_callS (n := 2) (As := [.int (iI a), .int (iI n)]) (rest := []) (wr := [(x, .inr (3, [.ref bu, .ref ki, .ref sa, .ref sto, .ref pk, .ref rd, .ref ta, .int (iI tn), .int (iI tp)])), (bu, aE cA 256 B)]) E dX3_run_2 (c_X3_liesInBuffer l D cA a n (by omega) (by omega)) wd_code_X3_liesInBuffer wd_8 wd_9 wd_10 (by decide +kernel) ⟨⟨rfl, rfl⟩, ⟨(Nat.le_of_ble_eq_true rfl), (Nat.le_of_ble_eq_true rfl)⟩, ⟨(Nat.le_of_ble_eq_true rfl), (Nat.le_of_ble_eq_true rfl)⟩⟩ [] [0, 1] rfl rfl (by decide) rfl rfl (Nat.le_of_ble_eq_true rfl) (fun z_2 w_2 hw_2 => ?_)
  obtain ⟨h_2, rfl⟩ := hw_2
  refine GG.wss (ws' := [(x, .inr (3, [.ref bu, .ref ki, .ref sa, .ref sto, .ref pk, .ref rd, .ref ta, .int (iI tn), .int (iI tp)])), (bu, aE cA 256 B)]) [0, 1] (by decide) rfl ?_
  refine g_if_ne (tgt := 11) E dX3_run_5 (by decide) ⟨(by omega), (by omega)⟩ (fun c_5 => ?_) (fun c_5 => ?_)
  · skip
    refine g_iload_n E dX3_run_11 rfl 1 rfl ?_
    refine g_istore (lv' := [(4, .int (iI a)), (0, .ref x), (1, .int (iI a)), (2, .int (iI n)), (3, .int (iI b))]) E dX3_run_12 (by decide) rfl ?_
    have L14 : ∀ (fu14 : Nat) (k : Int) (G : Int → Int), a ≤ k ∧ k ≤ a + n → G = rnf B a (k - a) (b % 256) → (a + n - k) < (fu14 : Int) → GG p l e ({ frames := 1, cells := 0, slots := 0, locals := 21 }) s m args below meth c D vwCl A 5 (QI D vwCl cA A below args s 0 0 (fun (r : Int) (w : va_W) => r = runR a n ∧ w = [(x, .inr (3, [.ref bu, .ref ki, .ref sa, .ref sto, .ref pk, .ref rd, .ref ta, .int (iI tn), .int (iI tp)])), (bu, aE cA 256 (runB B a n b))])) 0 0 [(x, .inr (3, [.ref bu, .ref ki, .ref sa, .ref sto, .ref pk, .ref rd, .ref ta, .int (iI tn), .int (iI tp)])), (bu, aE cA 256 G)] [(0, .ref x), (1, .int (iI a)), (2, .int (iI n)), (3, .int (iI b)), (4, .int (iI k))] 14 [] := by
      intro fu14
      induction fu14 with
      | zero => intro k G hk hG hmu14; exfalso; omega
      | succ fu14 ih14 =>
        intro k G hk hG hmu14
        refine g_iload E dX3_run_14 4 rfl ?_
        refine g_iload_n E dX3_run_16 rfl 1 rfl ?_
        refine g_iload_n E dX3_run_17 rfl 2 rfl ?_
        refine g_iadd E dX3_run_18 ?_
        refine g_icmp_ge (tgt := 40) E dX3_run_19 (by decide) ⟨(by omega), (by omega)⟩ ⟨(by omega), (by omega)⟩ (fun c_19 => ?_) (fun c_19 => ?_)
        · skip
          refine g_iconst E dX3_run_40 ?_
          refine g_ireturn E dX3_run_41 ?_
          have hc : 0 ≤ a ∧ a < 256 ∧ 1 ≤ n ∧ n ≤ 256 - a := by omega
          have : k = a + n := by omega
          subst this
          exact ⟨by rw [runR, if_pos hc], by rw [runB, if_pos hc, hG, show a + n - a = n by omega]⟩
        · skip
          refine g_aload_n E dX3_run_22 rfl 0 rfl ?_
          refine g_getfield E dX3_run_23 0 0 rfl rfl (by decide) iX3 wd_1 rfl rfl ?_
          refine g_iload E dX3_run_26 4 rfl ?_
          refine g_iload_n E dX3_run_28 rfl 3 rfl ?_
          refine g_sipush E dX3_run_29 (by decide) ?_
          refine g_iand255 E dX3_run_32 ?_
          refine g_iastore (ws' := [(x, .inr (3, [.ref bu, .ref ki, .ref sa, .ref sto, .ref pk, .ref rd, .ref ta, .int (iI tn), .int (iI tp)])), (bu, aE cA 256 (up G k (b % 256)))]) E dX3_run_33 1 rfl (by omega) (by omega) (by omega) rfl ?_
          refine g_iinc (lv' := [(4, .int (iI (k + 1))), (0, .ref x), (1, .int (iI a)), (2, .int (iI n)), (3, .int (iI b))]) E dX3_run_34 4 rfl (by decide) rfl ?_
          refine g_goto (tgt := 14) E dX3_run_37 (by decide) ?_
          refine GG.lvs (lv' := [(0, .ref x), (1, .int (iI a)), (2, .int (iI n)), (3, .int (iI b)), (4, .int (iI (k + 1)))]) [1, 2, 3, 4, 0] rfl ?_
          exact ih14 (k + 1) (up G k (b % 256)) (by omega) (by exact rnf_s hk.1 hG) (by omega)
    refine GG.lvs (lv' := [(0, .ref x), (1, .int (iI a)), (2, .int (iI n)), (3, .int (iI b)), (4, .int (iI a))]) [1, 2, 3, 4, 0] rfl ?_
    exact L14 ((a + n - a : Int).toNat + 1) a B (by omega) (by exact (rnf_0 ..).symm) (by omega)
  · skip
    refine g_bipush E dX3_run_8 (by decide) ?_
    refine g_ireturn E dX3_run_10 ?_
    have hc : ¬ (0 ≤ a ∧ a < 256 ∧ 1 ≤ n ∧ n ≤ 256 - a) := by omega
    exact ⟨by rw [runR, if_neg hc], by rw [runB, if_neg hc]⟩
set_option maxHeartbeats 4000000 in
set_option maxRecDepth 100000 in
theorem c_X3_copy (l : Launch) (D : va_G) (cA : ClassId) (x : Nat) (bu : Nat) (ki : Nat) (sa : Nat) (sto : Nat) (pk : Nat) (rd : Nat) (ta : Nat) (tn : Int) (tp : Int) (B : Int → Int) (t : Int) (f : Int) (n : Int) (ht : iB t) (hf : iB f) (hn : iB n) : Ci l D vwCl cA yX3_copy (.code yX3_copy cX3_copy 5 (some .int) :: UW) ({ frames := 1, cells := 0, slots := 0, locals := 21 }) 0 0 [.ref x, .int (iI t), .int (iI f), .int (iI n)] [(x, .inr (3, [.ref bu, .ref ki, .ref sa, .ref sto, .ref pk, .ref rd, .ref ta, .int (iI tn), .int (iI tp)])), (bu, aE cA 256 B)] (fun (r : Int) (w : va_W) => r = copyR t f n ∧ w = [(x, .inr (3, [.ref bu, .ref ki, .ref sa, .ref sto, .ref pk, .ref rd, .ref ta, .int (iI tn), .int (iI tp)])), (bu, aE cA 256 (copyB B t f n))]) := by
  refine Ci.mk (by decide) (Nat.le_of_ble_eq_true rfl) ?_
  intro p e s m args below meth c A E
  refine GG.lvs (lv' := [(0, .ref x), (1, .int (iI t)), (2, .int (iI f)), (3, .int (iI n))]) [0, 1, 2, 3] rfl ?_
  refine g_iload_n E dX3_copy_0 rfl 1 rfl ?_
  refine g_iload_n E dX3_copy_1 rfl 3 rfl ?_
  refine g_callS (n := 2) (As := [.int (iI t), .int (iI n)]) (rest := []) (wr := [(x, .inr (3, [.ref bu, .ref ki, .ref sa, .ref sto, .ref pk, .ref rd, .ref ta, .int (iI tn), .int (iI tp)])), (bu, aE cA 256 B)]) E dX3_copy_2 (c_X3_liesInBuffer l D cA t n (by omega) (by omega)) wd_code_X3_liesInBuffer wd_8 wd_9 wd_10 (by decide +kernel) ⟨⟨rfl, rfl⟩, ⟨(Nat.le_of_ble_eq_true rfl), (Nat.le_of_ble_eq_true rfl)⟩, ⟨(Nat.le_of_ble_eq_true rfl), (Nat.le_of_ble_eq_true rfl)⟩⟩ [] [0, 1] rfl rfl (by decide) rfl rfl (Nat.le_of_ble_eq_true rfl) (fun z_2 w_2 hw_2 => ?_)
  obtain ⟨h_2, rfl⟩ := hw_2
  refine GG.wss (ws' := [(x, .inr (3, [.ref bu, .ref ki, .ref sa, .ref sto, .ref pk, .ref rd, .ref ta, .int (iI tn), .int (iI tp)])), (bu, aE cA 256 B)]) [0, 1] (by decide) rfl ?_
  refine g_if_eq (tgt := 16) E dX3_copy_5 (by decide) ⟨(by omega), (by omega)⟩ (fun c_5 => ?_) (fun c_5 => ?_)
  · skip
    refine g_bipush E dX3_copy_16 (by decide) ?_
    refine g_ireturn E dX3_copy_18 ?_
    have hc : ¬ (0 ≤ t ∧ 0 ≤ f ∧ 1 ≤ n ∧ n ≤ 256 - t ∧ n ≤ 256 - f) := by omega
    exact ⟨by rw [copyR, if_neg hc], by rw [copyB, if_neg hc]⟩
  · skip
    refine g_iload_n E dX3_copy_8 rfl 2 rfl ?_
    refine g_iload_n E dX3_copy_9 rfl 3 rfl ?_
    refine g_callS (n := 2) (As := [.int (iI f), .int (iI n)]) (rest := []) (wr := [(x, .inr (3, [.ref bu, .ref ki, .ref sa, .ref sto, .ref pk, .ref rd, .ref ta, .int (iI tn), .int (iI tp)])), (bu, aE cA 256 B)]) E dX3_copy_10 (c_X3_liesInBuffer l D cA f n (by omega) (by omega)) wd_code_X3_liesInBuffer wd_8 wd_9 wd_10 (by decide +kernel) ⟨⟨rfl, rfl⟩, ⟨(Nat.le_of_ble_eq_true rfl), (Nat.le_of_ble_eq_true rfl)⟩, ⟨(Nat.le_of_ble_eq_true rfl), (Nat.le_of_ble_eq_true rfl)⟩⟩ [] [0, 1] rfl rfl (by decide) rfl rfl (Nat.le_of_ble_eq_true rfl) (fun z_10 w_10 hw_10 => ?_)
    obtain ⟨h_10, rfl⟩ := hw_10
    refine GG.wss (ws' := [(x, .inr (3, [.ref bu, .ref ki, .ref sa, .ref sto, .ref pk, .ref rd, .ref ta, .int (iI tn), .int (iI tp)])), (bu, aE cA 256 B)]) [0, 1] (by decide) rfl ?_
    refine g_if_ne (tgt := 19) E dX3_copy_13 (by decide) ⟨(by omega), (by omega)⟩ (fun c_13 => ?_) (fun c_13 => ?_)
    · skip
      refine g_iconst E dX3_copy_19 ?_
      refine g_istore (lv' := [(4, .int (iI 0)), (0, .ref x), (1, .int (iI t)), (2, .int (iI f)), (3, .int (iI n))]) E dX3_copy_20 (by decide) rfl ?_
      have L22 : ∀ (fu22 : Nat) (k : Int) (G : Int → Int), 0 ≤ k ∧ k ≤ n → G = cpk B t f k.toNat → (n - k) < (fu22 : Int) → GG p l e ({ frames := 1, cells := 0, slots := 0, locals := 21 }) s m args below meth c D vwCl A 5 (QI D vwCl cA A below args s 0 0 (fun (r : Int) (w : va_W) => r = copyR t f n ∧ w = [(x, .inr (3, [.ref bu, .ref ki, .ref sa, .ref sto, .ref pk, .ref rd, .ref ta, .int (iI tn), .int (iI tp)])), (bu, aE cA 256 (copyB B t f n))])) 0 0 [(x, .inr (3, [.ref bu, .ref ki, .ref sa, .ref sto, .ref pk, .ref rd, .ref ta, .int (iI tn), .int (iI tp)])), (bu, aE cA 256 G)] [(0, .ref x), (1, .int (iI t)), (2, .int (iI f)), (3, .int (iI n)), (4, .int (iI k))] 22 [] := by
        intro fu22
        induction fu22 with
        | zero => intro k G hk hG hmu22; exfalso; omega
        | succ fu22 ih22 =>
          intro k G hk hG hmu22
          refine g_iload E dX3_copy_22 4 rfl ?_
          refine g_iload_n E dX3_copy_24 rfl 3 rfl ?_
          refine g_icmp_ge (tgt := 52) E dX3_copy_25 (by decide) ⟨(by omega), (by omega)⟩ ⟨(by omega), (by omega)⟩ (fun c_25 => ?_) (fun c_25 => ?_)
          · skip
            refine g_iconst E dX3_copy_52 ?_
            refine g_ireturn E dX3_copy_53 ?_
            have hc : 0 ≤ t ∧ 0 ≤ f ∧ 1 ≤ n ∧ n ≤ 256 - t ∧ n ≤ 256 - f := by omega
            have : k = n := by omega
            subst this
            exact ⟨by rw [copyR, if_pos hc], by rw [copyB, if_pos hc, hG]⟩
          · skip
            refine g_aload_n E dX3_copy_28 rfl 0 rfl ?_
            refine g_getfield E dX3_copy_29 0 0 rfl rfl (by decide) iX3 wd_1 rfl rfl ?_
            refine g_iload_n E dX3_copy_32 rfl 1 rfl ?_
            refine g_iload E dX3_copy_33 4 rfl ?_
            refine g_iadd E dX3_copy_35 ?_
            refine g_aload_n E dX3_copy_36 rfl 0 rfl ?_
            refine g_getfield E dX3_copy_37 0 0 rfl rfl (by decide) iX3 wd_1 rfl rfl ?_
            refine g_iload_n E dX3_copy_40 rfl 2 rfl ?_
            refine g_iload E dX3_copy_41 4 rfl ?_
            refine g_iadd E dX3_copy_43 ?_
            refine g_iaload E dX3_copy_44 1 rfl (by omega) (by omega) (by omega) ?_
            refine g_iastore (ws' := [(x, .inr (3, [.ref bu, .ref ki, .ref sa, .ref sto, .ref pk, .ref rd, .ref ta, .int (iI tn), .int (iI tp)])), (bu, aE cA 256 (up G (t + k) (G (f + k))))]) E dX3_copy_45 1 rfl (by omega) (by omega) (by omega) rfl ?_
            refine g_iinc (lv' := [(4, .int (iI (k + 1))), (0, .ref x), (1, .int (iI t)), (2, .int (iI f)), (3, .int (iI n))]) E dX3_copy_46 4 rfl (by decide) rfl ?_
            refine g_goto (tgt := 22) E dX3_copy_49 (by decide) ?_
            refine GG.lvs (lv' := [(0, .ref x), (1, .int (iI t)), (2, .int (iI f)), (3, .int (iI n)), (4, .int (iI (k + 1)))]) [1, 2, 3, 4, 0] rfl ?_
            exact ih22 (k + 1) (up G (t + k) (G (f + k))) (by omega) (by exact cpk_s hk.1 hG) (by omega)
      refine GG.lvs (lv' := [(0, .ref x), (1, .int (iI t)), (2, .int (iI f)), (3, .int (iI n)), (4, .int (iI 0))]) [1, 2, 3, 4, 0] rfl ?_
      exact L22 ((n - 0 : Int).toNat + 1) 0 B (by omega) (by rfl) (by omega)
    · skip
      refine g_bipush E dX3_copy_16 (by decide) ?_
      refine g_ireturn E dX3_copy_18 ?_
      have hc : ¬ (0 ≤ t ∧ 0 ≤ f ∧ 1 ≤ n ∧ n ≤ 256 - t ∧ n ≤ 256 - f) := by omega
      exact ⟨by rw [copyR, if_neg hc], by rw [copyB, if_neg hc]⟩
set_option maxHeartbeats 4000000 in
set_option maxRecDepth 100000 in
theorem c_X3_type (l : Launch) (D : va_G) (cA : ClassId) (x : Nat) (bu : Nat) (ki : Nat) (sa : Nat) (sto : Nat) (pk : Nat) (rd : Nat) (ta : Nat) (tn : Int) (tp : Int) (TA : Int → Int) (v : Int) (n : Int) (htn : 0 ≤ tn ∧ tn ≤ 600) (hv : iB v) (hn : iB n) : Ci l D vwCl cA yX3_type (.code yX3_type cX3_type 3 (some .int) :: UW) ({ frames := 1, cells := 0, slots := 0, locals := 24 }) 0 0 [.ref x, .int (iI v), .int (iI n)] [(x, .inr (3, [.ref bu, .ref ki, .ref sa, .ref sto, .ref pk, .ref rd, .ref ta, .int (iI tn), .int (iI tp)])), (ta, aE cA 600 TA)] (fun (r : Int) (w : va_W) => r = typeR tn n ∧ w = [(x, .inr (3, [.ref bu, .ref ki, .ref sa, .ref sto, .ref pk, .ref rd, .ref ta, .int (iI (typeN tn n)), .int (iI tp)])), (ta, aE cA 600 (typeT TA tn v n))]) := by
  refine Ci.mk (by decide) (Nat.le_of_ble_eq_true rfl) ?_
  intro p e s m args below meth c A E
  refine GG.lvs (lv' := [(0, .ref x), (1, .int (iI v)), (2, .int (iI n))]) [0, 1, 2] rfl ?_
  refine g_iload_n E dX3_type_0 rfl 2 rfl ?_
  refine g_iconst E dX3_type_1 ?_
  refine g_icmp_lt (tgt := 10) E dX3_type_2 (by decide) ⟨(by omega), (by omega)⟩ ⟨(by omega), (by omega)⟩ (fun c_2 => ?_) (fun c_2 => ?_)
  · skip
    refine g_bipush E dX3_type_10 (by decide) ?_
    refine g_ireturn E dX3_type_12 ?_
    have hc : ¬ (1 ≤ n ∧ n ≤ 4) := by omega
    have hd : ¬ (1 ≤ n ∧ n ≤ 4 ∧ tn + n ≤ 600) := by omega
    exact ⟨by rw [typeR, if_neg hc], by rw [typeN, typeT, if_neg hd, if_neg hd]⟩
  · skip
    refine g_iload_n E dX3_type_5 rfl 2 rfl ?_
    refine g_iconst E dX3_type_6 ?_
    refine g_icmp_le (tgt := 13) E dX3_type_7 (by decide) ⟨(by omega), (by omega)⟩ ⟨(by omega), (by omega)⟩ (fun c_7 => ?_) (fun c_7 => ?_)
    · skip
      refine g_iload_n E dX3_type_13 rfl 2 rfl ?_
      refine g_sipush E dX3_type_14 (by decide) ?_
      refine g_aload_n E dX3_type_17 rfl 0 rfl ?_
      refine g_getfield E dX3_type_18 0 7 rfl rfl (by decide) iX3 wd_14 rfl rfl ?_
      refine g_isub E dX3_type_21 ?_
      refine g_icmp_le (tgt := 28) E dX3_type_22 (by decide) ⟨(by omega), (by omega)⟩ ⟨(by omega), (by omega)⟩ (fun c_22 => ?_) (fun c_22 => ?_)
      · skip
        refine g_iload_n E dX3_type_28 rfl 1 rfl ?_
        refine g_iload_n E dX3_type_29 rfl 2 rfl ?_
        refine g_aload_n E dX3_type_30 rfl 0 rfl ?_
        refine g_getfield E dX3_type_31 0 6 rfl rfl (by decide) iX3 wd_15 rfl rfl ?_
        refine g_aload_n E dX3_type_34 rfl 0 rfl ?_
        refine g_getfield E dX3_type_35 0 7 rfl rfl (by decide) iX3 wd_14 rfl rfl ?_
        refine g_callSv (n := 4) (As := [.int (iI v), .int (iI n), .ref ta, .int (iI tn)]) (rest := []) (wr := [(x, .inr (3, [.ref bu, .ref ki, .ref sa, .ref sto, .ref pk, .ref rd, .ref ta, .int (iI tn), .int (iI tp)]))]) E dX3_type_38 (c_X3_putHighestFirst l D cA v n tn ta 600 TA (by omega) (by omega) (by omega)) wd_code_X3_putHighestFirst wd_11 wd_12 wd_13 (by decide +kernel) ⟨⟨rfl, rfl⟩, ⟨(Nat.le_of_ble_eq_true rfl), (Nat.le_of_ble_eq_true rfl)⟩, ⟨(Nat.le_of_ble_eq_true rfl), (Nat.le_of_ble_eq_true rfl)⟩⟩ [1] [0] rfl rfl (by decide) rfl rfl (Nat.le_of_ble_eq_true rfl) (fun w_38 hw_38 => ?_)
        subst hw_38
        refine GG.wss (ws' := [(x, .inr (3, [.ref bu, .ref ki, .ref sa, .ref sto, .ref pk, .ref rd, .ref ta, .int (iI tn), .int (iI tp)])), (ta, aE cA 600 (phf v n TA tn n))]) [0, 1] (by decide) rfl ?_
        refine g_aload_n E dX3_type_41 rfl 0 rfl ?_
        refine g_dup E dX3_type_42 rfl ?_
        refine g_getfield E dX3_type_43 0 7 rfl rfl (by decide) iX3 wd_14 rfl rfl ?_
        refine g_iload_n E dX3_type_46 rfl 2 rfl ?_
        refine g_iadd E dX3_type_47 ?_
        refine g_putfield (ws' := [(x, .inr (3, [.ref bu, .ref ki, .ref sa, .ref sto, .ref pk, .ref rd, .ref ta, .int (iI (tn + n)), .int (iI tp)])), (ta, aE cA 600 (phf v n TA tn n))]) E dX3_type_48 0 7 rfl rfl (by decide) iX3 tyX3 tyX3_ok nmX3 wd_14 rfl rfl rfl rfl rfl (Nat.le_of_ble_eq_true rfl) rfl ?_
        refine g_aload_n E dX3_type_51 rfl 0 rfl ?_
        refine g_getfield E dX3_type_52 0 7 rfl rfl (by decide) iX3 wd_14 rfl rfl ?_
        refine g_ireturn E dX3_type_55 ?_
        have hc : 1 ≤ n ∧ n ≤ 4 := by omega
        have he : tn + n ≤ 600 := by omega
        have hd : 1 ≤ n ∧ n ≤ 4 ∧ tn + n ≤ 600 := by omega
        exact ⟨by rw [typeR, if_pos hc, if_pos he], by rw [typeN, typeT, if_pos hd, if_pos hd]⟩
      · skip
        refine g_bipush E dX3_type_25 (by decide) ?_
        refine g_ireturn E dX3_type_27 ?_
        have hc : 1 ≤ n ∧ n ≤ 4 := by omega
        have he : ¬ (tn + n ≤ 600) := by omega
        have hd : ¬ (1 ≤ n ∧ n ≤ 4 ∧ tn + n ≤ 600) := by omega
        exact ⟨by rw [typeR, if_pos hc, if_neg he], by rw [typeN, typeT, if_neg hd, if_neg hd]⟩
    · skip
      refine g_bipush E dX3_type_10 (by decide) ?_
      refine g_ireturn E dX3_type_12 ?_
      have hc : ¬ (1 ≤ n ∧ n ≤ 4) := by omega
      have hd : ¬ (1 ≤ n ∧ n ≤ 4 ∧ tn + n ≤ 600) := by omega
      exact ⟨by rw [typeR, if_neg hc], by rw [typeN, typeT, if_neg hd, if_neg hd]⟩
set_option maxHeartbeats 4000000 in
set_option maxRecDepth 100000 in
theorem c_X4_fill (l : Launch) (D : va_G) (cA : ClassId) (y : Nat) (mb : Nat) (ms : Nat) (mm : Nat) (mf : Nat) (mz : Nat) (mt : Nat) (mp : Nat) (mq : Nat) (mo : Nat) (ca : Int) (my : Int) (me : Int) (mn : Int) (mi : Int) (ma : Int) (mu : Int) (mw : Int) (B : Int → Int) (a : Int) (v : Int) (ha : iB a) (hv : iB v) : Ci l D vwCl cA yX4_fill (.code yX4_fill cX4_fill 4 (some .int) :: UW) ({ frames := 1, cells := 0, slots := 0, locals := 22 }) 0 0 [.ref y, .int (iI a), .int (iI v)] [(y, .inr (4, [.int (iI ca), .ref mb, .ref ms, .ref mm, .ref mf, .ref mz, .int (iI my), .ref mt, .int (iI me), .int (iI mn), .ref mp, .int (iI mi), .ref mq, .int (iI ma), .int (iI mu), .ref mo, .int (iI mw)])), (mb, aE cA 256 B)] (fun (r : Int) (w : va_W) => r = fillR a ∧ w = [(y, .inr (4, [.int (iI ca), .ref mb, .ref ms, .ref mm, .ref mf, .ref mz, .int (iI my), .ref mt, .int (iI me), .int (iI mn), .ref mp, .int (iI mi), .ref mq, .int (iI ma), .int (iI mu), .ref mo, .int (iI mw)])), (mb, aE cA 256 (fillB B a v))]) := by
  refine Ci.mk (by decide) (Nat.le_of_ble_eq_true rfl) ?_
  intro p e s m args below meth c A E
  refine GG.lvs (lv' := [(0, .ref y), (1, .int (iI a)), (2, .int (iI v))]) [0, 1, 2] rfl ?_
  refine g_iload_n E dX4_fill_0 rfl 1 rfl ?_
  refine g_iconst E dX4_fill_1 ?_
  refine g_sipush E dX4_fill_2 (by decide) ?_
  refine g_callS (n := 3) (As := [.int (iI a), .int (iI 0), .int (iI 252)]) (rest := []) (wr := [(y, .inr (4, [.int (iI ca), .ref mb, .ref ms, .ref mm, .ref mf, .ref mz, .int (iI my), .ref mt, .int (iI me), .int (iI mn), .ref mp, .int (iI mi), .ref mq, .int (iI ma), .int (iI mu), .ref mo, .int (iI mw)])), (mb, aE cA 256 B)]) E dX4_fill_5 (c_X4_isIn l D cA a 0 252 (by omega) (by omega) (by omega)) wd_code_X4_isIn wd_3 wd_4 wd_5 (by decide +kernel) ⟨⟨rfl, rfl⟩, ⟨(Nat.le_of_ble_eq_true rfl), (Nat.le_of_ble_eq_true rfl)⟩, ⟨(Nat.le_of_ble_eq_true rfl), (Nat.le_of_ble_eq_true rfl)⟩⟩ [] [0, 1] rfl rfl (by decide) rfl rfl (Nat.le_of_ble_eq_true rfl) (fun z_5 w_5 hw_5 => ?_)
  obtain ⟨h_5, rfl⟩ := hw_5
  refine GG.wss (ws' := [(y, .inr (4, [.int (iI ca), .ref mb, .ref ms, .ref mm, .ref mf, .ref mz, .int (iI my), .ref mt, .int (iI me), .int (iI mn), .ref mp, .int (iI mi), .ref mq, .int (iI ma), .int (iI mu), .ref mo, .int (iI mw)])), (mb, aE cA 256 B)]) [0, 1] (by decide) rfl ?_
  refine g_if_ne (tgt := 14) E dX4_fill_8 (by decide) ⟨(by omega), (by omega)⟩ (fun c_8 => ?_) (fun c_8 => ?_)
  · skip
    refine g_iconst E dX4_fill_14 ?_
    refine g_istore_n (lv' := [(3, .int (iI 0)), (0, .ref y), (1, .int (iI a)), (2, .int (iI v))]) E dX4_fill_15 rfl (by decide) rfl ?_
    have L16 : ∀ (fu16 : Nat) (k : Int) (G : Int → Int), 0 ≤ k ∧ k ≤ 4 → G = phf v 4 B a k → (4 - k) < (fu16 : Int) → GG p l e ({ frames := 1, cells := 0, slots := 0, locals := 22 }) s m args below meth c D vwCl A 4 (QI D vwCl cA A below args s 0 0 (fun (r : Int) (w : va_W) => r = fillR a ∧ w = [(y, .inr (4, [.int (iI ca), .ref mb, .ref ms, .ref mm, .ref mf, .ref mz, .int (iI my), .ref mt, .int (iI me), .int (iI mn), .ref mp, .int (iI mi), .ref mq, .int (iI ma), .int (iI mu), .ref mo, .int (iI mw)])), (mb, aE cA 256 (fillB B a v))])) 0 0 [(y, .inr (4, [.int (iI ca), .ref mb, .ref ms, .ref mm, .ref mf, .ref mz, .int (iI my), .ref mt, .int (iI me), .int (iI mn), .ref mp, .int (iI mi), .ref mq, .int (iI ma), .int (iI mu), .ref mo, .int (iI mw)])), (mb, aE cA 256 G)] [(0, .ref y), (1, .int (iI a)), (2, .int (iI v)), (3, .int (iI k))] 16 [] := by
      intro fu16
      induction fu16 with
      | zero => intro k G hk hG hmu16; exfalso; omega
      | succ fu16 ih16 =>
        intro k G hk hG hmu16
        refine g_iload_n E dX4_fill_16 rfl 3 rfl ?_
        refine g_iconst E dX4_fill_17 ?_
        refine g_icmp_ge (tgt := 48) E dX4_fill_18 (by decide) ⟨(by omega), (by omega)⟩ ⟨(by omega), (by omega)⟩ (fun c_18 => ?_) (fun c_18 => ?_)
        · skip
          refine g_iconst E dX4_fill_48 ?_
          refine g_ireturn E dX4_fill_49 ?_
          have hc : 0 ≤ a ∧ a ≤ 252 := by omega
          have : k = 4 := by omega
          subst this
          exact ⟨by rw [fillR, if_pos hc], by rw [fillB, if_pos hc, hG]⟩
        · skip
          refine g_aload_n E dX4_fill_21 rfl 0 rfl ?_
          refine g_getfield E dX4_fill_22 0 1 rfl rfl (by decide) iX4 wd_6 rfl rfl ?_
          refine g_iload_n E dX4_fill_25 rfl 1 rfl ?_
          refine g_iload_n E dX4_fill_26 rfl 3 rfl ?_
          refine g_iadd E dX4_fill_27 ?_
          refine g_iload_n E dX4_fill_28 rfl 2 rfl ?_
          refine g_bipush E dX4_fill_29 (by decide) ?_
          refine g_bipush E dX4_fill_31 (by decide) ?_
          refine g_iload_n E dX4_fill_33 rfl 3 rfl ?_
          refine g_imul E dX4_fill_34 ?_
          refine g_isub E dX4_fill_35 ?_
          refine g_iushr E dX4_fill_36 (by omega) (by omega) ?_
          refine g_sipush E dX4_fill_37 (by decide) ?_
          refine g_iand255 E dX4_fill_40 ?_
          refine g_iastore (ws' := [(y, .inr (4, [.int (iI ca), .ref mb, .ref ms, .ref mm, .ref mf, .ref mz, .int (iI my), .ref mt, .int (iI me), .int (iI mn), .ref mp, .int (iI mi), .ref mq, .int (iI ma), .int (iI mu), .ref mo, .int (iI mw)])), (mb, aE cA 256 (up G (a + k) ((v % 4294967296 / (2 ^ (24 - (8 * k)).toNat : Nat)) % 256)))]) E dX4_fill_41 1 rfl (by omega) (by omega) (by omega) rfl ?_
          refine g_iinc (lv' := [(3, .int (iI (k + 1))), (0, .ref y), (1, .int (iI a)), (2, .int (iI v))]) E dX4_fill_42 3 rfl (by decide) rfl ?_
          refine g_goto (tgt := 16) E dX4_fill_45 (by decide) ?_
          refine GG.lvs (lv' := [(0, .ref y), (1, .int (iI a)), (2, .int (iI v)), (3, .int (iI (k + 1)))]) [1, 2, 3, 0] rfl ?_
          exact ih16 (k + 1) (up G (a + k) ((v % 4294967296 / (2 ^ (24 - (8 * k)).toNat : Nat)) % 256)) (by omega) (by rw [show 24 - 8 * k = 8 * (4 - 1 - k) by omega]; exact phf_s hk.1 hG) (by omega)
    refine GG.lvs (lv' := [(0, .ref y), (1, .int (iI a)), (2, .int (iI v)), (3, .int (iI 0))]) [1, 2, 3, 0] rfl ?_
    exact L16 ((4 - 0 : Int).toNat + 1) 0 B (by omega) (by exact (phf_0 ..).symm) (by omega)
  · skip
    refine g_bipush E dX4_fill_11 (by decide) ?_
    refine g_ireturn E dX4_fill_13 ?_
    have hc : ¬ (0 ≤ a ∧ a ≤ 252) := by omega
    exact ⟨by rw [fillR, if_neg hc], by rw [fillB, if_neg hc]⟩
set_option maxHeartbeats 4000000 in
set_option maxRecDepth 100000 in
theorem c_X4_run (l : Launch) (D : va_G) (cA : ClassId) (y : Nat) (mb : Nat) (ms : Nat) (mm : Nat) (mf : Nat) (mz : Nat) (mt : Nat) (mp : Nat) (mq : Nat) (mo : Nat) (ca : Int) (my : Int) (me : Int) (mn : Int) (mi : Int) (ma : Int) (mu : Int) (mw : Int) (B : Int → Int) (a : Int) (n : Int) (b : Int) (ha : iB a) (hn : iB n) (hb : iB b) : Ci l D vwCl cA yX4_run (.code yX4_run cX4_run 5 (some .int) :: UW) ({ frames := 1, cells := 0, slots := 0, locals := 22 }) 0 0 [.ref y, .int (iI a), .int (iI n), .int (iI b)] [(y, .inr (4, [.int (iI ca), .ref mb, .ref ms, .ref mm, .ref mf, .ref mz, .int (iI my), .ref mt, .int (iI me), .int (iI mn), .ref mp, .int (iI mi), .ref mq, .int (iI ma), .int (iI mu), .ref mo, .int (iI mw)])), (mb, aE cA 256 B)] (fun (r : Int) (w : va_W) => r = runR a n ∧ w = [(y, .inr (4, [.int (iI ca), .ref mb, .ref ms, .ref mm, .ref mf, .ref mz, .int (iI my), .ref mt, .int (iI me), .int (iI mn), .ref mp, .int (iI mi), .ref mq, .int (iI ma), .int (iI mu), .ref mo, .int (iI mw)])), (mb, aE cA 256 (runB B a n b))]) := by
  refine Ci.mk (by decide) (Nat.le_of_ble_eq_true rfl) ?_
  intro p e s m args below meth c A E
  refine GG.lvs (lv' := [(0, .ref y), (1, .int (iI a)), (2, .int (iI n)), (3, .int (iI b))]) [0, 1, 2, 3] rfl ?_
  refine g_iload_n E dX4_run_0 rfl 1 rfl ?_
  refine g_iconst E dX4_run_1 ?_
  refine g_sipush E dX4_run_2 (by decide) ?_
  refine g_callS (n := 3) (As := [.int (iI a), .int (iI 0), .int (iI 255)]) (rest := []) (wr := [(y, .inr (4, [.int (iI ca), .ref mb, .ref ms, .ref mm, .ref mf, .ref mz, .int (iI my), .ref mt, .int (iI me), .int (iI mn), .ref mp, .int (iI mi), .ref mq, .int (iI ma), .int (iI mu), .ref mo, .int (iI mw)])), (mb, aE cA 256 B)]) E dX4_run_5 (c_X4_isIn l D cA a 0 255 (by omega) (by omega) (by omega)) wd_code_X4_isIn wd_3 wd_4 wd_5 (by decide +kernel) ⟨⟨rfl, rfl⟩, ⟨(Nat.le_of_ble_eq_true rfl), (Nat.le_of_ble_eq_true rfl)⟩, ⟨(Nat.le_of_ble_eq_true rfl), (Nat.le_of_ble_eq_true rfl)⟩⟩ [] [0, 1] rfl rfl (by decide) rfl rfl (Nat.le_of_ble_eq_true rfl) (fun z_5 w_5 hw_5 => ?_)
  obtain ⟨h_5, rfl⟩ := hw_5
  refine GG.wss (ws' := [(y, .inr (4, [.int (iI ca), .ref mb, .ref ms, .ref mm, .ref mf, .ref mz, .int (iI my), .ref mt, .int (iI me), .int (iI mn), .ref mp, .int (iI mi), .ref mq, .int (iI ma), .int (iI mu), .ref mo, .int (iI mw)])), (mb, aE cA 256 B)]) [0, 1] (by decide) rfl ?_
  refine g_if_eq (tgt := 24) E dX4_run_8 (by decide) ⟨(by omega), (by omega)⟩ (fun c_8 => ?_) (fun c_8 => ?_)
  · skip
    refine g_bipush E dX4_run_24 (by decide) ?_
    refine g_ireturn E dX4_run_26 ?_
    have hc : ¬ (0 ≤ a ∧ a < 256 ∧ 1 ≤ n ∧ n ≤ 256 - a) := by omega
    exact ⟨by rw [runR, if_neg hc], by rw [runB, if_neg hc]⟩
  · skip
    refine g_iload_n E dX4_run_11 rfl 2 rfl ?_
    refine g_iconst E dX4_run_12 ?_
    refine g_sipush E dX4_run_13 (by decide) ?_
    refine g_iload_n E dX4_run_16 rfl 1 rfl ?_
    refine g_isub E dX4_run_17 ?_
    refine g_callS (n := 3) (As := [.int (iI n), .int (iI 1), .int (iI (256 - a))]) (rest := []) (wr := [(y, .inr (4, [.int (iI ca), .ref mb, .ref ms, .ref mm, .ref mf, .ref mz, .int (iI my), .ref mt, .int (iI me), .int (iI mn), .ref mp, .int (iI mi), .ref mq, .int (iI ma), .int (iI mu), .ref mo, .int (iI mw)])), (mb, aE cA 256 B)]) E dX4_run_18 (c_X4_isIn l D cA n 1 (256 - a) (by omega) (by omega) (by omega)) wd_code_X4_isIn wd_3 wd_4 wd_5 (by decide +kernel) ⟨⟨rfl, rfl⟩, ⟨(Nat.le_of_ble_eq_true rfl), (Nat.le_of_ble_eq_true rfl)⟩, ⟨(Nat.le_of_ble_eq_true rfl), (Nat.le_of_ble_eq_true rfl)⟩⟩ [] [0, 1] rfl rfl (by decide) rfl rfl (Nat.le_of_ble_eq_true rfl) (fun z_18 w_18 hw_18 => ?_)
    obtain ⟨h_18, rfl⟩ := hw_18
    refine GG.wss (ws' := [(y, .inr (4, [.int (iI ca), .ref mb, .ref ms, .ref mm, .ref mf, .ref mz, .int (iI my), .ref mt, .int (iI me), .int (iI mn), .ref mp, .int (iI mi), .ref mq, .int (iI ma), .int (iI mu), .ref mo, .int (iI mw)])), (mb, aE cA 256 B)]) [0, 1] (by decide) rfl ?_
    refine g_if_ne (tgt := 27) E dX4_run_21 (by decide) ⟨(by omega), (by omega)⟩ (fun c_21 => ?_) (fun c_21 => ?_)
    · skip
      refine g_iload_n E dX4_run_27 rfl 1 rfl ?_
      refine g_istore (lv' := [(4, .int (iI a)), (0, .ref y), (1, .int (iI a)), (2, .int (iI n)), (3, .int (iI b))]) E dX4_run_28 (by decide) rfl ?_
      have L30 : ∀ (fu30 : Nat) (k : Int) (G : Int → Int), a ≤ k ∧ k ≤ a + n → G = rnf B a (k - a) (b % 256) → (a + n - k) < (fu30 : Int) → GG p l e ({ frames := 1, cells := 0, slots := 0, locals := 22 }) s m args below meth c D vwCl A 5 (QI D vwCl cA A below args s 0 0 (fun (r : Int) (w : va_W) => r = runR a n ∧ w = [(y, .inr (4, [.int (iI ca), .ref mb, .ref ms, .ref mm, .ref mf, .ref mz, .int (iI my), .ref mt, .int (iI me), .int (iI mn), .ref mp, .int (iI mi), .ref mq, .int (iI ma), .int (iI mu), .ref mo, .int (iI mw)])), (mb, aE cA 256 (runB B a n b))])) 0 0 [(y, .inr (4, [.int (iI ca), .ref mb, .ref ms, .ref mm, .ref mf, .ref mz, .int (iI my), .ref mt, .int (iI me), .int (iI mn), .ref mp, .int (iI mi), .ref mq, .int (iI ma), .int (iI mu), .ref mo, .int (iI mw)])), (mb, aE cA 256 G)] [(0, .ref y), (1, .int (iI a)), (2, .int (iI n)), (3, .int (iI b)), (4, .int (iI k))] 30 [] := by
        intro fu30
        induction fu30 with
        | zero => intro k G hk hG hmu30; exfalso; omega
        | succ fu30 ih30 =>
          intro k G hk hG hmu30
          refine g_iload E dX4_run_30 4 rfl ?_
          refine g_iload_n E dX4_run_32 rfl 1 rfl ?_
          refine g_iload_n E dX4_run_33 rfl 2 rfl ?_
          refine g_iadd E dX4_run_34 ?_
          refine g_icmp_ge (tgt := 56) E dX4_run_35 (by decide) ⟨(by omega), (by omega)⟩ ⟨(by omega), (by omega)⟩ (fun c_35 => ?_) (fun c_35 => ?_)
          · skip
            refine g_iconst E dX4_run_56 ?_
            refine g_ireturn E dX4_run_57 ?_
            have hc : 0 ≤ a ∧ a < 256 ∧ 1 ≤ n ∧ n ≤ 256 - a := by omega
            have : k = a + n := by omega
            subst this
            exact ⟨by rw [runR, if_pos hc], by rw [runB, if_pos hc, hG, show a + n - a = n by omega]⟩
          · skip
            refine g_aload_n E dX4_run_38 rfl 0 rfl ?_
            refine g_getfield E dX4_run_39 0 1 rfl rfl (by decide) iX4 wd_6 rfl rfl ?_
            refine g_iload E dX4_run_42 4 rfl ?_
            refine g_iload_n E dX4_run_44 rfl 3 rfl ?_
            refine g_sipush E dX4_run_45 (by decide) ?_
            refine g_iand255 E dX4_run_48 ?_
            refine g_iastore (ws' := [(y, .inr (4, [.int (iI ca), .ref mb, .ref ms, .ref mm, .ref mf, .ref mz, .int (iI my), .ref mt, .int (iI me), .int (iI mn), .ref mp, .int (iI mi), .ref mq, .int (iI ma), .int (iI mu), .ref mo, .int (iI mw)])), (mb, aE cA 256 (up G k (b % 256)))]) E dX4_run_49 1 rfl (by omega) (by omega) (by omega) rfl ?_
            refine g_iinc (lv' := [(4, .int (iI (k + 1))), (0, .ref y), (1, .int (iI a)), (2, .int (iI n)), (3, .int (iI b))]) E dX4_run_50 4 rfl (by decide) rfl ?_
            refine g_goto (tgt := 30) E dX4_run_53 (by decide) ?_
            refine GG.lvs (lv' := [(0, .ref y), (1, .int (iI a)), (2, .int (iI n)), (3, .int (iI b)), (4, .int (iI (k + 1)))]) [1, 2, 3, 4, 0] rfl ?_
            exact ih30 (k + 1) (up G k (b % 256)) (by omega) (by exact rnf_s hk.1 hG) (by omega)
      refine GG.lvs (lv' := [(0, .ref y), (1, .int (iI a)), (2, .int (iI n)), (3, .int (iI b)), (4, .int (iI a))]) [1, 2, 3, 4, 0] rfl ?_
      exact L30 ((a + n - a : Int).toNat + 1) a B (by omega) (by exact (rnf_0 ..).symm) (by omega)
    · skip
      refine g_bipush E dX4_run_24 (by decide) ?_
      refine g_ireturn E dX4_run_26 ?_
      have hc : ¬ (0 ≤ a ∧ a < 256 ∧ 1 ≤ n ∧ n ≤ 256 - a) := by omega
      exact ⟨by rw [runR, if_neg hc], by rw [runB, if_neg hc]⟩
set_option maxHeartbeats 4000000 in
set_option maxRecDepth 100000 in
theorem c_X4_copy (l : Launch) (D : va_G) (cA : ClassId) (y : Nat) (mb : Nat) (ms : Nat) (mm : Nat) (mf : Nat) (mz : Nat) (mt : Nat) (mp : Nat) (mq : Nat) (mo : Nat) (ca : Int) (my : Int) (me : Int) (mn : Int) (mi : Int) (ma : Int) (mu : Int) (mw : Int) (B : Int → Int) (t : Int) (f : Int) (n : Int) (ht : iB t) (hf : iB f) (hn : iB n) : Ci l D vwCl cA yX4_copy (.code yX4_copy cX4_copy 5 (some .int) :: UW) ({ frames := 1, cells := 0, slots := 0, locals := 22 }) 0 0 [.ref y, .int (iI t), .int (iI f), .int (iI n)] [(y, .inr (4, [.int (iI ca), .ref mb, .ref ms, .ref mm, .ref mf, .ref mz, .int (iI my), .ref mt, .int (iI me), .int (iI mn), .ref mp, .int (iI mi), .ref mq, .int (iI ma), .int (iI mu), .ref mo, .int (iI mw)])), (mb, aE cA 256 B)] (fun (r : Int) (w : va_W) => r = copyR t f n ∧ w = [(y, .inr (4, [.int (iI ca), .ref mb, .ref ms, .ref mm, .ref mf, .ref mz, .int (iI my), .ref mt, .int (iI me), .int (iI mn), .ref mp, .int (iI mi), .ref mq, .int (iI ma), .int (iI mu), .ref mo, .int (iI mw)])), (mb, aE cA 256 (copyB B t f n))]) := by
  refine Ci.mk (by decide) (Nat.le_of_ble_eq_true rfl) ?_
  intro p e s m args below meth c A E
  refine GG.lvs (lv' := [(0, .ref y), (1, .int (iI t)), (2, .int (iI f)), (3, .int (iI n))]) [0, 1, 2, 3] rfl ?_
  refine g_iload_n E dX4_copy_0 rfl 1 rfl ?_
  refine g_iconst E dX4_copy_1 ?_
  refine g_sipush E dX4_copy_2 (by decide) ?_
  refine g_callS (n := 3) (As := [.int (iI t), .int (iI 0), .int (iI 255)]) (rest := []) (wr := [(y, .inr (4, [.int (iI ca), .ref mb, .ref ms, .ref mm, .ref mf, .ref mz, .int (iI my), .ref mt, .int (iI me), .int (iI mn), .ref mp, .int (iI mi), .ref mq, .int (iI ma), .int (iI mu), .ref mo, .int (iI mw)])), (mb, aE cA 256 B)]) E dX4_copy_5 (c_X4_isIn l D cA t 0 255 (by omega) (by omega) (by omega)) wd_code_X4_isIn wd_3 wd_4 wd_5 (by decide +kernel) ⟨⟨rfl, rfl⟩, ⟨(Nat.le_of_ble_eq_true rfl), (Nat.le_of_ble_eq_true rfl)⟩, ⟨(Nat.le_of_ble_eq_true rfl), (Nat.le_of_ble_eq_true rfl)⟩⟩ [] [0, 1] rfl rfl (by decide) rfl rfl (Nat.le_of_ble_eq_true rfl) (fun z_5 w_5 hw_5 => ?_)
  obtain ⟨h_5, rfl⟩ := hw_5
  refine GG.wss (ws' := [(y, .inr (4, [.int (iI ca), .ref mb, .ref ms, .ref mm, .ref mf, .ref mz, .int (iI my), .ref mt, .int (iI me), .int (iI mn), .ref mp, .int (iI mi), .ref mq, .int (iI ma), .int (iI mu), .ref mo, .int (iI mw)])), (mb, aE cA 256 B)]) [0, 1] (by decide) rfl ?_
  refine g_if_eq (tgt := 44) E dX4_copy_8 (by decide) ⟨(by omega), (by omega)⟩ (fun c_8 => ?_) (fun c_8 => ?_)
  · skip
    refine g_bipush E dX4_copy_44 (by decide) ?_
    refine g_ireturn E dX4_copy_46 ?_
    have hc : ¬ (0 ≤ t ∧ 0 ≤ f ∧ 1 ≤ n ∧ n ≤ 256 - t ∧ n ≤ 256 - f) := by omega
    exact ⟨by rw [copyR, if_neg hc], by rw [copyB, if_neg hc]⟩
  · skip
    refine g_iload_n E dX4_copy_11 rfl 2 rfl ?_
    refine g_iconst E dX4_copy_12 ?_
    refine g_sipush E dX4_copy_13 (by decide) ?_
    refine g_callS (n := 3) (As := [.int (iI f), .int (iI 0), .int (iI 255)]) (rest := []) (wr := [(y, .inr (4, [.int (iI ca), .ref mb, .ref ms, .ref mm, .ref mf, .ref mz, .int (iI my), .ref mt, .int (iI me), .int (iI mn), .ref mp, .int (iI mi), .ref mq, .int (iI ma), .int (iI mu), .ref mo, .int (iI mw)])), (mb, aE cA 256 B)]) E dX4_copy_16 (c_X4_isIn l D cA f 0 255 (by omega) (by omega) (by omega)) wd_code_X4_isIn wd_3 wd_4 wd_5 (by decide +kernel) ⟨⟨rfl, rfl⟩, ⟨(Nat.le_of_ble_eq_true rfl), (Nat.le_of_ble_eq_true rfl)⟩, ⟨(Nat.le_of_ble_eq_true rfl), (Nat.le_of_ble_eq_true rfl)⟩⟩ [] [0, 1] rfl rfl (by decide) rfl rfl (Nat.le_of_ble_eq_true rfl) (fun z_16 w_16 hw_16 => ?_)
    obtain ⟨h_16, rfl⟩ := hw_16
    refine GG.wss (ws' := [(y, .inr (4, [.int (iI ca), .ref mb, .ref ms, .ref mm, .ref mf, .ref mz, .int (iI my), .ref mt, .int (iI me), .int (iI mn), .ref mp, .int (iI mi), .ref mq, .int (iI ma), .int (iI mu), .ref mo, .int (iI mw)])), (mb, aE cA 256 B)]) [0, 1] (by decide) rfl ?_
    refine g_if_eq (tgt := 44) E dX4_copy_19 (by decide) ⟨(by omega), (by omega)⟩ (fun c_19 => ?_) (fun c_19 => ?_)
    · skip
      refine g_bipush E dX4_copy_44 (by decide) ?_
      refine g_ireturn E dX4_copy_46 ?_
      have hc : ¬ (0 ≤ t ∧ 0 ≤ f ∧ 1 ≤ n ∧ n ≤ 256 - t ∧ n ≤ 256 - f) := by omega
      exact ⟨by rw [copyR, if_neg hc], by rw [copyB, if_neg hc]⟩
    · skip
      refine g_iload_n E dX4_copy_22 rfl 3 rfl ?_
      refine g_iconst E dX4_copy_23 ?_
      refine g_sipush E dX4_copy_24 (by decide) ?_
      refine g_iload_n E dX4_copy_27 rfl 1 rfl ?_
      refine g_isub E dX4_copy_28 ?_
      refine g_callS (n := 3) (As := [.int (iI n), .int (iI 1), .int (iI (256 - t))]) (rest := []) (wr := [(y, .inr (4, [.int (iI ca), .ref mb, .ref ms, .ref mm, .ref mf, .ref mz, .int (iI my), .ref mt, .int (iI me), .int (iI mn), .ref mp, .int (iI mi), .ref mq, .int (iI ma), .int (iI mu), .ref mo, .int (iI mw)])), (mb, aE cA 256 B)]) E dX4_copy_29 (c_X4_isIn l D cA n 1 (256 - t) (by omega) (by omega) (by omega)) wd_code_X4_isIn wd_3 wd_4 wd_5 (by decide +kernel) ⟨⟨rfl, rfl⟩, ⟨(Nat.le_of_ble_eq_true rfl), (Nat.le_of_ble_eq_true rfl)⟩, ⟨(Nat.le_of_ble_eq_true rfl), (Nat.le_of_ble_eq_true rfl)⟩⟩ [] [0, 1] rfl rfl (by decide) rfl rfl (Nat.le_of_ble_eq_true rfl) (fun z_29 w_29 hw_29 => ?_)
      obtain ⟨h_29, rfl⟩ := hw_29
      refine GG.wss (ws' := [(y, .inr (4, [.int (iI ca), .ref mb, .ref ms, .ref mm, .ref mf, .ref mz, .int (iI my), .ref mt, .int (iI me), .int (iI mn), .ref mp, .int (iI mi), .ref mq, .int (iI ma), .int (iI mu), .ref mo, .int (iI mw)])), (mb, aE cA 256 B)]) [0, 1] (by decide) rfl ?_
      refine g_if_eq (tgt := 44) E dX4_copy_32 (by decide) ⟨(by omega), (by omega)⟩ (fun c_32 => ?_) (fun c_32 => ?_)
      · skip
        refine g_bipush E dX4_copy_44 (by decide) ?_
        refine g_ireturn E dX4_copy_46 ?_
        have hc : ¬ (0 ≤ t ∧ 0 ≤ f ∧ 1 ≤ n ∧ n ≤ 256 - t ∧ n ≤ 256 - f) := by omega
        exact ⟨by rw [copyR, if_neg hc], by rw [copyB, if_neg hc]⟩
      · skip
        refine g_iload_n E dX4_copy_35 rfl 3 rfl ?_
        refine g_sipush E dX4_copy_36 (by decide) ?_
        refine g_iload_n E dX4_copy_39 rfl 2 rfl ?_
        refine g_isub E dX4_copy_40 ?_
        refine g_icmp_le (tgt := 47) E dX4_copy_41 (by decide) ⟨(by omega), (by omega)⟩ ⟨(by omega), (by omega)⟩ (fun c_41 => ?_) (fun c_41 => ?_)
        · skip
          refine g_iconst E dX4_copy_47 ?_
          refine g_istore (lv' := [(4, .int (iI 0)), (0, .ref y), (1, .int (iI t)), (2, .int (iI f)), (3, .int (iI n))]) E dX4_copy_48 (by decide) rfl ?_
          have L50 : ∀ (fu50 : Nat) (k : Int) (G : Int → Int), 0 ≤ k ∧ k ≤ n → G = cpk B t f k.toNat → (n - k) < (fu50 : Int) → GG p l e ({ frames := 1, cells := 0, slots := 0, locals := 22 }) s m args below meth c D vwCl A 5 (QI D vwCl cA A below args s 0 0 (fun (r : Int) (w : va_W) => r = copyR t f n ∧ w = [(y, .inr (4, [.int (iI ca), .ref mb, .ref ms, .ref mm, .ref mf, .ref mz, .int (iI my), .ref mt, .int (iI me), .int (iI mn), .ref mp, .int (iI mi), .ref mq, .int (iI ma), .int (iI mu), .ref mo, .int (iI mw)])), (mb, aE cA 256 (copyB B t f n))])) 0 0 [(y, .inr (4, [.int (iI ca), .ref mb, .ref ms, .ref mm, .ref mf, .ref mz, .int (iI my), .ref mt, .int (iI me), .int (iI mn), .ref mp, .int (iI mi), .ref mq, .int (iI ma), .int (iI mu), .ref mo, .int (iI mw)])), (mb, aE cA 256 G)] [(0, .ref y), (1, .int (iI t)), (2, .int (iI f)), (3, .int (iI n)), (4, .int (iI k))] 50 [] := by
            intro fu50
            induction fu50 with
            | zero => intro k G hk hG hmu50; exfalso; omega
            | succ fu50 ih50 =>
              intro k G hk hG hmu50
              refine g_iload E dX4_copy_50 4 rfl ?_
              refine g_iload_n E dX4_copy_52 rfl 3 rfl ?_
              refine g_icmp_ge (tgt := 80) E dX4_copy_53 (by decide) ⟨(by omega), (by omega)⟩ ⟨(by omega), (by omega)⟩ (fun c_53 => ?_) (fun c_53 => ?_)
              · skip
                refine g_iconst E dX4_copy_80 ?_
                refine g_ireturn E dX4_copy_81 ?_
                have hc : 0 ≤ t ∧ 0 ≤ f ∧ 1 ≤ n ∧ n ≤ 256 - t ∧ n ≤ 256 - f := by omega
                have : k = n := by omega
                subst this
                exact ⟨by rw [copyR, if_pos hc], by rw [copyB, if_pos hc, hG]⟩
              · skip
                refine g_aload_n E dX4_copy_56 rfl 0 rfl ?_
                refine g_getfield E dX4_copy_57 0 1 rfl rfl (by decide) iX4 wd_6 rfl rfl ?_
                refine g_iload_n E dX4_copy_60 rfl 1 rfl ?_
                refine g_iload E dX4_copy_61 4 rfl ?_
                refine g_iadd E dX4_copy_63 ?_
                refine g_aload_n E dX4_copy_64 rfl 0 rfl ?_
                refine g_getfield E dX4_copy_65 0 1 rfl rfl (by decide) iX4 wd_6 rfl rfl ?_
                refine g_iload_n E dX4_copy_68 rfl 2 rfl ?_
                refine g_iload E dX4_copy_69 4 rfl ?_
                refine g_iadd E dX4_copy_71 ?_
                refine g_iaload E dX4_copy_72 1 rfl (by omega) (by omega) (by omega) ?_
                refine g_iastore (ws' := [(y, .inr (4, [.int (iI ca), .ref mb, .ref ms, .ref mm, .ref mf, .ref mz, .int (iI my), .ref mt, .int (iI me), .int (iI mn), .ref mp, .int (iI mi), .ref mq, .int (iI ma), .int (iI mu), .ref mo, .int (iI mw)])), (mb, aE cA 256 (up G (t + k) (G (f + k))))]) E dX4_copy_73 1 rfl (by omega) (by omega) (by omega) rfl ?_
                refine g_iinc (lv' := [(4, .int (iI (k + 1))), (0, .ref y), (1, .int (iI t)), (2, .int (iI f)), (3, .int (iI n))]) E dX4_copy_74 4 rfl (by decide) rfl ?_
                refine g_goto (tgt := 50) E dX4_copy_77 (by decide) ?_
                refine GG.lvs (lv' := [(0, .ref y), (1, .int (iI t)), (2, .int (iI f)), (3, .int (iI n)), (4, .int (iI (k + 1)))]) [1, 2, 3, 4, 0] rfl ?_
                exact ih50 (k + 1) (up G (t + k) (G (f + k))) (by omega) (by exact cpk_s hk.1 hG) (by omega)
          refine GG.lvs (lv' := [(0, .ref y), (1, .int (iI t)), (2, .int (iI f)), (3, .int (iI n)), (4, .int (iI 0))]) [1, 2, 3, 4, 0] rfl ?_
          exact L50 ((n - 0 : Int).toNat + 1) 0 B (by omega) (by rfl) (by omega)
        · skip
          refine g_bipush E dX4_copy_44 (by decide) ?_
          refine g_ireturn E dX4_copy_46 ?_
          have hc : ¬ (0 ≤ t ∧ 0 ≤ f ∧ 1 ≤ n ∧ n ≤ 256 - t ∧ n ≤ 256 - f) := by omega
          exact ⟨by rw [copyR, if_neg hc], by rw [copyB, if_neg hc]⟩
set_option maxHeartbeats 4000000 in
set_option maxRecDepth 100000 in
theorem c_X4_type (l : Launch) (D : va_G) (cA : ClassId) (y : Nat) (mb : Nat) (ms : Nat) (mm : Nat) (mf : Nat) (mz : Nat) (mt : Nat) (mp : Nat) (mq : Nat) (mo : Nat) (ca : Int) (my : Int) (me : Int) (mn : Int) (mi : Int) (ma : Int) (mu : Int) (mw : Int) (TA : Int → Int) (v : Int) (n : Int) (hmy : 0 ≤ my ∧ my ≤ 600) (hv : iB v) (hn : iB n) : Ci l D vwCl cA yX4_type (.code yX4_type cX4_type 4 (some .int) :: UW) ({ frames := 1, cells := 0, slots := 0, locals := 22 }) 0 0 [.ref y, .int (iI v), .int (iI n)] [(y, .inr (4, [.int (iI ca), .ref mb, .ref ms, .ref mm, .ref mf, .ref mz, .int (iI my), .ref mt, .int (iI me), .int (iI mn), .ref mp, .int (iI mi), .ref mq, .int (iI ma), .int (iI mu), .ref mo, .int (iI mw)])), (mt, aE cA 600 TA)] (fun (r : Int) (w : va_W) => r = typeR my n ∧ w = [(y, .inr (4, [.int (iI ca), .ref mb, .ref ms, .ref mm, .ref mf, .ref mz, .int (iI (typeN my n)), .ref mt, .int (iI me), .int (iI mn), .ref mp, .int (iI mi), .ref mq, .int (iI ma), .int (iI mu), .ref mo, .int (iI mw)])), (mt, aE cA 600 (typeT TA my v n))]) := by
  refine Ci.mk (by decide) (Nat.le_of_ble_eq_true rfl) ?_
  intro p e s m args below meth c A E
  refine GG.lvs (lv' := [(0, .ref y), (1, .int (iI v)), (2, .int (iI n))]) [0, 1, 2] rfl ?_
  refine g_iload_n E dX4_type_0 rfl 2 rfl ?_
  refine g_iconst E dX4_type_1 ?_
  refine g_iconst E dX4_type_2 ?_
  refine g_callS (n := 3) (As := [.int (iI n), .int (iI 1), .int (iI 4)]) (rest := []) (wr := [(y, .inr (4, [.int (iI ca), .ref mb, .ref ms, .ref mm, .ref mf, .ref mz, .int (iI my), .ref mt, .int (iI me), .int (iI mn), .ref mp, .int (iI mi), .ref mq, .int (iI ma), .int (iI mu), .ref mo, .int (iI mw)])), (mt, aE cA 600 TA)]) E dX4_type_3 (c_X4_isIn l D cA n 1 4 (by omega) (by omega) (by omega)) wd_code_X4_isIn wd_3 wd_4 wd_5 (by decide +kernel) ⟨⟨rfl, rfl⟩, ⟨(Nat.le_of_ble_eq_true rfl), (Nat.le_of_ble_eq_true rfl)⟩, ⟨(Nat.le_of_ble_eq_true rfl), (Nat.le_of_ble_eq_true rfl)⟩⟩ [] [0, 1] rfl rfl (by decide) rfl rfl (Nat.le_of_ble_eq_true rfl) (fun z_3 w_3 hw_3 => ?_)
  obtain ⟨h_3, rfl⟩ := hw_3
  refine GG.wss (ws' := [(y, .inr (4, [.int (iI ca), .ref mb, .ref ms, .ref mm, .ref mf, .ref mz, .int (iI my), .ref mt, .int (iI me), .int (iI mn), .ref mp, .int (iI mi), .ref mq, .int (iI ma), .int (iI mu), .ref mo, .int (iI mw)])), (mt, aE cA 600 TA)]) [0, 1] (by decide) rfl ?_
  refine g_if_ne (tgt := 12) E dX4_type_6 (by decide) ⟨(by omega), (by omega)⟩ (fun c_6 => ?_) (fun c_6 => ?_)
  · skip
    refine g_aload_n E dX4_type_12 rfl 0 rfl ?_
    refine g_getfield E dX4_type_13 0 6 rfl rfl (by decide) iX4 wd_16 rfl rfl ?_
    refine g_iload_n E dX4_type_16 rfl 2 rfl ?_
    refine g_iadd E dX4_type_17 ?_
    refine g_sipush E dX4_type_18 (by decide) ?_
    refine g_icmp_le (tgt := 27) E dX4_type_21 (by decide) ⟨(by omega), (by omega)⟩ ⟨(by omega), (by omega)⟩ (fun c_21 => ?_) (fun c_21 => ?_)
    · skip
      refine g_iload_n E dX4_type_27 rfl 2 rfl ?_
      refine g_iconst E dX4_type_28 ?_
      refine g_isub E dX4_type_29 ?_
      refine g_istore_n (lv' := [(3, .int (iI (n - 1))), (0, .ref y), (1, .int (iI v)), (2, .int (iI n))]) E dX4_type_30 rfl (by decide) rfl ?_
      have L31 : ∀ (fu31 : Nat) (k : Int) (u : Int) (G : Int → Int), -1 ≤ k ∧ k ≤ n - 1 → u = my + (n - 1 - k) → G = phf v n TA my (n - 1 - k) → (k + 1) < (fu31 : Int) → GG p l e ({ frames := 1, cells := 0, slots := 0, locals := 22 }) s m args below meth c D vwCl A 4 (QI D vwCl cA A below args s 0 0 (fun (r : Int) (w : va_W) => r = typeR my n ∧ w = [(y, .inr (4, [.int (iI ca), .ref mb, .ref ms, .ref mm, .ref mf, .ref mz, .int (iI (typeN my n)), .ref mt, .int (iI me), .int (iI mn), .ref mp, .int (iI mi), .ref mq, .int (iI ma), .int (iI mu), .ref mo, .int (iI mw)])), (mt, aE cA 600 (typeT TA my v n))])) 0 0 [(y, .inr (4, [.int (iI ca), .ref mb, .ref ms, .ref mm, .ref mf, .ref mz, .int (iI u), .ref mt, .int (iI me), .int (iI mn), .ref mp, .int (iI mi), .ref mq, .int (iI ma), .int (iI mu), .ref mo, .int (iI mw)])), (mt, aE cA 600 G)] [(0, .ref y), (1, .int (iI v)), (2, .int (iI n)), (3, .int (iI k))] 31 [] := by
        intro fu31
        induction fu31 with
        | zero => intro k u G hk hu hG hmu31; exfalso; omega
        | succ fu31 ih31 =>
          intro k u G hk hu hG hmu31
          refine g_iload_n E dX4_type_31 rfl 3 rfl ?_
          refine g_if_lt (tgt := 70) E dX4_type_32 (by decide) ⟨(by omega), (by omega)⟩ (fun c_32 => ?_) (fun c_32 => ?_)
          · skip
            refine g_aload_n E dX4_type_70 rfl 0 rfl ?_
            refine g_getfield E dX4_type_71 0 6 rfl rfl (by decide) iX4 wd_16 rfl rfl ?_
            refine g_ireturn E dX4_type_74 ?_
            have hc : 1 ≤ n ∧ n ≤ 4 := by omega
            have he : my + n ≤ 600 := by omega
            have hd : 1 ≤ n ∧ n ≤ 4 ∧ my + n ≤ 600 := by omega
            have : k = -1 := by omega
            subst this
            have hu2 : u = my + n := by omega
            subst hu2
            exact ⟨by rw [typeR, if_pos hc, if_pos he], by rw [typeN, typeT, if_pos hd, if_pos hd, hG, show n - 1 - -1 = n by omega]⟩
          · skip
            refine g_aload_n E dX4_type_35 rfl 0 rfl ?_
            refine g_getfield E dX4_type_36 0 7 rfl rfl (by decide) iX4 wd_17 rfl rfl ?_
            refine g_aload_n E dX4_type_39 rfl 0 rfl ?_
            refine g_getfield E dX4_type_40 0 6 rfl rfl (by decide) iX4 wd_16 rfl rfl ?_
            refine g_iload_n E dX4_type_43 rfl 1 rfl ?_
            refine g_bipush E dX4_type_44 (by decide) ?_
            refine g_iload_n E dX4_type_46 rfl 3 rfl ?_
            refine g_imul E dX4_type_47 ?_
            refine g_iushr E dX4_type_48 (by omega) (by omega) ?_
            refine g_sipush E dX4_type_49 (by decide) ?_
            refine g_iand255 E dX4_type_52 ?_
            refine g_iastore (ws' := [(y, .inr (4, [.int (iI ca), .ref mb, .ref ms, .ref mm, .ref mf, .ref mz, .int (iI u), .ref mt, .int (iI me), .int (iI mn), .ref mp, .int (iI mi), .ref mq, .int (iI ma), .int (iI mu), .ref mo, .int (iI mw)])), (mt, aE cA 600 (up G u ((v % 4294967296 / (2 ^ (8 * k).toNat : Nat)) % 256)))]) E dX4_type_53 1 rfl (by omega) (by omega) (by omega) rfl ?_
            refine g_aload_n E dX4_type_54 rfl 0 rfl ?_
            refine g_dup E dX4_type_55 rfl ?_
            refine g_getfield E dX4_type_56 0 6 rfl rfl (by decide) iX4 wd_16 rfl rfl ?_
            refine g_iconst E dX4_type_59 ?_
            refine g_iadd E dX4_type_60 ?_
            refine g_putfield (ws' := [(y, .inr (4, [.int (iI ca), .ref mb, .ref ms, .ref mm, .ref mf, .ref mz, .int (iI (u + 1)), .ref mt, .int (iI me), .int (iI mn), .ref mp, .int (iI mi), .ref mq, .int (iI ma), .int (iI mu), .ref mo, .int (iI mw)])), (mt, aE cA 600 (up G u ((v % 4294967296 / (2 ^ (8 * k).toNat : Nat)) % 256)))]) E dX4_type_61 0 6 rfl rfl (by decide) iX4 tyX4 tyX4_ok nmX4 wd_16 rfl rfl rfl rfl rfl (Nat.le_of_ble_eq_true rfl) rfl ?_
            refine g_iinc (lv' := [(3, .int (iI (k + (-1)))), (0, .ref y), (1, .int (iI v)), (2, .int (iI n))]) E dX4_type_64 3 rfl (by decide) rfl ?_
            refine g_goto (tgt := 31) E dX4_type_67 (by decide) ?_
            refine GG.lvs (lv' := [(0, .ref y), (1, .int (iI v)), (2, .int (iI n)), (3, .int (iI (k + (-1))))]) [1, 2, 3, 0] rfl ?_
            exact ih31 (k + (-1)) (u + 1) (up G u ((v % 4294967296 / (2 ^ (8 * k).toNat : Nat)) % 256)) (by omega) (by omega) (by rw [hu, show 8 * k = 8 * (n - 1 - (n - 1 - k)) by omega, show n - 1 - (k + (-1)) = (n - 1 - k) + 1 by omega]; exact phf_s (by omega) hG) (by omega)
      refine GG.lvs (lv' := [(0, .ref y), (1, .int (iI v)), (2, .int (iI n)), (3, .int (iI (n - 1)))]) [1, 2, 3, 0] rfl ?_
      exact L31 (((n - 1) + 1 : Int).toNat + 1) (n - 1) my TA (by omega) (by omega) (by rw [show n - 1 - (n - 1) = 0 by omega]; exact (phf_0 ..).symm) (by omega)
    · skip
      refine g_bipush E dX4_type_24 (by decide) ?_
      refine g_ireturn E dX4_type_26 ?_
      have hc : 1 ≤ n ∧ n ≤ 4 := by omega
      have he : ¬ (my + n ≤ 600) := by omega
      have hd : ¬ (1 ≤ n ∧ n ≤ 4 ∧ my + n ≤ 600) := by omega
      exact ⟨by rw [typeR, if_pos hc, if_neg he], by rw [typeN, typeT, if_neg hd, if_neg hd]⟩
  · skip
    refine g_bipush E dX4_type_9 (by decide) ?_
    refine g_ireturn E dX4_type_11 ?_
    have hc : ¬ (1 ≤ n ∧ n ≤ 4) := by omega
    have hd : ¬ (1 ≤ n ∧ n ≤ 4 ∧ my + n ≤ 600) := by omega
    exact ⟨by rw [typeR, if_neg hc], by rw [typeN, typeT, if_neg hd, if_neg hd]⟩
