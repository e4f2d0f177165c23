theorem wd_48 : Cond.fieldLink RX4 32 "PackedSlotsModel" "packed" "[I" ∈ UW := uw (by decide +kernel) rfl
theorem wd_49 : Cond.fieldLink RX4 48 "PackedSlotsModel" "packedSize" "I" ∈ UW := uw (by decide +kernel) rfl
theorem wd_50 : Cond.methodLink RX4 51 yX4_byteOut ∈ UW := uw (by decide +kernel) rfl
theorem wd_51 : Cond.instanceMethod yX4_byteOut ∈ UW := uw (by decide +kernel) rfl
theorem wd_52 : Cond.selects RX4 yX4_byteOut yX4_byteOut ∈ UW := uw (by decide +kernel) rfl
theorem wd_53 : Cond.initialized yX4_byteOut.cls ∈ UW := uw (by decide +kernel) rfl
theorem wd_54 : Cond.methodLink RX4 55 yX4_more ∈ UW := uw (by decide +kernel) rfl
theorem wd_55 : Cond.instanceMethod yX4_more ∈ UW := uw (by decide +kernel) rfl
theorem wd_56 : Cond.selects RX4 yX4_more yX4_more ∈ UW := uw (by decide +kernel) rfl
theorem wd_57 : Cond.initialized yX4_more.cls ∈ UW := uw (by decide +kernel) rfl
theorem wd_58 : Cond.methodLink RX4 62 yX4_sequence ∈ UW := uw (by decide +kernel) rfl
theorem wd_59 : Cond.instanceMethod yX4_sequence ∈ UW := uw (by decide +kernel) rfl
theorem wd_60 : Cond.selects RX4 yX4_sequence yX4_sequence ∈ UW := uw (by decide +kernel) rfl
theorem wd_61 : Cond.initialized yX4_sequence.cls ∈ UW := uw (by decide +kernel) rfl
theorem wd_62 : Cond.methodLink RX4 58 yX4_alike ∈ UW := uw (by decide +kernel) rfl
theorem wd_63 : Cond.instanceMethod yX4_alike ∈ UW := uw (by decide +kernel) rfl
theorem wd_64 : Cond.selects RX4 yX4_alike yX4_alike ∈ UW := uw (by decide +kernel) rfl
theorem wd_65 : Cond.initialized yX4_alike.cls ∈ UW := uw (by decide +kernel) rfl
set_option maxHeartbeats 4000000 in
set_option maxRecDepth 100000 in
theorem c_X4_byteOut (l : Launch) (D : va_G) (cA : ClassId) (y : Nat) (mb : Nat) (ms : Nat) (mm : Nat) (mf : Nat) (mz : Nat) (mt : Nat) (mp : Nat) (mq : Nat) (mo : Nat) (ca : Int) (my : Int) (me : Int) (mi : Int) (ma : Int) (mu : Int) (mw : Int) (W : (Int → Int) × Int) (b : Int) (hW : 0 ≤ W.2 ∧ W.2 < 600) : Cv l D vwCl cA yX4_byteOut (.code yX4_byteOut cX4_byteOut 2 none :: UW) ({ frames := 0, cells := 0, slots := 0, locals := 0 }) 0 0 [.ref y, .int (iI b)] [(y, .inr (4, [.int (iI ca), .ref mb, .ref ms, .ref mm, .ref mf, .ref mz, .int (iI my), .ref mt, .int (iI me), .int (iI W.2), .ref mp, .int (iI mi), .ref mq, .int (iI ma), .int (iI mu), .ref mo, .int (iI mw)])), (mp, aE cA 600 W.1)] (fun (w : va_W) => ∃ (V : (Int → Int) × Int), V = pt W b ∧ V.2 = W.2 + 1 ∧ w = [(y, .inr (4, [.int (iI ca), .ref mb, .ref ms, .ref mm, .ref mf, .ref mz, .int (iI my), .ref mt, .int (iI me), .int (iI V.2), .ref mp, .int (iI mi), .ref mq, .int (iI ma), .int (iI mu), .ref mo, .int (iI mw)])), (mp, aE cA 600 V.1)]) := by
  refine Cv.mk (by decide) (Nat.le_of_ble_eq_true rfl) ?_
  intro p e s m args below meth c A E hin
  refine GG.lvs (lv' := [(0, .ref y), (1, .int (iI b))]) [0, 1] rfl ?_
  refine g_aload_n E dX4_byteOut_0 rfl 0 rfl ?_
  refine g_getfield E dX4_byteOut_1 0 10 rfl rfl (by decide) iX4 wd_48 rfl rfl ?_
  refine g_aload_n E dX4_byteOut_4 rfl 0 rfl ?_
  refine g_getfield E dX4_byteOut_5 0 9 rfl rfl (by decide) iX4 wd_49 rfl rfl ?_
  refine g_iload_n E dX4_byteOut_8 rfl 1 rfl ?_
  refine g_iastore (ws' := [(y, .inr (4, [.int (iI ca), .ref mb, .ref ms, .ref mm, .ref mf, .ref mz, .int (iI my), .ref mt, .int (iI me), .int (iI W.2), .ref mp, .int (iI mi), .ref mq, .int (iI ma), .int (iI mu), .ref mo, .int (iI mw)])), (mp, aE cA 600 (up W.1 W.2 b))]) E dX4_byteOut_9 1 rfl (by omega) (by omega) (by omega) rfl ?_
  refine g_aload_n E dX4_byteOut_10 rfl 0 rfl ?_
  refine g_dup E dX4_byteOut_11 rfl ?_
  refine g_getfield E dX4_byteOut_12 0 9 rfl rfl (by decide) iX4 wd_49 rfl rfl ?_
  refine g_iconst E dX4_byteOut_15 ?_
  refine g_iadd E dX4_byteOut_16 ?_
  refine g_putfield (ws' := [(y, .inr (4, [.int (iI ca), .ref mb, .ref ms, .ref mm, .ref mf, .ref mz, .int (iI my), .ref mt, .int (iI me), .int (iI (W.2 + 1)), .ref mp, .int (iI mi), .ref mq, .int (iI ma), .int (iI mu), .ref mo, .int (iI mw)])), (mp, aE cA 600 (up W.1 W.2 b))]) E dX4_byteOut_17 0 9 rfl rfl (by decide) iX4 tyX4 tyX4_ok nmX4 wd_49 rfl rfl rfl rfl rfl (Nat.le_of_ble_eq_true rfl) rfl ?_
  refine g_return E dX4_byteOut_20 ?_
  exact ⟨pt W b, rfl, rfl, rfl⟩
set_option maxHeartbeats 4000000 in
set_option maxRecDepth 100000 in
theorem c_X4_more (l : Launch) (D : va_G) (cA : ClassId) (y : Nat) (mb : Nat) (ms : Nat) (mm : Nat) (mf : Nat) (mz : Nat) (mt : Nat) (mp : Nat) (mq : Nat) (mo : Nat) (ca : Int) (my : Int) (me : Int) (mi : Int) (ma : Int) (mu : Int) (mw : Int) (W : (Int → Int) × Int) (n : Int) (hW : 0 ≤ W.2 ∧ W.2 < 600) (hn : 0 ≤ n ∧ n ≤ 256) : Cv l D vwCl cA yX4_more (.code yX4_more cX4_more 3 none :: UW) ({ frames := 1, cells := 0, slots := 0, locals := 21 }) 0 0 [.ref y, .int (iI n)] [(y, .inr (4, [.int (iI ca), .ref mb, .ref ms, .ref mm, .ref mf, .ref mz, .int (iI my), .ref mt, .int (iI me), .int (iI W.2), .ref mp, .int (iI mi), .ref mq, .int (iI ma), .int (iI mu), .ref mo, .int (iI mw)])), (mp, aE cA 600 W.1)] (fun (w : va_W) => ∃ (V : (Int → Int) × Int), V = prs W n ∧ ((n < 15 ∧ V.2 = W.2) ∨ (15 ≤ n ∧ V.2 = W.2 + 1)) ∧ w = [(y, .inr (4, [.int (iI ca), .ref mb, .ref ms, .ref mm, .ref mf, .ref mz, .int (iI my), .ref mt, .int (iI me), .int (iI V.2), .ref mp, .int (iI mi), .ref mq, .int (iI ma), .int (iI mu), .ref mo, .int (iI mw)])), (mp, aE cA 600 V.1)]) := by
  refine Cv.mk (by decide) (Nat.le_of_ble_eq_true rfl) ?_
  intro p e s m args below meth c A E hin
  refine GG.lvs (lv' := [(0, .ref y), (1, .int (iI n))]) [0, 1] rfl ?_
  refine g_iload_n E dX4_more_0 rfl 1 rfl ?_
  refine g_bipush E dX4_more_1 (by decide) ?_
  refine g_icmp_ge (tgt := 7) E dX4_more_3 (by decide) ⟨(by omega), (by omega)⟩ ⟨(by omega), (by omega)⟩ (fun c_3 => ?_) (fun c_3 => ?_)
  · skip
    refine g_iload_n E dX4_more_7 rfl 1 rfl ?_
    refine g_bipush E dX4_more_8 (by decide) ?_
    refine g_isub E dX4_more_10 ?_
    refine g_istore_n (lv' := [(2, .int (iI (n - 15))), (0, .ref y), (1, .int (iI n))]) E dX4_more_11 rfl (by decide) rfl ?_
    refine g_iload_n E dX4_more_12 rfl 0 rfl ?_
    refine g_sipush E dX4_more_13 (by decide) ?_
    refine g_icmp_le (tgt := 35) E dX4_more_16 (by decide) ⟨(by omega), (by omega)⟩ ⟨(by omega), (by omega)⟩ (fun c_16 => ?_) (fun c_16 => ?_)
    · skip
      refine g_aload_n E dX4_more_35 rfl 1 rfl ?_
      refine g_iload_n E dX4_more_36 rfl 0 rfl ?_
      refine g_callVv (n := 1) (As := [.int (iI (n - 15))]) (rest := []) (wr := []) E dX4_more_37 (c_X4_byteOut l D cA y mb ms mm mf mz mt mp mq mo ca my me mi ma mu mw W (n - 15) (by omega)) wd_code_X4_byteOut wd_50 wd_51 wd_52 wd_53 (by decide +kernel) ⟨⟨rfl, rfl⟩, ⟨(Nat.le_of_ble_eq_true rfl), (Nat.le_of_ble_eq_true rfl)⟩, ⟨(Nat.le_of_ble_eq_true rfl), (Nat.le_of_ble_eq_true rfl)⟩⟩ [0, 1] [] rfl rfl (by decide) 0 rfl rfl rfl rfl (Nat.le_of_ble_eq_true rfl) (fun w_37 hw_37 => ?_)
      obtain ⟨V_37, hV_37, hV2_37, rfl⟩ := hw_37
      refine GG.wss (ws' := [(y, .inr (4, [.int (iI ca), .ref mb, .ref ms, .ref mm, .ref mf, .ref mz, .int (iI my), .ref mt, .int (iI me), .int (iI V_37.2), .ref mp, .int (iI mi), .ref mq, .int (iI ma), .int (iI mu), .ref mo, .int (iI mw)])), (mp, aE cA 600 V_37.1)]) [0, 1] (by decide) rfl ?_
      refine g_return E dX4_more_40 ?_
      exact ⟨V_37, by rw [prs, if_pos (by omega)]; exact hV_37, by omega, rfl⟩
    · skip
      exfalso; omega
  · skip
    refine g_return E dX4_more_6 ?_
    exact ⟨W, by rw [prs, if_neg (by omega)], by omega, rfl⟩
set_option maxHeartbeats 4000000 in
set_option maxRecDepth 100000 in
theorem c_X4_sequence (l : Launch) (D : va_G) (cA : ClassId) (y : Nat) (mb : Nat) (ms : Nat) (mm : Nat) (mf : Nat) (mz : Nat) (mt : Nat) (mp : Nat) (mq : Nat) (mo : Nat) (ca : Int) (my : Int) (me : Int) (mi : Int) (ma : Int) (mu : Int) (mw : Int) (W : (Int → Int) × Int) (B : Int → Int) (f : Int) (t : Int) (o : Int) (n : Int) (hf : 0 ≤ f ∧ f ≤ t ∧ t ≤ 256) (hW : 0 ≤ W.2 ∧ W.2 + (t - f) + 10 ≤ 600) (ho : 0 ≤ o ∧ o ≤ 256) (hn : n = 0 ∨ (4 ≤ n ∧ n ≤ 256)) (hon : o = 0 ∨ 4 ≤ n) : Cv l D vwCl cA yX4_sequence (.code yX4_sequence cX4_sequence 8 none :: UW) ({ frames := 2, cells := 0, slots := 0, locals := 43 }) 0 0 [.ref y, .int (iI f), .int (iI t), .int (iI o), .int (iI n)] [(y, .inr (4, [.int (iI ca), .ref mb, .ref ms, .ref mm, .ref mf, .ref mz, .int (iI my), .ref mt, .int (iI me), .int (iI W.2), .ref mp, .int (iI mi), .ref mq, .int (iI ma), .int (iI mu), .ref mo, .int (iI mw)])), (mp, aE cA 600 W.1), (mb, aE cA 256 B)] (fun (w : va_W) => ∃ (V : (Int → Int) × Int), ((o = 0 ∧ V = sq B W f t 0) ∨ (o ≠ 0 ∧ V = mtc (sq B W f t (n - 4)) o (n - 4))) ∧ (W.2 + 1 ≤ V.2 ∧ ((o = 0 ∧ V.2 ≤ W.2 + 2 + (t - f)) ∨ (o ≠ 0 ∧ V.2 ≤ W.2 + (t - f) + n))) ∧ w = [(y, .inr (4, [.int (iI ca), .ref mb, .ref ms, .ref mm, .ref mf, .ref mz, .int (iI my), .ref mt, .int (iI me), .int (iI V.2), .ref mp, .int (iI mi), .ref mq, .int (iI ma), .int (iI mu), .ref mo, .int (iI mw)])), (mp, aE cA 600 V.1), (mb, aE cA 256 B)]) := by
  refine Cv.mk (by decide) (Nat.le_of_ble_eq_true rfl) ?_
  intro p e s m args below meth c A E hin
  refine GG.lvs (lv' := [(0, .ref y), (1, .int (iI f)), (2, .int (iI t)), (3, .int (iI o)), (4, .int (iI n))]) [0, 1, 2, 3, 4] rfl ?_
  refine g_iload_n E dX4_sequence_0 rfl 2 rfl ?_
  refine g_iload_n E dX4_sequence_1 rfl 1 rfl ?_
  refine g_isub E dX4_sequence_2 ?_
  refine g_istore (lv' := [(5, .int (iI (t - f))), (0, .ref y), (1, .int (iI f)), (2, .int (iI t)), (3, .int (iI o)), (4, .int (iI n))]) E dX4_sequence_3 (by decide) rfl ?_
  have L19 : ∀ (mr : Int), (o = 0 ∧ mr = 0) ∨ (o ≠ 0 ∧ mr = n - 4) → GG p l e ({ frames := 2, cells := 0, slots := 0, locals := 43 }) s m args below meth c D vwCl A 8 (QV D vwCl cA A below args s 0 0 (fun (w : va_W) => ∃ (V : (Int → Int) × Int), ((o = 0 ∧ V = sq B W f t 0) ∨ (o ≠ 0 ∧ V = mtc (sq B W f t (n - 4)) o (n - 4))) ∧ (W.2 + 1 ≤ V.2 ∧ ((o = 0 ∧ V.2 ≤ W.2 + 2 + (t - f)) ∨ (o ≠ 0 ∧ V.2 ≤ W.2 + (t - f) + n))) ∧ w = [(y, .inr (4, [.int (iI ca), .ref mb, .ref ms, .ref mm, .ref mf, .ref mz, .int (iI my), .ref mt, .int (iI me), .int (iI V.2), .ref mp, .int (iI mi), .ref mq, .int (iI ma), .int (iI mu), .ref mo, .int (iI mw)])), (mp, aE cA 600 V.1), (mb, aE cA 256 B)])) 0 0 [(y, .inr (4, [.int (iI ca), .ref mb, .ref ms, .ref mm, .ref mf, .ref mz, .int (iI my), .ref mt, .int (iI me), .int (iI W.2), .ref mp, .int (iI mi), .ref mq, .int (iI ma), .int (iI mu), .ref mo, .int (iI mw)])), (mp, aE cA 600 W.1), (mb, aE cA 256 B)] [(0, .ref y), (1, .int (iI f)), (2, .int (iI t)), (3, .int (iI o)), (4, .int (iI n)), (5, .int (iI (t - f))), (6, .int (iI mr))] 19 [] := by
    intro mr hmr
    have L52 : ∀ (tok : Int), tok = min (t - f) 15 * 16 + min mr 15 → GG p l e ({ frames := 2, cells := 0, slots := 0, locals := 43 }) s m args below meth c D vwCl A 8 (QV D vwCl cA A below args s 0 0 (fun (w : va_W) => ∃ (V : (Int → Int) × Int), ((o = 0 ∧ V = sq B W f t 0) ∨ (o ≠ 0 ∧ V = mtc (sq B W f t (n - 4)) o (n - 4))) ∧ (W.2 + 1 ≤ V.2 ∧ ((o = 0 ∧ V.2 ≤ W.2 + 2 + (t - f)) ∨ (o ≠ 0 ∧ V.2 ≤ W.2 + (t - f) + n))) ∧ w = [(y, .inr (4, [.int (iI ca), .ref mb, .ref ms, .ref mm, .ref mf, .ref mz, .int (iI my), .ref mt, .int (iI me), .int (iI V.2), .ref mp, .int (iI mi), .ref mq, .int (iI ma), .int (iI mu), .ref mo, .int (iI mw)])), (mp, aE cA 600 V.1), (mb, aE cA 256 B)])) 0 0 [(y, .inr (4, [.int (iI ca), .ref mb, .ref ms, .ref mm, .ref mf, .ref mz, .int (iI my), .ref mt, .int (iI me), .int (iI W.2), .ref mp, .int (iI mi), .ref mq, .int (iI ma), .int (iI mu), .ref mo, .int (iI mw)])), (mp, aE cA 600 W.1), (mb, aE cA 256 B)] [(0, .ref y), (1, .int (iI f)), (2, .int (iI t)), (3, .int (iI o)), (4, .int (iI n)), (5, .int (iI (t - f))), (6, .int (iI mr))] 52 [.int (iI tok), .ref y] := by
      intro tok htok
      refine g_callVv (n := 1) (As := [.int (iI tok)]) (rest := []) (wr := [(mb, aE cA 256 B)]) E dX4_sequence_52 (c_X4_byteOut l D cA y mb ms mm mf mz mt mp mq mo ca my me mi ma mu mw W tok (by omega)) wd_code_X4_byteOut wd_50 wd_51 wd_52 wd_53 (by decide +kernel) ⟨⟨rfl, rfl⟩, ⟨(Nat.le_of_ble_eq_true rfl), (Nat.le_of_ble_eq_true rfl)⟩, ⟨(Nat.le_of_ble_eq_true rfl), (Nat.le_of_ble_eq_true rfl)⟩⟩ [0, 1] [2] rfl rfl (by decide) 0 rfl rfl rfl rfl (Nat.le_of_ble_eq_true rfl) (fun w_52 hw_52 => ?_)
      obtain ⟨V_52, hV_52, hV2_52, rfl⟩ := hw_52
      refine GG.wss (ws' := [(y, .inr (4, [.int (iI ca), .ref mb, .ref ms, .ref mm, .ref mf, .ref mz, .int (iI my), .ref mt, .int (iI me), .int (iI V_52.2), .ref mp, .int (iI mi), .ref mq, .int (iI ma), .int (iI mu), .ref mo, .int (iI mw)])), (mp, aE cA 600 V_52.1), (mb, aE cA 256 B)]) [1, 2, 0] (by decide) rfl ?_
      subst htok
      refine g_aload_n E dX4_sequence_55 rfl 0 rfl ?_
      refine g_iload E dX4_sequence_56 5 rfl ?_
      refine g_callVv (n := 1) (As := [.int (iI (t - f))]) (rest := []) (wr := [(mb, aE cA 256 B)]) E dX4_sequence_58 (c_X4_more l D cA y mb ms mm mf mz mt mp mq mo ca my me mi ma mu mw V_52 (t - f) (by omega) (by omega)) wd_code_X4_more wd_54 wd_55 wd_56 wd_57 (by decide +kernel) ⟨⟨rfl, rfl⟩, ⟨(Nat.le_of_ble_eq_true rfl), (Nat.le_of_ble_eq_true rfl)⟩, ⟨(Nat.le_of_ble_eq_true rfl), (Nat.le_of_ble_eq_true rfl)⟩⟩ [0, 1] [2] rfl rfl (by decide) 0 rfl rfl rfl rfl (Nat.le_of_ble_eq_true rfl) (fun w_58 hw_58 => ?_)
      obtain ⟨V_58, hV_58, hV2_58, rfl⟩ := hw_58
      refine GG.wss (ws' := [(y, .inr (4, [.int (iI ca), .ref mb, .ref ms, .ref mm, .ref mf, .ref mz, .int (iI my), .ref mt, .int (iI me), .int (iI V_58.2), .ref mp, .int (iI mi), .ref mq, .int (iI ma), .int (iI mu), .ref mo, .int (iI mw)])), (mp, aE cA 600 V_58.1), (mb, aE cA 256 B)]) [1, 2, 0] (by decide) rfl ?_
      refine g_iload_n E dX4_sequence_61 rfl 1 rfl ?_
      refine g_istore (lv' := [(7, .int (iI f)), (0, .ref y), (1, .int (iI f)), (2, .int (iI t)), (3, .int (iI o)), (4, .int (iI n)), (5, .int (iI (t - f))), (6, .int (iI mr))]) E dX4_sequence_62 (by decide) rfl ?_
      have L64 : ∀ (fu64 : Nat) (k : Int) (U : (Int → Int) × Int), f ≤ k ∧ k ≤ t → U = lts B V_58 f (k - f).toNat → U.2 = V_58.2 + (k - f) → (t - k) < (fu64 : Int) → GG p l e ({ frames := 2, cells := 0, slots := 0, locals := 43 }) s m args below meth c D vwCl A 8 (QV D vwCl cA A below args s 0 0 (fun (w : va_W) => ∃ (V : (Int → Int) × Int), ((o = 0 ∧ V = sq B W f t 0) ∨ (o ≠ 0 ∧ V = mtc (sq B W f t (n - 4)) o (n - 4))) ∧ (W.2 + 1 ≤ V.2 ∧ ((o = 0 ∧ V.2 ≤ W.2 + 2 + (t - f)) ∨ (o ≠ 0 ∧ V.2 ≤ W.2 + (t - f) + n))) ∧ w = [(y, .inr (4, [.int (iI ca), .ref mb, .ref ms, .ref mm, .ref mf, .ref mz, .int (iI my), .ref mt, .int (iI me), .int (iI V.2), .ref mp, .int (iI mi), .ref mq, .int (iI ma), .int (iI mu), .ref mo, .int (iI mw)])), (mp, aE cA 600 V.1), (mb, aE cA 256 B)])) 0 0 [(y, .inr (4, [.int (iI ca), .ref mb, .ref ms, .ref mm, .ref mf, .ref mz, .int (iI my), .ref mt, .int (iI me), .int (iI U.2), .ref mp, .int (iI mi), .ref mq, .int (iI ma), .int (iI mu), .ref mo, .int (iI mw)])), (mp, aE cA 600 U.1), (mb, aE cA 256 B)] [(0, .ref y), (1, .int (iI f)), (2, .int (iI t)), (3, .int (iI o)), (6, .int (iI mr)), (7, .int (iI k))] 64 [] := by
        intro fu64
        induction fu64 with
        | zero => intro k U hk hU hU2 hmu64; exfalso; omega
        | succ fu64 ih64 =>
          intro k U hk hU hU2 hmu64
          refine g_iload E dX4_sequence_64 5 rfl ?_
          refine g_iload_n E dX4_sequence_66 rfl 2 rfl ?_
          refine g_icmp_ge (tgt := 87) E dX4_sequence_67 (by decide) ⟨(by omega), (by omega)⟩ ⟨(by omega), (by omega)⟩ (fun c_67 => ?_) (fun c_67 => ?_)
          · skip
            have hk2 : k = t := by omega
            subst hk2
            have hsq : U = sq B W f k mr := by rw [hU, hV_58, hV_52]; rfl
            refine g_iload_n E dX4_sequence_87 rfl 3 rfl ?_
            refine g_if_ne (tgt := 92) E dX4_sequence_88 (by decide) ⟨(by omega), (by omega)⟩ (fun c_88 => ?_) (fun c_88 => ?_)
            · skip
              refine g_aload_n E dX4_sequence_92 rfl 0 rfl ?_
              refine g_iload_n E dX4_sequence_93 rfl 3 rfl ?_
              refine g_sipush E dX4_sequence_94 (by decide) ?_
              refine g_irem E dX4_sequence_97 (by omega) (by omega) (by omega) (by omega) ?_
              refine g_callVv (n := 1) (As := [.int (iI (o % 256))]) (rest := []) (wr := [(mb, aE cA 256 B)]) E dX4_sequence_98 (c_X4_byteOut l D cA y mb ms mm mf mz mt mp mq mo ca my me mi ma mu mw U (o % 256) (by omega)) wd_code_X4_byteOut wd_50 wd_51 wd_52 wd_53 (by decide +kernel) ⟨⟨rfl, rfl⟩, ⟨(Nat.le_of_ble_eq_true rfl), (Nat.le_of_ble_eq_true rfl)⟩, ⟨(Nat.le_of_ble_eq_true rfl), (Nat.le_of_ble_eq_true rfl)⟩⟩ [0, 1] [2] rfl rfl (by decide) 0 rfl rfl rfl rfl (Nat.le_of_ble_eq_true rfl) (fun w_98 hw_98 => ?_)
              obtain ⟨V_98, hV_98, hV2_98, rfl⟩ := hw_98
              refine GG.wss (ws' := [(y, .inr (4, [.int (iI ca), .ref mb, .ref ms, .ref mm, .ref mf, .ref mz, .int (iI my), .ref mt, .int (iI me), .int (iI V_98.2), .ref mp, .int (iI mi), .ref mq, .int (iI ma), .int (iI mu), .ref mo, .int (iI mw)])), (mp, aE cA 600 V_98.1), (mb, aE cA 256 B)]) [1, 2, 0] (by decide) rfl ?_
              refine g_aload_n E dX4_sequence_101 rfl 0 rfl ?_
              refine g_iload_n E dX4_sequence_102 rfl 3 rfl ?_
              refine g_sipush E dX4_sequence_103 (by decide) ?_
              refine g_idiv E dX4_sequence_106 (by omega) (by omega) (by omega) (by omega) ?_
              refine g_callVv (n := 1) (As := [.int (iI (o / 256))]) (rest := []) (wr := [(mb, aE cA 256 B)]) E dX4_sequence_107 (c_X4_byteOut l D cA y mb ms mm mf mz mt mp mq mo ca my me mi ma mu mw V_98 (o / 256) (by omega)) wd_code_X4_byteOut wd_50 wd_51 wd_52 wd_53 (by decide +kernel) ⟨⟨rfl, rfl⟩, ⟨(Nat.le_of_ble_eq_true rfl), (Nat.le_of_ble_eq_true rfl)⟩, ⟨(Nat.le_of_ble_eq_true rfl), (Nat.le_of_ble_eq_true rfl)⟩⟩ [0, 1] [2] rfl rfl (by decide) 0 rfl rfl rfl rfl (Nat.le_of_ble_eq_true rfl) (fun w_107 hw_107 => ?_)
              obtain ⟨V_107, hV_107, hV2_107, rfl⟩ := hw_107
              refine GG.wss (ws' := [(y, .inr (4, [.int (iI ca), .ref mb, .ref ms, .ref mm, .ref mf, .ref mz, .int (iI my), .ref mt, .int (iI me), .int (iI V_107.2), .ref mp, .int (iI mi), .ref mq, .int (iI ma), .int (iI mu), .ref mo, .int (iI mw)])), (mp, aE cA 600 V_107.1), (mb, aE cA 256 B)]) [1, 2, 0] (by decide) rfl ?_
              refine g_aload_n E dX4_sequence_110 rfl 0 rfl ?_
              refine g_iload E dX4_sequence_111 4 rfl ?_
              refine g_callVv (n := 1) (As := [.int (iI mr)]) (rest := []) (wr := [(mb, aE cA 256 B)]) E dX4_sequence_113 (c_X4_more l D cA y mb ms mm mf mz mt mp mq mo ca my me mi ma mu mw V_107 mr (by omega) (by omega)) wd_code_X4_more wd_54 wd_55 wd_56 wd_57 (by decide +kernel) ⟨⟨rfl, rfl⟩, ⟨(Nat.le_of_ble_eq_true rfl), (Nat.le_of_ble_eq_true rfl)⟩, ⟨(Nat.le_of_ble_eq_true rfl), (Nat.le_of_ble_eq_true rfl)⟩⟩ [0, 1] [2] rfl rfl (by decide) 0 rfl rfl rfl rfl (Nat.le_of_ble_eq_true rfl) (fun w_113 hw_113 => ?_)
              obtain ⟨V_113, hV_113, hV2_113, rfl⟩ := hw_113
              refine GG.wss (ws' := [(y, .inr (4, [.int (iI ca), .ref mb, .ref ms, .ref mm, .ref mf, .ref mz, .int (iI my), .ref mt, .int (iI me), .int (iI V_113.2), .ref mp, .int (iI mi), .ref mq, .int (iI ma), .int (iI mu), .ref mo, .int (iI mw)])), (mp, aE cA 600 V_113.1), (mb, aE cA 256 B)]) [1, 2, 0] (by decide) rfl ?_
              refine g_return E dX4_sequence_116 ?_
              exact ⟨V_113, Or.inr ⟨c_88, by rw [hV_113, hV_107, hV_98, hsq, show mr = n - 4 by omega]; rfl⟩, by omega, rfl⟩
            · skip
              refine g_return E dX4_sequence_91 ?_
              exact ⟨U, Or.inl ⟨c_88, by rw [hsq, show mr = 0 by omega]⟩, by omega, rfl⟩
          · skip
            refine g_aload_n E dX4_sequence_70 rfl 0 rfl ?_
            refine g_aload_n E dX4_sequence_71 rfl 0 rfl ?_
            refine g_getfield E dX4_sequence_72 0 1 rfl rfl (by decide) iX4 wd_6 rfl rfl ?_
            refine g_iload E dX4_sequence_75 5 rfl ?_
            refine g_iaload E dX4_sequence_77 2 rfl (by omega) (by omega) (by omega) ?_
            refine g_callVv (n := 1) (As := [.int (iI (B k))]) (rest := []) (wr := [(mb, aE cA 256 B)]) E dX4_sequence_78 (c_X4_byteOut l D cA y mb ms mm mf mz mt mp mq mo ca my me mi ma mu mw U (B k) (by omega)) wd_code_X4_byteOut wd_50 wd_51 wd_52 wd_53 (by decide +kernel) ⟨⟨rfl, rfl⟩, ⟨(Nat.le_of_ble_eq_true rfl), (Nat.le_of_ble_eq_true rfl)⟩, ⟨(Nat.le_of_ble_eq_true rfl), (Nat.le_of_ble_eq_true rfl)⟩⟩ [0, 1] [2] rfl rfl (by decide) 0 rfl rfl rfl rfl (Nat.le_of_ble_eq_true rfl) (fun w_78 hw_78 => ?_)
            obtain ⟨V_78, hV_78, hV2_78, rfl⟩ := hw_78
            refine GG.wss (ws' := [(y, .inr (4, [.int (iI ca), .ref mb, .ref ms, .ref mm, .ref mf, .ref mz, .int (iI my), .ref mt, .int (iI me), .int (iI V_78.2), .ref mp, .int (iI mi), .ref mq, .int (iI ma), .int (iI mu), .ref mo, .int (iI mw)])), (mp, aE cA 600 V_78.1), (mb, aE cA 256 B)]) [1, 2, 0] (by decide) rfl ?_
            refine g_iinc (lv' := [(7, .int (iI (k + 1))), (0, .ref y), (1, .int (iI f)), (2, .int (iI t)), (3, .int (iI o)), (6, .int (iI mr))]) E dX4_sequence_81 5 rfl (by decide) rfl ?_
            refine g_goto (tgt := 64) E dX4_sequence_84 (by decide) ?_
            refine GG.lvs (lv' := [(0, .ref y), (1, .int (iI f)), (2, .int (iI t)), (3, .int (iI o)), (6, .int (iI mr)), (7, .int (iI (k + 1)))]) [1, 2, 3, 4, 5, 0] rfl ?_
            exact ih64 (k + 1) V_78 (by omega) (by rw [hV_78, hU, show (k + 1 - f).toNat = (k - f).toNat + 1 by omega]; show _ = pt _ _; rw [show f + (((k - f).toNat : Nat) : Int) = k by omega]) (by omega) (by omega)
      refine GG.lvs (lv' := [(0, .ref y), (1, .int (iI f)), (2, .int (iI t)), (3, .int (iI o)), (6, .int (iI mr)), (7, .int (iI f))]) [1, 2, 3, 4, 7, 0] rfl ?_
      exact L64 ((t - f : Int).toNat + 1) f V_58 (by omega) (by rw [show f - f = 0 by omega]; rfl) (by omega) (by omega)
    refine g_aload_n E dX4_sequence_19 rfl 0 rfl ?_
    refine g_bipush E dX4_sequence_20 (by decide) ?_
    refine g_iload E dX4_sequence_22 5 rfl ?_
    refine g_bipush E dX4_sequence_24 (by decide) ?_
    refine g_icmp_ge (tgt := 34) E dX4_sequence_26 (by decide) ⟨(by omega), (by omega)⟩ ⟨(by omega), (by omega)⟩ (fun c_26 => ?_) (fun c_26 => ?_)
    · skip
      refine g_bipush E dX4_sequence_34 (by decide) ?_
      refine g_imul E dX4_sequence_36 ?_
      refine g_iload E dX4_sequence_37 6 rfl ?_
      refine g_bipush E dX4_sequence_39 (by decide) ?_
      refine g_icmp_ge (tgt := 49) E dX4_sequence_41 (by decide) ⟨(by omega), (by omega)⟩ ⟨(by omega), (by omega)⟩ (fun c_41 => ?_) (fun c_41 => ?_)
      · skip
        refine g_bipush E dX4_sequence_49 (by decide) ?_
        refine g_iadd E dX4_sequence_51 ?_
        refine GG.lvs (lv' := [(0, .ref y), (1, .int (iI f)), (2, .int (iI t)), (3, .int (iI o)), (4, .int (iI n)), (5, .int (iI (t - f))), (6, .int (iI mr))]) [0, 1, 2, 3, 4, 5, 6] rfl ?_
        exact L52 ((16 * 15) + 15) (by omega)
      · skip
        refine g_iload E dX4_sequence_44 6 rfl ?_
        refine g_goto (tgt := 51) E dX4_sequence_46 (by decide) ?_
        refine g_iadd E dX4_sequence_51 ?_
        refine GG.lvs (lv' := [(0, .ref y), (1, .int (iI f)), (2, .int (iI t)), (3, .int (iI o)), (4, .int (iI n)), (5, .int (iI (t - f))), (6, .int (iI mr))]) [0, 1, 2, 3, 4, 5, 6] rfl ?_
        exact L52 ((16 * 15) + mr) (by omega)
    · skip
      refine g_iload E dX4_sequence_29 5 rfl ?_
      refine g_goto (tgt := 36) E dX4_sequence_31 (by decide) ?_
      refine g_imul E dX4_sequence_36 ?_
      refine g_iload E dX4_sequence_37 6 rfl ?_
      refine g_bipush E dX4_sequence_39 (by decide) ?_
      refine g_icmp_ge (tgt := 49) E dX4_sequence_41 (by decide) ⟨(by omega), (by omega)⟩ ⟨(by omega), (by omega)⟩ (fun c_41 => ?_) (fun c_41 => ?_)
      · skip
        refine g_bipush E dX4_sequence_49 (by decide) ?_
        refine g_iadd E dX4_sequence_51 ?_
        refine GG.lvs (lv' := [(0, .ref y), (1, .int (iI f)), (2, .int (iI t)), (3, .int (iI o)), (4, .int (iI n)), (5, .int (iI (t - f))), (6, .int (iI mr))]) [0, 1, 2, 3, 4, 5, 6] rfl ?_
        exact L52 ((16 * (t - f)) + 15) (by omega)
      · skip
        refine g_iload E dX4_sequence_44 6 rfl ?_
        refine g_goto (tgt := 51) E dX4_sequence_46 (by decide) ?_
        refine g_iadd E dX4_sequence_51 ?_
        refine GG.lvs (lv' := [(0, .ref y), (1, .int (iI f)), (2, .int (iI t)), (3, .int (iI o)), (4, .int (iI n)), (5, .int (iI (t - f))), (6, .int (iI mr))]) [0, 1, 2, 3, 4, 5, 6] rfl ?_
        exact L52 ((16 * (t - f)) + mr) (by omega)
  refine g_iload_n E dX4_sequence_5 rfl 4 rfl ?_
  refine g_if_ne (tgt := 13) E dX4_sequence_6 (by decide) ⟨(by omega), (by omega)⟩ (fun c_6 => ?_) (fun c_6 => ?_)
  · skip
    refine g_iload E dX4_sequence_13 5 rfl ?_
    refine g_iconst E dX4_sequence_15 ?_
    refine g_isub E dX4_sequence_16 ?_
    refine g_istore (lv' := [(6, .int (iI (n - 4))), (5, .int (iI (t - f))), (0, .ref y), (1, .int (iI f)), (2, .int (iI t)), (3, .int (iI o)), (4, .int (iI n))]) E dX4_sequence_17 (by decide) rfl ?_
    refine GG.lvs (lv' := [(0, .ref y), (1, .int (iI f)), (2, .int (iI t)), (3, .int (iI o)), (4, .int (iI n)), (5, .int (iI (t - f))), (6, .int (iI (n - 4)))]) [2, 3, 4, 5, 6, 1, 0] rfl ?_
    exact L19 (n - 4) (by omega)
  · skip
    refine g_iconst E dX4_sequence_9 ?_
    refine g_goto (tgt := 17) E dX4_sequence_10 (by decide) ?_
    refine g_istore (lv' := [(6, .int (iI 0)), (5, .int (iI (t - f))), (0, .ref y), (1, .int (iI f)), (2, .int (iI t)), (3, .int (iI o)), (4, .int (iI n))]) E dX4_sequence_17 (by decide) rfl ?_
    refine GG.lvs (lv' := [(0, .ref y), (1, .int (iI f)), (2, .int (iI t)), (3, .int (iI o)), (4, .int (iI n)), (5, .int (iI (t - f))), (6, .int (iI 0))]) [2, 3, 4, 5, 6, 1, 0] rfl ?_
    exact L19 0 (by omega)
set_option maxHeartbeats 4000000 in
set_option maxRecDepth 100000 in
theorem c_X4_pack (l : Launch) (D : va_G) (cA : ClassId) (y : Nat) (mb : Nat) (ms : Nat) (mm : Nat) (mf : Nat) (mz : Nat) (mt : Nat) (mp : Nat) (mq : Nat) (mo : Nat) (ca : Int) (my : Int) (me : Int) (mn : Int) (mi : Int) (ma : Int) (mu : Int) (mw : Int) (PO : Int → Int) (B : Int → Int) (hB : byR 256 B) : Cv l D vwCl cA yX4_pack (.code yX4_pack cX4_pack 7 none :: UW) ({ frames := 3, cells := 0, slots := 0, locals := 70 }) 0 0 [.ref y] [(y, .inr (4, [.int (iI ca), .ref mb, .ref ms, .ref mm, .ref mf, .ref mz, .int (iI my), .ref mt, .int (iI me), .int (iI mn), .ref mp, .int (iI mi), .ref mq, .int (iI ma), .int (iI mu), .ref mo, .int (iI mw)])), (mp, aE cA 600 PO), (mb, aE cA 256 B)] (fun (w : va_W) => ∃ (V : (Int → Int) × Int), V = packF B 300 (PO, 0) 0 0 ∧ (1 ≤ V.2 ∧ V.2 ≤ 258) ∧ w = [(y, .inr (4, [.int (iI ca), .ref mb, .ref ms, .ref mm, .ref mf, .ref mz, .int (iI my), .ref mt, .int (iI me), .int (iI V.2), .ref mp, .int (iI mi), .ref mq, .int (iI ma), .int (iI mu), .ref mo, .int (iI mw)])), (mp, aE cA 600 V.1), (mb, aE cA 256 B)]) := by
  refine Cv.mk (by decide) (Nat.le_of_ble_eq_true rfl) ?_
  intro p e s m args below meth c A E hin
  refine GG.lvs (lv' := [(0, .ref y)]) [0] rfl ?_
  refine g_aload_n E dX4_pack_0 rfl 0 rfl ?_
  refine g_iconst E dX4_pack_1 ?_
  refine g_putfield (ws' := [(y, .inr (4, [.int (iI ca), .ref mb, .ref ms, .ref mm, .ref mf, .ref mz, .int (iI my), .ref mt, .int (iI me), .int (iI 0), .ref mp, .int (iI mi), .ref mq, .int (iI ma), .int (iI mu), .ref mo, .int (iI mw)])), (mp, aE cA 600 PO), (mb, aE cA 256 B)]) E dX4_pack_2 0 9 rfl rfl (by decide) iX4 tyX4 tyX4_ok nmX4 wd_49 rfl rfl rfl rfl rfl (Nat.le_of_ble_eq_true rfl) rfl ?_
  refine g_iconst E dX4_pack_5 ?_
  refine g_istore_n (lv' := [(1, .int (iI 0)), (0, .ref y)]) E dX4_pack_6 rfl (by decide) rfl ?_
  refine g_iconst E dX4_pack_7 ?_
  refine g_istore_n (lv' := [(2, .int (iI 0)), (1, .int (iI 0)), (0, .ref y)]) E dX4_pack_8 rfl (by decide) rfl ?_
  have L9 : ∀ (fu9 : Nat) (f : Int) (i : Int) (U : (Int → Int) × Int), 0 ≤ f ∧ f ≤ i ∧ i ≤ 251 → 0 ≤ U.2 ∧ U.2 ≤ f → (∃ n : Nat, 257 - i ≤ (n : Int) ∧ packF B 300 (PO, 0) 0 0 = packF B n U f i) → (251 - i) < (fu9 : Int) → GG p l e ({ frames := 3, cells := 0, slots := 0, locals := 70 }) s m args below meth c D vwCl A 7 (QV D vwCl cA A below args s 0 0 (fun (w : va_W) => ∃ (V : (Int → Int) × Int), V = packF B 300 (PO, 0) 0 0 ∧ (1 ≤ V.2 ∧ V.2 ≤ 258) ∧ w = [(y, .inr (4, [.int (iI ca), .ref mb, .ref ms, .ref mm, .ref mf, .ref mz, .int (iI my), .ref mt, .int (iI me), .int (iI V.2), .ref mp, .int (iI mi), .ref mq, .int (iI ma), .int (iI mu), .ref mo, .int (iI mw)])), (mp, aE cA 600 V.1), (mb, aE cA 256 B)])) 0 0 [(y, .inr (4, [.int (iI ca), .ref mb, .ref ms, .ref mm, .ref mf, .ref mz, .int (iI my), .ref mt, .int (iI me), .int (iI U.2), .ref mp, .int (iI mi), .ref mq, .int (iI ma), .int (iI mu), .ref mo, .int (iI mw)])), (mp, aE cA 600 U.1), (mb, aE cA 256 B)] [(0, .ref y), (1, .int (iI f)), (2, .int (iI i))] 9 [] := by
    intro fu9
    induction fu9 with
    | zero => intro f i U hf hU2 hF hmu9; exfalso; omega
    | succ fu9 ih9 =>
      intro f i U hf hU2 hF hmu9
      obtain ⟨n0, hn0, hF⟩ := hF
      obtain ⟨n0, rfl⟩ : ∃ k : Nat, n0 = k + 1 := ⟨n0 - 1, by omega⟩
      refine g_iload_n E dX4_pack_9 rfl 2 rfl ?_
      refine g_sipush E dX4_pack_10 (by decide) ?_
      refine g_icmp_gt (tgt := 89) E dX4_pack_13 (by decide) ⟨(by omega), (by omega)⟩ ⟨(by omega), (by omega)⟩ (fun c_13 => ?_) (fun c_13 => ?_)
      · skip
        refine g_aload_n E dX4_pack_89 rfl 0 rfl ?_
        refine g_iload_n E dX4_pack_90 rfl 1 rfl ?_
        refine g_sipush E dX4_pack_91 (by decide) ?_
        refine g_iconst E dX4_pack_94 ?_
        refine g_iconst E dX4_pack_95 ?_
        refine g_callVv (n := 4) (As := [.int (iI f), .int (iI 256), .int (iI 0), .int (iI 0)]) (rest := []) (wr := []) E dX4_pack_96 (c_X4_sequence l D cA y mb ms mm mf mz mt mp mq mo ca my me mi ma mu mw U B f 256 0 0 (by omega) (by omega) (by omega) (by omega) (by omega)) wd_code_X4_sequence wd_58 wd_59 wd_60 wd_61 (by decide +kernel) ⟨⟨rfl, rfl⟩, ⟨(Nat.le_of_ble_eq_true rfl), (Nat.le_of_ble_eq_true rfl)⟩, ⟨(Nat.le_of_ble_eq_true rfl), (Nat.le_of_ble_eq_true rfl)⟩⟩ [0, 1, 2] [] rfl rfl (by decide) 0 rfl rfl rfl rfl (Nat.le_of_ble_eq_true rfl) (fun w_96 hw_96 => ?_)
        obtain ⟨V_96, hV_96, hV2_96, rfl⟩ := hw_96
        refine GG.wss (ws' := [(y, .inr (4, [.int (iI ca), .ref mb, .ref ms, .ref mm, .ref mf, .ref mz, .int (iI my), .ref mt, .int (iI me), .int (iI V_96.2), .ref mp, .int (iI mi), .ref mq, .int (iI ma), .int (iI mu), .ref mo, .int (iI mw)])), (mp, aE cA 600 V_96.1), (mb, aE cA 256 B)]) [0, 1, 2] (by decide) rfl ?_
        have hVe : V_96 = sq B U f 256 0 := hV_96.elim (fun h => h.2) (fun h => absurd rfl h.1)
        refine g_return E dX4_pack_99 ?_
        exact ⟨V_96, by rw [hF, packF_end (by omega)]; exact hVe, by omega, rfl⟩
      · skip
        refine g_iconst E dX4_pack_16 ?_
        refine g_istore_n (lv' := [(3, .int (iI 0)), (0, .ref y), (1, .int (iI f)), (2, .int (iI i))]) E dX4_pack_17 rfl (by decide) rfl ?_
        refine g_iconst E dX4_pack_18 ?_
        refine g_istore (lv' := [(4, .int (iI 0)), (3, .int (iI 0)), (0, .ref y), (1, .int (iI f)), (2, .int (iI i))]) E dX4_pack_19 (by decide) rfl ?_
        refine g_iconst E dX4_pack_21 ?_
        refine g_istore (lv' := [(5, .int (iI 0)), (4, .int (iI 0)), (3, .int (iI 0)), (0, .ref y), (1, .int (iI f)), (2, .int (iI i))]) E dX4_pack_22 (by decide) rfl ?_
        have L24 : ∀ (fu24 : Nat) (k : Int) (bl : Int) (bp : Int), 0 ≤ k ∧ k ≤ i → 0 ≤ bl ∧ bl ≤ 251 → 0 ≤ bp ∧ bp ≤ i → bl = (bsu B i k.toNat).1 → bp = (bsu B i k.toNat).2 → (i - k) < (fu24 : Int) → GG p l e ({ frames := 3, cells := 0, slots := 0, locals := 70 }) s m args below meth c D vwCl A 7 (QV D vwCl cA A below args s 0 0 (fun (w : va_W) => ∃ (V : (Int → Int) × Int), V = packF B 300 (PO, 0) 0 0 ∧ (1 ≤ V.2 ∧ V.2 ≤ 258) ∧ w = [(y, .inr (4, [.int (iI ca), .ref mb, .ref ms, .ref mm, .ref mf, .ref mz, .int (iI my), .ref mt, .int (iI me), .int (iI V.2), .ref mp, .int (iI mi), .ref mq, .int (iI ma), .int (iI mu), .ref mo, .int (iI mw)])), (mp, aE cA 600 V.1), (mb, aE cA 256 B)])) 0 0 [(y, .inr (4, [.int (iI ca), .ref mb, .ref ms, .ref mm, .ref mf, .ref mz, .int (iI my), .ref mt, .int (iI me), .int (iI U.2), .ref mp, .int (iI mi), .ref mq, .int (iI ma), .int (iI mu), .ref mo, .int (iI mw)])), (mp, aE cA 600 U.1), (mb, aE cA 256 B)] [(0, .ref y), (1, .int (iI f)), (2, .int (iI i)), (3, .int (iI bl)), (4, .int (iI bp)), (5, .int (iI k))] 24 [] := by
          intro fu24
          induction fu24 with
          | zero => intro k bl bp hk hbl hbp hb1 hb2 hmu24; exfalso; omega
          | succ fu24 ih24 =>
            intro k bl bp hk hbl hbp hb1 hb2 hmu24
            refine g_iload E dX4_pack_24 5 rfl ?_
            refine g_iload_n E dX4_pack_26 rfl 2 rfl ?_
            refine g_icmp_ge (tgt := 58) E dX4_pack_27 (by decide) ⟨(by omega), (by omega)⟩ ⟨(by omega), (by omega)⟩ (fun c_27 => ?_) (fun c_27 => ?_)
            · skip
              have hk2 : k = i := by omega
              rw [hk2] at hb1 hb2
              have hbs := bsu_b B (i := i) (by omega) (by omega)
              rw [← hb1, ← hb2] at hbs
              refine g_iload_n E dX4_pack_58 rfl 3 rfl ?_
              refine g_iconst E dX4_pack_59 ?_
              refine g_icmp_ge (tgt := 69) E dX4_pack_60 (by decide) ⟨(by omega), (by omega)⟩ ⟨(by omega), (by omega)⟩ (fun c_60 => ?_) (fun c_60 => ?_)
              · skip
                have hbs3 := hbs.2.2 (by omega)
                refine g_aload_n E dX4_pack_69 rfl 0 rfl ?_
                refine g_iload_n E dX4_pack_70 rfl 1 rfl ?_
                refine g_iload_n E dX4_pack_71 rfl 2 rfl ?_
                refine g_iload_n E dX4_pack_72 rfl 2 rfl ?_
                refine g_iload E dX4_pack_73 4 rfl ?_
                refine g_isub E dX4_pack_75 ?_
                refine g_iload_n E dX4_pack_76 rfl 3 rfl ?_
                refine g_callVv (n := 4) (As := [.int (iI f), .int (iI i), .int (iI (i - bp)), .int (iI bl)]) (rest := []) (wr := []) E dX4_pack_77 (c_X4_sequence l D cA y mb ms mm mf mz mt mp mq mo ca my me mi ma mu mw U B f i (i - bp) bl (by omega) (by omega) (by omega) (by omega) (by omega)) wd_code_X4_sequence wd_58 wd_59 wd_60 wd_61 (by decide +kernel) ⟨⟨rfl, rfl⟩, ⟨(Nat.le_of_ble_eq_true rfl), (Nat.le_of_ble_eq_true rfl)⟩, ⟨(Nat.le_of_ble_eq_true rfl), (Nat.le_of_ble_eq_true rfl)⟩⟩ [0, 1, 2] [] rfl rfl (by decide) 0 rfl rfl rfl rfl (Nat.le_of_ble_eq_true rfl) (fun w_77 hw_77 => ?_)
                obtain ⟨V_77, hV_77, hV2_77, rfl⟩ := hw_77
                refine GG.wss (ws' := [(y, .inr (4, [.int (iI ca), .ref mb, .ref ms, .ref mm, .ref mf, .ref mz, .int (iI my), .ref mt, .int (iI me), .int (iI V_77.2), .ref mp, .int (iI mi), .ref mq, .int (iI ma), .int (iI mu), .ref mo, .int (iI mw)])), (mp, aE cA 600 V_77.1), (mb, aE cA 256 B)]) [0, 1, 2] (by decide) rfl ?_
                have hVm : V_77 = mtc (sq B U f i (bl - 4)) (i - bp) (bl - 4) := hV_77.elim (fun h => absurd h.1 (by omega)) (fun h => h.2)
                refine g_iload_n E dX4_pack_80 rfl 2 rfl ?_
                refine g_iload_n E dX4_pack_81 rfl 3 rfl ?_
                refine g_iadd E dX4_pack_82 ?_
                refine g_istore_n (lv' := [(2, .int (iI (i + bl))), (0, .ref y), (1, .int (iI f)), (3, .int (iI bl)), (4, .int (iI bp)), (5, .int (iI k))]) E dX4_pack_83 rfl (by decide) rfl ?_
                refine g_iload_n E dX4_pack_84 rfl 0 rfl ?_
                refine g_istore_n (lv' := [(1, .int (iI (i + bl))), (2, .int (iI (i + bl))), (0, .ref y), (3, .int (iI bl)), (4, .int (iI bp)), (5, .int (iI k))]) E dX4_pack_85 rfl (by decide) rfl ?_
                refine g_goto (tgt := 9) E dX4_pack_86 (by decide) ?_
                refine GG.lvs (lv' := [(0, .ref y), (1, .int (iI (i + bl))), (2, .int (iI (i + bl)))]) [2, 0, 1] rfl ?_
                exact ih9 (i + bl) (i + bl) V_77 (by omega) (by omega) (by first | exact ⟨n0, by omega, by rw [hF, packF_lit (by omega) (by omega)]⟩ | exact ⟨n0, by omega, by rw [hF, packF_mat (by omega) hb1 hb2 (by omega), ← hVm]⟩) (by omega)
              · skip
                refine g_iinc (lv' := [(2, .int (iI (i + 1))), (0, .ref y), (1, .int (iI f)), (3, .int (iI bl)), (4, .int (iI bp)), (5, .int (iI k))]) E dX4_pack_63 2 rfl (by decide) rfl ?_
                refine g_goto (tgt := 86) E dX4_pack_66 (by decide) ?_
                refine g_goto (tgt := 9) E dX4_pack_86 (by decide) ?_
                refine GG.lvs (lv' := [(0, .ref y), (1, .int (iI f)), (2, .int (iI (i + 1)))]) [1, 2, 0] rfl ?_
                exact ih9 f (i + 1) U (by omega) (by omega) (by first | exact ⟨n0, by omega, by rw [hF, packF_lit (by omega) (by omega)]⟩ | exact ⟨n0, by omega, by rw [hF, packF_mat (by omega) hb1 hb2 (by omega), ← hVm]⟩) (by omega)
            · skip
              refine g_aload_n E dX4_pack_30 rfl 0 rfl ?_
              refine g_iload E dX4_pack_31 5 rfl ?_
              refine g_iload_n E dX4_pack_33 rfl 2 rfl ?_
              refine g_callV (n := 2) (As := [.int (iI k), .int (iI i)]) (rest := []) (wr := [(mp, aE cA 600 U.1)]) E dX4_pack_34 (c_X4_alike l D cA y mb ms mm mf mz mt mp mq mo ca my me U.2 mi ma mu mw B k i (by omega) (by omega)) wd_code_X4_alike wd_62 wd_63 wd_64 wd_65 (by decide +kernel) ⟨⟨rfl, rfl⟩, ⟨(Nat.le_of_ble_eq_true rfl), (Nat.le_of_ble_eq_true rfl)⟩, ⟨(Nat.le_of_ble_eq_true rfl), (Nat.le_of_ble_eq_true rfl)⟩⟩ [0, 2] [1] rfl rfl (by decide) 0 rfl rfl rfl rfl (Nat.le_of_ble_eq_true rfl) (fun z_34 w_34 hw_34 => ?_)
              obtain ⟨hr_34, rfl⟩ := hw_34
              subst hr_34
              refine GG.wss (ws' := [(y, .inr (4, [.int (iI ca), .ref mb, .ref ms, .ref mm, .ref mf, .ref mz, .int (iI my), .ref mt, .int (iI me), .int (iI U.2), .ref mp, .int (iI mi), .ref mq, .int (iI ma), .int (iI mu), .ref mo, .int (iI mw)])), (mp, aE cA 600 U.1), (mb, aE cA 256 B)]) [1, 0, 2] (by decide) rfl ?_
              have hml := mlen_b (B := B) (j := k) (i := i) (by omega)
              refine g_istore (lv' := [(6, .int (iI (mlen B k i))), (0, .ref y), (1, .int (iI f)), (2, .int (iI i)), (3, .int (iI bl)), (4, .int (iI bp)), (5, .int (iI k))]) E dX4_pack_37 (by decide) rfl ?_
              refine g_iload E dX4_pack_39 0 rfl ?_
              refine g_iload_n E dX4_pack_41 rfl 4 rfl ?_
              refine g_icmp_lt (tgt := 52) E dX4_pack_42 (by decide) ⟨(by omega), (by omega)⟩ ⟨(by omega), (by omega)⟩ (fun c_42 => ?_) (fun c_42 => ?_)
              · skip
                refine g_iinc (lv' := [(5, .int (iI (k + 1))), (6, .int (iI (mlen B k i))), (0, .ref y), (1, .int (iI f)), (2, .int (iI i)), (3, .int (iI bl)), (4, .int (iI bp))]) E dX4_pack_52 6 rfl (by decide) rfl ?_
                refine g_goto (tgt := 24) E dX4_pack_55 (by decide) ?_
                refine GG.lvs (lv' := [(0, .ref y), (1, .int (iI f)), (2, .int (iI i)), (3, .int (iI bl)), (4, .int (iI bp)), (5, .int (iI (k + 1)))]) [2, 3, 4, 5, 6, 0] rfl ?_
                exact ih24 (k + 1) bl bp (by omega) (by omega) (by omega) (by rw [show (k + 1).toNat = k.toNat + 1 by omega]; show _ = (if _ then _ else _ : Int × Int).1; rw [show ((k.toNat : Nat) : Int) = k by omega, ← hb1]; first | rw [if_pos (by omega)] | (rw [if_neg (by omega)]; exact hb1)) (by rw [show (k + 1).toNat = k.toNat + 1 by omega]; show _ = (if _ then _ else _ : Int × Int).2; rw [show ((k.toNat : Nat) : Int) = k by omega, ← hb1]; first | rw [if_pos (by omega)] | (rw [if_neg (by omega)]; exact hb2)) (by omega)
              · skip
                refine g_iload E dX4_pack_45 0 rfl ?_
                refine g_istore_n (lv' := [(3, .int (iI (mlen B k i))), (6, .int (iI (mlen B k i))), (0, .ref y), (1, .int (iI f)), (2, .int (iI i)), (4, .int (iI bp)), (5, .int (iI k))]) E dX4_pack_47 rfl (by decide) rfl ?_
                refine g_iload E dX4_pack_48 6 rfl ?_
                refine g_istore (lv' := [(4, .int (iI k)), (3, .int (iI (mlen B k i))), (6, .int (iI (mlen B k i))), (0, .ref y), (1, .int (iI f)), (2, .int (iI i)), (5, .int (iI k))]) E dX4_pack_50 (by decide) rfl ?_
                refine g_iinc (lv' := [(5, .int (iI (k + 1))), (4, .int (iI k)), (3, .int (iI (mlen B k i))), (6, .int (iI (mlen B k i))), (0, .ref y), (1, .int (iI f)), (2, .int (iI i))]) E dX4_pack_52 6 rfl (by decide) rfl ?_
                refine g_goto (tgt := 24) E dX4_pack_55 (by decide) ?_
                refine GG.lvs (lv' := [(0, .ref y), (1, .int (iI f)), (2, .int (iI i)), (3, .int (iI (mlen B k i))), (4, .int (iI k)), (5, .int (iI (k + 1)))]) [4, 5, 6, 2, 1, 0] rfl ?_
                exact ih24 (k + 1) (mlen B k i) k (by omega) (by omega) (by omega) (by rw [show (k + 1).toNat = k.toNat + 1 by omega]; show _ = (if _ then _ else _ : Int × Int).1; rw [show ((k.toNat : Nat) : Int) = k by omega, ← hb1]; first | rw [if_pos (by omega)] | (rw [if_neg (by omega)]; exact hb1)) (by rw [show (k + 1).toNat = k.toNat + 1 by omega]; show _ = (if _ then _ else _ : Int × Int).2; rw [show ((k.toNat : Nat) : Int) = k by omega, ← hb1]; first | rw [if_pos (by omega)] | (rw [if_neg (by omega)]; exact hb2)) (by omega)
        refine GG.lvs (lv' := [(0, .ref y), (1, .int (iI f)), (2, .int (iI i)), (3, .int (iI 0)), (4, .int (iI 0)), (5, .int (iI 0))]) [3, 4, 5, 2, 1, 0] rfl ?_
        exact L24 ((i - 0 : Int).toNat + 1) 0 0 0 (by omega) (by omega) (by omega) (by rfl) (by rfl) (by omega)
  refine GG.lvs (lv' := [(0, .ref y), (1, .int (iI 0)), (2, .int (iI 0))]) [2, 1, 0] rfl ?_
  exact L9 ((251 - 0 : Int).toNat + 1) 0 0 (PO, 0) (by omega) (by show 0 ≤ (0 : Int) ∧ (0 : Int) ≤ 0; omega) (by exact ⟨300, by omega, rfl⟩) (by omega)
