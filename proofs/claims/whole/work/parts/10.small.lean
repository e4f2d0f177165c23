theorem wd_1 : Cond.fieldLink RX3 9 "PackedSlots" "buffer" "[I" ∈ UW := uw (by decide +kernel) rfl
theorem wd_2 : Cond.fieldLink RX3 40 "PackedSlots" "toldPlace" "I" ∈ UW := uw (by decide +kernel) rfl
theorem wd_3 : Cond.methodLink RX4 44 yX4_isIn ∈ UW := uw (by decide +kernel) rfl
theorem wd_4 : Cond.static yX4_isIn ∈ UW := uw (by decide +kernel) rfl
theorem wd_5 : Cond.initialized yX4_isIn.cls ∈ UW := uw (by decide +kernel) rfl
theorem wd_6 : Cond.fieldLink RX4 7 "PackedSlotsModel" "buffer" "[I" ∈ UW := uw (by decide +kernel) rfl
theorem wd_7 : Cond.fieldLink RX4 28 "PackedSlotsModel" "errorPlace" "I" ∈ UW := uw (by decide +kernel) rfl

set_option maxHeartbeats 4000000 in
set_option maxRecDepth 100000 in
/-- isBlock -/
theorem c_X3_isBlock (l : Launch) (D : va_G) (cA : ClassId) (b : Int) (hb : iB b) : Ci l D vwCl cA yX3_isBlock (.code yX3_isBlock cX3_isBlock 1 (some .boolean) :: UW) ({ frames := 0, cells := 0, slots := 0, locals := 0 }) 0 0 [.int (iI b)] [] (fun (r : Int) (w : va_W) => ((r = 1 ∧ 0 ≤ b ∧ b < 32) ∨ (r = 0 ∧ (b < 0 ∨ 32 ≤ b))) ∧ w = []) := by
  refine Ci.mk (by decide) (Nat.le_of_ble_eq_true rfl) ?_
  intro p e s m args below meth c A E
  refine GG.lvs (lv' := [(0, .int (iI b))]) [0] rfl ?_
  refine g_iload_n E dX3_isBlock_0 rfl 0 rfl ?_
  refine g_if_lt (tgt := 14) E dX3_isBlock_1 (by decide) ⟨(by omega), (by omega)⟩ (fun c_1 => ?_) (fun c_1 => ?_)
  · skip
    refine g_iconst E dX3_isBlock_14 ?_
    refine g_zreturn E dX3_isBlock_15 (by omega) ?_
    exact ⟨by omega, rfl⟩
  · skip
    refine g_iload_n E dX3_isBlock_4 rfl 0 rfl ?_
    refine g_bipush E dX3_isBlock_5 (by decide) ?_
    refine g_icmp_ge (tgt := 14) E dX3_isBlock_7 (by decide) ⟨(by omega), (by omega)⟩ ⟨(by omega), (by omega)⟩ (fun c_7 => ?_) (fun c_7 => ?_)
    · skip
      refine g_iconst E dX3_isBlock_14 ?_
      refine g_zreturn E dX3_isBlock_15 (by omega) ?_
      exact ⟨by omega, rfl⟩
    · skip
      refine g_iconst E dX3_isBlock_10 ?_
      refine g_goto (tgt := 15) E dX3_isBlock_11 (by decide) ?_
      refine g_zreturn E dX3_isBlock_15 (by omega) ?_
      exact ⟨by omega, rfl⟩
set_option maxHeartbeats 4000000 in
set_option maxRecDepth 100000 in
theorem c_X3_liesInBuffer (l : Launch) (D : va_G) (cA : ClassId) (a : Int) (n : Int) (ha : iB a) (hn : iB n) : Ci l D vwCl cA yX3_liesInBuffer (.code yX3_liesInBuffer cX3_liesInBuffer 2 (some .boolean) :: UW) ({ frames := 0, cells := 0, slots := 0, locals := 0 }) 0 0 [.int (iI a), .int (iI n)] [] (fun (r : Int) (w : va_W) => ((r = 1 ∧ 0 ≤ a ∧ a < 256 ∧ 1 ≤ n ∧ n ≤ 256 - a) ∨ (r = 0 ∧ (a < 0 ∨ 256 ≤ a ∨ n < 1 ∨ 256 - a < n))) ∧ w = []) := by
  refine Ci.mk (by decide) (Nat.le_of_ble_eq_true rfl) ?_
  intro p e s m args below meth c A E
  refine GG.lvs (lv' := [(0, .int (iI a)), (1, .int (iI n))]) [0, 1] rfl ?_
  refine g_iload_n E dX3_liesInBuffer_0 rfl 0 rfl ?_
  refine g_if_lt (tgt := 29) E dX3_liesInBuffer_1 (by decide) ⟨(by omega), (by omega)⟩ (fun c_1 => ?_) (fun c_1 => ?_)
  · skip
    refine g_iconst E dX3_liesInBuffer_29 ?_
    refine g_zreturn E dX3_liesInBuffer_30 (by omega) ?_
    exact ⟨by omega, rfl⟩
  · skip
    refine g_iload_n E dX3_liesInBuffer_4 rfl 0 rfl ?_
    refine g_sipush E dX3_liesInBuffer_5 (by decide) ?_
    refine g_icmp_ge (tgt := 29) E dX3_liesInBuffer_8 (by decide) ⟨(by omega), (by omega)⟩ ⟨(by omega), (by omega)⟩ (fun c_8 => ?_) (fun c_8 => ?_)
    · skip
      refine g_iconst E dX3_liesInBuffer_29 ?_
      refine g_zreturn E dX3_liesInBuffer_30 (by omega) ?_
      exact ⟨by omega, rfl⟩
    · skip
      refine g_iload_n E dX3_liesInBuffer_11 rfl 1 rfl ?_
      refine g_iconst E dX3_liesInBuffer_12 ?_
      refine g_icmp_lt (tgt := 29) E dX3_liesInBuffer_13 (by decide) ⟨(by omega), (by omega)⟩ ⟨(by omega), (by omega)⟩ (fun c_13 => ?_) (fun c_13 => ?_)
      · skip
        refine g_iconst E dX3_liesInBuffer_29 ?_
        refine g_zreturn E dX3_liesInBuffer_30 (by omega) ?_
        exact ⟨by omega, rfl⟩
      · skip
        refine g_iload_n E dX3_liesInBuffer_16 rfl 1 rfl ?_
        refine g_sipush E dX3_liesInBuffer_17 (by decide) ?_
        refine g_iload_n E dX3_liesInBuffer_20 rfl 0 rfl ?_
        refine g_isub E dX3_liesInBuffer_21 ?_
        refine g_icmp_gt (tgt := 29) E dX3_liesInBuffer_22 (by decide) ⟨(by omega), (by omega)⟩ ⟨(by omega), (by omega)⟩ (fun c_22 => ?_) (fun c_22 => ?_)
        · skip
          refine g_iconst E dX3_liesInBuffer_29 ?_
          refine g_zreturn E dX3_liesInBuffer_30 (by omega) ?_
          exact ⟨by omega, rfl⟩
        · skip
          refine g_iconst E dX3_liesInBuffer_25 ?_
          refine g_goto (tgt := 30) E dX3_liesInBuffer_26 (by decide) ?_
          refine g_zreturn E dX3_liesInBuffer_30 (by omega) ?_
          exact ⟨by omega, rfl⟩
set_option maxHeartbeats 4000000 in
set_option maxRecDepth 100000 in
theorem c_X3_octet (l : Launch) (D : va_G) (cA : ClassId) (x : Nat) (bu : Nat) (ki : Nat) (sa : Nat) (sto : Nat) (pk : Nat) (rd : Nat) (ta : Nat) (tn : Int) (tp : Int) (B : Int → Int) (i : Int) (hi : iB i) : Ci l D vwCl cA yX3_octet (.code yX3_octet cX3_octet 2 (some .int) :: UW) ({ frames := 0, cells := 0, slots := 0, locals := 0 }) 0 0 [.ref x, .int (iI i)] [(x, .inr (3, [.ref bu, .ref ki, .ref sa, .ref sto, .ref pk, .ref rd, .ref ta, .int (iI tn), .int (iI tp)])), (bu, aE cA 256 B)] (fun (r : Int) (w : va_W) => (r = (if 0 ≤ i ∧ i < 256 then B i else -1)) ∧ w = [(x, .inr (3, [.ref bu, .ref ki, .ref sa, .ref sto, .ref pk, .ref rd, .ref ta, .int (iI tn), .int (iI tp)])), (bu, aE cA 256 B)]) := by
  refine Ci.mk (by decide) (Nat.le_of_ble_eq_true rfl) ?_
  intro p e s m args below meth c A E
  refine GG.lvs (lv' := [(0, .ref x), (1, .int (iI i))]) [0, 1] rfl ?_
  refine g_iload_n E dX3_octet_0 rfl 1 rfl ?_
  refine g_if_lt (tgt := 20) E dX3_octet_1 (by decide) ⟨(by omega), (by omega)⟩ (fun c_1 => ?_) (fun c_1 => ?_)
  · skip
    refine g_iconst E dX3_octet_20 ?_
    refine g_ireturn E dX3_octet_21 ?_
    refine ⟨?_, rfl⟩; (split <;> first | rfl | omega)
  · skip
    refine g_iload_n E dX3_octet_4 rfl 1 rfl ?_
    refine g_sipush E dX3_octet_5 (by decide) ?_
    refine g_icmp_ge (tgt := 20) E dX3_octet_8 (by decide) ⟨(by omega), (by omega)⟩ ⟨(by omega), (by omega)⟩ (fun c_8 => ?_) (fun c_8 => ?_)
    · skip
      refine g_iconst E dX3_octet_20 ?_
      refine g_ireturn E dX3_octet_21 ?_
      refine ⟨?_, rfl⟩; (split <;> first | rfl | omega)
    · skip
      refine g_aload_n E dX3_octet_11 rfl 0 rfl ?_
      refine g_getfield E dX3_octet_12 0 0 rfl rfl (by decide) iX3 wd_1 rfl rfl ?_
      refine g_iload_n E dX3_octet_15 rfl 1 rfl ?_
      refine g_iaload E dX3_octet_16 1 rfl (by omega) (by omega) (by omega) ?_
      refine g_goto (tgt := 21) E dX3_octet_17 (by decide) ?_
      refine g_ireturn E dX3_octet_21 ?_
      refine ⟨?_, rfl⟩; (split <;> first | rfl | omega)
set_option maxHeartbeats 4000000 in
set_option maxRecDepth 100000 in
theorem c_X3_place (l : Launch) (D : va_G) (cA : ClassId) (x : Nat) (bu : Nat) (ki : Nat) (sa : Nat) (sto : Nat) (pk : Nat) (rd : Nat) (ta : Nat) (tn : Int) (tp : Int) : Ci l D vwCl cA yX3_place (.code yX3_place cX3_place 1 (some .int) :: UW) ({ frames := 0, cells := 0, slots := 0, locals := 0 }) 0 0 [.ref x] [(x, .inr (3, [.ref bu, .ref ki, .ref sa, .ref sto, .ref pk, .ref rd, .ref ta, .int (iI tn), .int (iI tp)]))] (fun (r : Int) (w : va_W) => r = tp ∧ w = [(x, .inr (3, [.ref bu, .ref ki, .ref sa, .ref sto, .ref pk, .ref rd, .ref ta, .int (iI tn), .int (iI tp)]))]) := by
  refine Ci.mk (by decide) (Nat.le_of_ble_eq_true rfl) ?_
  intro p e s m args below meth c A E
  refine GG.lvs (lv' := [(0, .ref x)]) [0] rfl ?_
  refine g_aload_n E dX3_place_0 rfl 0 rfl ?_
  refine g_getfield E dX3_place_1 0 8 rfl rfl (by decide) iX3 wd_2 rfl rfl ?_
  refine g_ireturn E dX3_place_4 ?_
  exact ⟨rfl, rfl⟩
set_option maxHeartbeats 4000000 in
set_option maxRecDepth 100000 in
theorem c_X4_isIn (l : Launch) (D : va_G) (cA : ClassId) (v : Int) (a : Int) (b : Int) (hv : iB v) (ha : iB a) (hb : iB b) : Ci l D vwCl cA yX4_isIn (.code yX4_isIn cX4_isIn 3 (some .boolean) :: UW) ({ frames := 0, cells := 0, slots := 0, locals := 0 }) 0 0 [.int (iI v), .int (iI a), .int (iI b)] [] (fun (r : Int) (w : va_W) => ((r = 1 ∧ a ≤ v ∧ v ≤ b) ∨ (r = 0 ∧ (v < a ∨ b < v))) ∧ w = []) := by
  refine Ci.mk (by decide) (Nat.le_of_ble_eq_true rfl) ?_
  intro p e s m args below meth c A E
  refine GG.lvs (lv' := [(0, .int (iI v)), (1, .int (iI a)), (2, .int (iI b))]) [0, 1, 2] rfl ?_
  refine g_iload_n E dX4_isIn_0 rfl 0 rfl ?_
  refine g_iload_n E dX4_isIn_1 rfl 1 rfl ?_
  refine g_icmp_lt (tgt := 14) E dX4_isIn_2 (by decide) ⟨(by omega), (by omega)⟩ ⟨(by omega), (by omega)⟩ (fun c_2 => ?_) (fun c_2 => ?_)
  · skip
    refine g_iconst E dX4_isIn_14 ?_
    refine g_zreturn E dX4_isIn_15 (by omega) ?_
    exact ⟨by omega, rfl⟩
  · skip
    refine g_iload_n E dX4_isIn_5 rfl 0 rfl ?_
    refine g_iload_n E dX4_isIn_6 rfl 2 rfl ?_
    refine g_icmp_gt (tgt := 14) E dX4_isIn_7 (by decide) ⟨(by omega), (by omega)⟩ ⟨(by omega), (by omega)⟩ (fun c_7 => ?_) (fun c_7 => ?_)
    · skip
      refine g_iconst E dX4_isIn_14 ?_
      refine g_zreturn E dX4_isIn_15 (by omega) ?_
      exact ⟨by omega, rfl⟩
    · skip
      refine g_iconst E dX4_isIn_10 ?_
      refine g_goto (tgt := 15) E dX4_isIn_11 (by decide) ?_
      refine g_zreturn E dX4_isIn_15 (by omega) ?_
      exact ⟨by omega, rfl⟩
set_option maxHeartbeats 4000000 in
set_option maxRecDepth 100000 in
theorem c_X4_isBlock (l : Launch) (D : va_G) (cA : ClassId) (y : Nat) (mb : Nat) (ms : Nat) (mm : Nat) (mf : Nat) (mz : Nat) (mt : Nat) (mp : Nat) (mq : Nat) (mo : Nat) (ca : Int) (my : Int) (me : Int) (mn : Int) (mi : Int) (ma : Int) (mu : Int) (mw : Int) (b : Int) (hb : iB b) : Ci l D vwCl cA yX4_isBlock (.code yX4_isBlock cX4_isBlock 2 (some .boolean) :: UW) ({ frames := 1, cells := 0, slots := 0, locals := 22 }) 0 0 [.ref y, .int (iI b)] [(y, .inr (4, [.int (iI ca), .ref mb, .ref ms, .ref mm, .ref mf, .ref mz, .int (iI my), .ref mt, .int (iI me), .int (iI mn), .ref mp, .int (iI mi), .ref mq, .int (iI ma), .int (iI mu), .ref mo, .int (iI mw)]))] (fun (r : Int) (w : va_W) => ((r = 1 ∧ 0 ≤ b ∧ b < 32) ∨ (r = 0 ∧ (b < 0 ∨ 32 ≤ b))) ∧ w = [(y, .inr (4, [.int (iI ca), .ref mb, .ref ms, .ref mm, .ref mf, .ref mz, .int (iI my), .ref mt, .int (iI me), .int (iI mn), .ref mp, .int (iI mi), .ref mq, .int (iI ma), .int (iI mu), .ref mo, .int (iI mw)]))]) := by
  refine Ci.mk (by decide) (Nat.le_of_ble_eq_true rfl) ?_
  intro p e s m args below meth c A E
  refine GG.lvs (lv' := [(0, .ref y), (1, .int (iI b))]) [0, 1] rfl ?_
  refine g_iload_n E dX4_isBlock_0 rfl 1 rfl ?_
  refine g_iconst E dX4_isBlock_1 ?_
  refine g_bipush E dX4_isBlock_2 (by decide) ?_
  refine g_callS (n := 3) (As := [.int (iI b), .int (iI 0), .int (iI 31)]) (rest := []) (wr := [(y, .inr (4, [.int (iI ca), .ref mb, .ref ms, .ref mm, .ref mf, .ref mz, .int (iI my), .ref mt, .int (iI me), .int (iI mn), .ref mp, .int (iI mi), .ref mq, .int (iI ma), .int (iI mu), .ref mo, .int (iI mw)]))]) E dX4_isBlock_4 (c_X4_isIn l D cA b 0 31 (by omega) (by omega) (by omega)) wd_code_X4_isIn wd_3 wd_4 wd_5 (by decide +kernel) ⟨⟨rfl, rfl⟩, ⟨(Nat.le_of_ble_eq_true rfl), (Nat.le_of_ble_eq_true rfl)⟩, ⟨(Nat.le_of_ble_eq_true rfl), (Nat.le_of_ble_eq_true rfl)⟩⟩ [] [0] rfl rfl (by decide) rfl rfl (Nat.le_of_ble_eq_true rfl) (fun z_4 w_4 hw_4 => ?_)
  obtain ⟨h_4, rfl⟩ := hw_4
  refine GG.wss (ws' := [(y, .inr (4, [.int (iI ca), .ref mb, .ref ms, .ref mm, .ref mf, .ref mz, .int (iI my), .ref mt, .int (iI me), .int (iI mn), .ref mp, .int (iI mi), .ref mq, .int (iI ma), .int (iI mu), .ref mo, .int (iI mw)]))]) [0] (by decide) rfl ?_
  refine g_zreturn E dX4_isBlock_7 (by omega) ?_
  exact ⟨by omega, rfl⟩
set_option maxHeartbeats 4000000 in
set_option maxRecDepth 100000 in
theorem c_X4_octet (l : Launch) (D : va_G) (cA : ClassId) (y : Nat) (mb : Nat) (ms : Nat) (mm : Nat) (mf : Nat) (mz : Nat) (mt : Nat) (mp : Nat) (mq : Nat) (mo : Nat) (ca : Int) (my : Int) (me : Int) (mn : Int) (mi : Int) (ma : Int) (mu : Int) (mw : Int) (B : Int → Int) (i : Int) (hi : iB i) : Ci l D vwCl cA yX4_octet (.code yX4_octet cX4_octet 2 (some .int) :: UW) ({ frames := 1, cells := 0, slots := 0, locals := 22 }) 0 0 [.ref y, .int (iI i)] [(y, .inr (4, [.int (iI ca), .ref mb, .ref ms, .ref mm, .ref mf, .ref mz, .int (iI my), .ref mt, .int (iI me), .int (iI mn), .ref mp, .int (iI mi), .ref mq, .int (iI ma), .int (iI mu), .ref mo, .int (iI mw)])), (mb, aE cA 256 B)] (fun (r : Int) (w : va_W) => (r = (if 0 ≤ i ∧ i < 256 then B i else -1)) ∧ w = [(y, .inr (4, [.int (iI ca), .ref mb, .ref ms, .ref mm, .ref mf, .ref mz, .int (iI my), .ref mt, .int (iI me), .int (iI mn), .ref mp, .int (iI mi), .ref mq, .int (iI ma), .int (iI mu), .ref mo, .int (iI mw)])), (mb, aE cA 256 B)]) := by
  refine Ci.mk (by decide) (Nat.le_of_ble_eq_true rfl) ?_
  intro p e s m args below meth c A E
  refine GG.lvs (lv' := [(0, .ref y), (1, .int (iI i))]) [0, 1] rfl ?_
  refine g_iload_n E dX4_octet_0 rfl 1 rfl ?_
  refine g_iconst E dX4_octet_1 ?_
  refine g_sipush E dX4_octet_2 (by decide) ?_
  refine g_callS (n := 3) (As := [.int (iI i), .int (iI 0), .int (iI 255)]) (rest := []) (wr := [(y, .inr (4, [.int (iI ca), .ref mb, .ref ms, .ref mm, .ref mf, .ref mz, .int (iI my), .ref mt, .int (iI me), .int (iI mn), .ref mp, .int (iI mi), .ref mq, .int (iI ma), .int (iI mu), .ref mo, .int (iI mw)])), (mb, aE cA 256 B)]) E dX4_octet_5 (c_X4_isIn l D cA i 0 255 (by omega) (by omega) (by omega)) wd_code_X4_isIn wd_3 wd_4 wd_5 (by decide +kernel) ⟨⟨rfl, rfl⟩, ⟨(Nat.le_of_ble_eq_true rfl), (Nat.le_of_ble_eq_true rfl)⟩, ⟨(Nat.le_of_ble_eq_true rfl), (Nat.le_of_ble_eq_true rfl)⟩⟩ [] [0, 1] rfl rfl (by decide) rfl rfl (Nat.le_of_ble_eq_true rfl) (fun z_5 w_5 hw_5 => ?_)
  obtain ⟨h_5, rfl⟩ := hw_5
  refine GG.wss (ws' := [(y, .inr (4, [.int (iI ca), .ref mb, .ref ms, .ref mm, .ref mf, .ref mz, .int (iI my), .ref mt, .int (iI me), .int (iI mn), .ref mp, .int (iI mi), .ref mq, .int (iI ma), .int (iI mu), .ref mo, .int (iI mw)])), (mb, aE cA 256 B)]) [0, 1] (by decide) rfl ?_
  refine g_if_eq (tgt := 20) E dX4_octet_8 (by decide) ⟨(by omega), (by omega)⟩ (fun c_8 => ?_) (fun c_8 => ?_)
  · skip
    refine g_iconst E dX4_octet_20 ?_
    refine g_ireturn E dX4_octet_21 ?_
    refine ⟨?_, rfl⟩; (split <;> first | rfl | omega)
  · skip
    refine g_aload_n E dX4_octet_11 rfl 0 rfl ?_
    refine g_getfield E dX4_octet_12 0 1 rfl rfl (by decide) iX4 wd_6 rfl rfl ?_
    refine g_iload_n E dX4_octet_15 rfl 1 rfl ?_
    refine g_iaload E dX4_octet_16 1 rfl (by omega) (by omega) (by omega) ?_
    refine g_goto (tgt := 21) E dX4_octet_17 (by decide) ?_
    refine g_ireturn E dX4_octet_21 ?_
    refine ⟨?_, rfl⟩; (split <;> first | rfl | omega)
set_option maxHeartbeats 4000000 in
set_option maxRecDepth 100000 in
theorem c_X4_place (l : Launch) (D : va_G) (cA : ClassId) (y : Nat) (mb : Nat) (ms : Nat) (mm : Nat) (mf : Nat) (mz : Nat) (mt : Nat) (mp : Nat) (mq : Nat) (mo : Nat) (ca : Int) (my : Int) (me : Int) (mn : Int) (mi : Int) (ma : Int) (mu : Int) (mw : Int) : Ci l D vwCl cA yX4_place (.code yX4_place cX4_place 1 (some .int) :: UW) ({ frames := 0, cells := 0, slots := 0, locals := 0 }) 0 0 [.ref y] [(y, .inr (4, [.int (iI ca), .ref mb, .ref ms, .ref mm, .ref mf, .ref mz, .int (iI my), .ref mt, .int (iI me), .int (iI mn), .ref mp, .int (iI mi), .ref mq, .int (iI ma), .int (iI mu), .ref mo, .int (iI mw)]))] (fun (r : Int) (w : va_W) => r = me ∧ w = [(y, .inr (4, [.int (iI ca), .ref mb, .ref ms, .ref mm, .ref mf, .ref mz, .int (iI my), .ref mt, .int (iI me), .int (iI mn), .ref mp, .int (iI mi), .ref mq, .int (iI ma), .int (iI mu), .ref mo, .int (iI mw)]))]) := by
  refine Ci.mk (by decide) (Nat.le_of_ble_eq_true rfl) ?_
  intro p e s m args below meth c A E
  refine GG.lvs (lv' := [(0, .ref y)]) [0] rfl ?_
  refine g_aload_n E dX4_place_0 rfl 0 rfl ?_
  refine g_getfield E dX4_place_1 0 8 rfl rfl (by decide) iX4 wd_7 rfl rfl ?_
  refine g_ireturn E dX4_place_4 ?_
  exact ⟨rfl, rfl⟩
