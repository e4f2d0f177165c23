theorem wd_206 : Cond.fieldLink RX3 29 "PackedSlots" "reader" "LPackedSlots$Reader;" ∈ UW := uw (by decide +kernel) rfl
theorem wd_207 : Cond.fieldLink RX3 95 "PackedSlots$Store" "bytes" "[I" ∈ UW := uw (by decide +kernel) rfl
theorem wd_208 : Cond.fieldLink RX3 98 "PackedSlots$Store" "starts" "[I" ∈ UW := uw (by decide +kernel) rfl
theorem wd_209 : Cond.fieldLink RX3 113 "PackedSlots$Store" "sizes" "[I" ∈ UW := uw (by decide +kernel) rfl
theorem wd_210 : Cond.methodLink RX3 132 yX1_unpack ∈ UW := uw (by decide +kernel) rfl
theorem wd_211 : Cond.instanceMethod yX1_unpack ∈ UW := uw (by decide +kernel) rfl
theorem wd_212 : Cond.selects RX1 yX1_unpack yX1_unpack ∈ UW := uw (by decide +kernel) rfl
theorem wd_213 : Cond.initialized yX1_unpack.cls ∈ UW := uw (by decide +kernel) rfl
theorem wd_214 : Cond.fieldLink RX3 138 "PackedSlots$Reader" "out" "[I" ∈ UW := uw (by decide +kernel) rfl
theorem wd_215 : Cond.methodLink RX3 101 arraycopyName ∈ UW := uw (by decide +kernel) rfl
theorem wd_216 : Cond.methodLink RX3 69 yX3_isBlock ∈ UW := uw (by decide +kernel) rfl
theorem wd_217 : Cond.static yX3_isBlock ∈ UW := uw (by decide +kernel) rfl
theorem wd_218 : Cond.initialized yX3_isBlock.cls ∈ UW := uw (by decide +kernel) rfl
theorem wd_219 : Cond.methodLink RX3 107 yJ7_fill_53178 ∈ UW := uw (by decide +kernel) rfl
theorem wd_220 : Cond.static yJ7_fill_53178 ∈ UW := uw (by decide +kernel) rfl
theorem wd_221 : Cond.initialized yJ7_fill_53178.cls ∈ UW := uw (by decide +kernel) rfl
theorem wd_222 : Cond.fieldLink RX3 16 "PackedSlots" "sameBytes" "[I" ∈ UW := uw (by decide +kernel) rfl
theorem wd_223 : Cond.methodLink RX3 92 yX3_unpack ∈ UW := uw (by decide +kernel) rfl
theorem wd_224 : Cond.instanceMethod yX3_unpack ∈ UW := uw (by decide +kernel) rfl
theorem wd_225 : Cond.selects RX3 yX3_unpack yX3_unpack ∈ UW := uw (by decide +kernel) rfl
theorem wd_226 : Cond.initialized yX3_unpack.cls ∈ UW := uw (by decide +kernel) rfl
theorem wd_227 : Cond.methodLink RX3 73 yX3_bufferIsOneByte ∈ UW := uw (by decide +kernel) rfl
theorem wd_228 : Cond.instanceMethod yX3_bufferIsOneByte ∈ UW := uw (by decide +kernel) rfl
theorem wd_229 : Cond.selects RX3 yX3_bufferIsOneByte yX3_bufferIsOneByte ∈ UW := uw (by decide +kernel) rfl
theorem wd_230 : Cond.initialized yX3_bufferIsOneByte.cls ∈ UW := uw (by decide +kernel) rfl
theorem wd_231 : Cond.fieldLink RX3 22 "PackedSlots" "packer" "LPackedSlots$Packer;" ∈ UW := uw (by decide +kernel) rfl
theorem wd_232 : Cond.methodLink RX3 81 yX0_pack ∈ UW := uw (by decide +kernel) rfl
theorem wd_233 : Cond.instanceMethod yX0_pack ∈ UW := uw (by decide +kernel) rfl
theorem wd_234 : Cond.selects RX0 yX0_pack yX0_pack ∈ UW := uw (by decide +kernel) rfl
theorem wd_235 : Cond.initialized yX0_pack.cls ∈ UW := uw (by decide +kernel) rfl
theorem wd_236 : Cond.methodLink RX3 88 yX3_keep ∈ UW := uw (by decide +kernel) rfl
theorem wd_237 : Cond.instanceMethod yX3_keep ∈ UW := uw (by decide +kernel) rfl
theorem wd_238 : Cond.selects RX3 yX3_keep yX3_keep ∈ UW := uw (by decide +kernel) rfl
theorem wd_239 : Cond.initialized yX3_keep.cls ∈ UW := uw (by decide +kernel) rfl
theorem wd_240 : Cond.fieldLink RX3 85 "PackedSlots$Packer" "out" "[I" ∈ UW := uw (by decide +kernel) rfl
theorem wd_241 : Cond.methodLink RX3 77 yX2_release ∈ UW := uw (by decide +kernel) rfl
theorem wd_242 : Cond.methodLink RX3 116 yX2_has ∈ UW := uw (by decide +kernel) rfl
theorem wd_243 : Cond.instanceMethod yX2_has ∈ UW := uw (by decide +kernel) rfl
theorem wd_244 : Cond.selects RX2 yX2_has yX2_has ∈ UW := uw (by decide +kernel) rfl
theorem wd_245 : Cond.initialized yX2_has.cls ∈ UW := uw (by decide +kernel) rfl
theorem wd_246 : Cond.methodLink RX3 119 yX2_putTogether ∈ UW := uw (by decide +kernel) rfl
theorem wd_247 : Cond.methodLink RX3 123 yX2_freeBytes ∈ UW := uw (by decide +kernel) rfl
theorem wd_248 : Cond.methodLink RX3 126 yX2_longestGap ∈ UW := uw (by decide +kernel) rfl
theorem wd_249 : Cond.instanceMethod yX2_longestGap ∈ UW := uw (by decide +kernel) rfl
theorem wd_250 : Cond.selects RX2 yX2_longestGap yX2_longestGap ∈ UW := uw (by decide +kernel) rfl
theorem wd_251 : Cond.initialized yX2_longestGap.cls ∈ UW := uw (by decide +kernel) rfl
theorem wd_252 : Cond.methodLink RX3 129 yX2_freeRows ∈ UW := uw (by decide +kernel) rfl
theorem wd_253 : Cond.instanceMethod yX2_freeRows ∈ UW := uw (by decide +kernel) rfl
theorem wd_254 : Cond.selects RX2 yX2_freeRows yX2_freeRows ∈ UW := uw (by decide +kernel) rfl
theorem wd_255 : Cond.initialized yX2_freeRows.cls ∈ UW := uw (by decide +kernel) rfl
theorem wd_256 : Cond.fieldLink RX3 135 "PackedSlots$Reader" "errorPlace" "I" ∈ UW := uw (by decide +kernel) rfl
theorem sh_0 (F : Int → Int) : sh F 0 = F := by
  funext k; unfold sh; rw [Int.zero_add]
def KZ (K Z : Int → Int) : Prop := ∀ b : Int, 0 ≤ b → b < 32 → (K b < 2 → Z b = 0) ∧ (K b = 2 → 1 ≤ Z b ∧ Z b ≤ 255) ∧ (K b = 3 → Z b = 256)
theorem KZ_up {K Z : Int → Int} {b k z : Int} (h : KZ K Z) (hk : (k < 2 → z = 0) ∧ (k = 2 → 1 ≤ z ∧ z ≤ 255) ∧ (k = 3 → z = 256)) : KZ (up K b k) (up Z b z) := fun c x y => by
  by_cases q : c = b
  · subst q; rw [up_s, up_s]; exact hk
  · rw [up_n q, up_n q]; exact h c x y
set_option maxHeartbeats 4000000 in
set_option maxRecDepth 100000 in
theorem c_X3_unpack (l : Launch) (D : va_G) (cA : ClassId) (x : Nat) (bu : Nat) (ki : Nat) (sa : Nat) (sto : Nat) (pk : Nat) (rd : Nat) (ta : Nat) (tn : Int) (tp : Int) (bya : Nat) (ss : Nat) (zz : Nat) (od : Nat) (ns : Int) (cap : Nat) (St : Int → Int) (S : Int → Int) (Z : Int → Int) (O : Int → Int) (ro : Nat) (os : Nat) (re : Int) (rx : Int) (os0 : Int) (ol : Int) (ra : Int) (rc : Int) (RO : Int → Int) (B : Int → Int) (b : Int) (hcap : cap ≤ 4096) (hSt : byR (cap : Int) St) (hb : 0 ≤ b ∧ b < 32) (hz : 0 ≤ S b ∧ 1 ≤ Z b ∧ S b + Z b ≤ (cap : Int)) : Ci l D vwCl cA yX3_unpack (.code yX3_unpack cX3_unpack 3 (some .int) :: UW) ({ frames := 6, cells := 0, slots := 0, locals := 140 }) 0 0 [.ref x, .int (iI b)] [(x, .inr (3, [.ref bu, .ref ki, .ref sa, .ref sto, .ref pk, .ref rd, .ref ta, .int (iI tn), .int (iI tp)])), (bu, aE cA 256 B), (sto, .inr (2, [.ref bya, .ref ss, .ref zz, .ref od, .int (iI ns)])), (bya, aE cA cap St), (ss, aE cA 32 S), (zz, aE cA 32 Z), (rd, .inr (1, [.ref ro, .int (iI re), .int (iI rx), .ref os, .int (iI os0), .int (iI ol), .int (iI ra), .int (iI rc)])), (ro, aE cA 256 RO)] (fun (r : Int) (w : va_W) => ∃ (ue : Int) (ux : Int) (ua : Int) (uc : Int) (UO : Int → Int) (B2 : Int → Int), (((rdf (sh St (S b)) (Z b) 5000 0 0 RO).1 ≠ 0 ∧ r = -(rdf (sh St (S b)) (Z b) 5000 0 0 RO).1 ∧ B2 = B) ∨ ((rdf (sh St (S b)) (Z b) 5000 0 0 RO).1 = 0 ∧ (rdf (sh St (S b)) (Z b) 5000 0 0 RO).2.2.1 < 256 ∧ r = -4 ∧ B2 = B) ∨ ((rdf (sh St (S b)) (Z b) 5000 0 0 RO).1 = 0 ∧ 256 ≤ (rdf (sh St (S b)) (Z b) 5000 0 0 RO).2.2.1 ∧ r = 1 ∧ B2 = cp (rdf (sh St (S b)) (Z b) 5000 0 0 RO).2.2.2 B 0 0 256)) ∧ w = [(x, .inr (3, [.ref bu, .ref ki, .ref sa, .ref sto, .ref pk, .ref rd, .ref ta, .int (iI tn), .int (iI tp)])), (bu, aE cA 256 B2), (sto, .inr (2, [.ref bya, .ref ss, .ref zz, .ref od, .int (iI ns)])), (bya, aE cA cap St), (ss, aE cA 32 S), (zz, aE cA 32 Z), (rd, .inr (1, [.ref ro, .int (iI ue), .int (iI ux), .ref bya, .int (iI (S b)), .int (iI (Z b)), .int (iI ua), .int (iI uc)])), (ro, aE cA 256 UO)]) := by
  refine Ci.mk (by decide) (Nat.le_of_ble_eq_true rfl) ?_
  intro p e s m args below meth c A E
  refine GG.lvs (lv' := [(0, .ref x), (1, .int (iI b))]) [0, 1] rfl ?_
  refine g_aload_n E dX3_unpack_0 rfl 0 rfl ?_
  refine g_getfield E dX3_unpack_1 0 5 rfl rfl (by decide) iX3 wd_206 rfl rfl ?_
  refine g_aload_n E dX3_unpack_4 rfl 0 rfl ?_
  refine g_getfield E dX3_unpack_5 0 3 rfl rfl (by decide) iX3 wd_200 rfl rfl ?_
  refine g_getfield E dX3_unpack_8 2 0 rfl rfl (by decide) iX2 wd_207 rfl rfl ?_
  refine g_aload_n E dX3_unpack_11 rfl 0 rfl ?_
  refine g_getfield E dX3_unpack_12 0 3 rfl rfl (by decide) iX3 wd_200 rfl rfl ?_
  refine g_getfield E dX3_unpack_15 2 1 rfl rfl (by decide) iX2 wd_208 rfl rfl ?_
  refine g_iload_n E dX3_unpack_18 rfl 1 rfl ?_
  refine g_iaload E dX3_unpack_19 4 rfl (by omega) (by omega) (by omega) ?_
  refine g_aload_n E dX3_unpack_20 rfl 0 rfl ?_
  refine g_getfield E dX3_unpack_21 0 3 rfl rfl (by decide) iX3 wd_200 rfl rfl ?_
  refine g_getfield E dX3_unpack_24 2 2 rfl rfl (by decide) iX2 wd_209 rfl rfl ?_
  refine g_iload_n E dX3_unpack_27 rfl 1 rfl ?_
  refine g_iaload E dX3_unpack_28 5 rfl (by omega) (by omega) (by omega) ?_
  refine g_callV (n := 3) (As := [.ref bya, .int (iI (S b)), .int (iI (Z b))]) (rest := []) (wr := [(x, .inr (3, [.ref bu, .ref ki, .ref sa, .ref sto, .ref pk, .ref rd, .ref ta, .int (iI tn), .int (iI tp)])), (bu, aE cA 256 B), (sto, .inr (2, [.ref bya, .ref ss, .ref zz, .ref od, .int (iI ns)])), (ss, aE cA 32 S), (zz, aE cA 32 Z)]) E dX3_unpack_29 (c_X1_unpack l D cA rd ro bya os re rx os0 ol ra rc cap St RO (S b) (Z b) (by omega) (by omega) (by exact fun k u v => hSt (S b + k) (by omega) (by omega))) wd_code_X1_unpack wd_210 wd_211 wd_212 wd_213 (by decide +kernel) ⟨⟨rfl, rfl⟩, ⟨(Nat.le_of_ble_eq_true rfl), (Nat.le_of_ble_eq_true rfl)⟩, ⟨(Nat.le_of_ble_eq_true rfl), (Nat.le_of_ble_eq_true rfl)⟩⟩ [6, 3, 7] [0, 1, 2, 4, 5] rfl rfl (by decide) 0 rfl rfl rfl rfl (Nat.le_of_ble_eq_true rfl) (fun z_29 w_29 hw_29 => ?_)
  obtain ⟨ue_29, ux_29, ua_29, uc_29, UO_29, hU_29, rfl⟩ := hw_29
  refine GG.wss (ws' := [(x, .inr (3, [.ref bu, .ref ki, .ref sa, .ref sto, .ref pk, .ref rd, .ref ta, .int (iI tn), .int (iI tp)])), (bu, aE cA 256 B), (sto, .inr (2, [.ref bya, .ref ss, .ref zz, .ref od, .int (iI ns)])), (bya, aE cA cap St), (ss, aE cA 32 S), (zz, aE cA 32 Z), (rd, .inr (1, [.ref ro, .int (iI ue_29), .int (iI ux_29), .ref bya, .int (iI (S b)), .int (iI (Z b)), .int (iI ua_29), .int (iI uc_29)])), (ro, aE cA 256 UO_29)]) [0, 1, 2, 6, 3, 4, 5, 7] (by decide) rfl ?_
  refine g_istore_n (lv' := [(2, .int (iI z_29)), (0, .ref x), (1, .int (iI b))]) E dX3_unpack_32 rfl (by decide) rfl ?_
  refine g_iload_n E dX3_unpack_33 rfl 0 rfl ?_
  refine g_if_ge (tgt := 39) E dX3_unpack_34 (by decide) ⟨(by omega), (by omega)⟩ (fun c_34 => ?_) (fun c_34 => ?_)
  · skip
    refine g_iload_n E dX3_unpack_39 rfl 0 rfl ?_
    refine g_sipush E dX3_unpack_40 (by decide) ?_
    refine g_icmp_ge (tgt := 49) E dX3_unpack_43 (by decide) ⟨(by omega), (by omega)⟩ ⟨(by omega), (by omega)⟩ (fun c_43 => ?_) (fun c_43 => ?_)
    · skip
      refine g_aload_n E dX3_unpack_49 rfl 1 rfl ?_
      refine g_getfield E dX3_unpack_50 0 5 rfl rfl (by decide) iX3 wd_206 rfl rfl ?_
      refine g_getfield E dX3_unpack_53 6 0 rfl rfl (by decide) iX1 wd_214 rfl rfl ?_
      refine g_iconst E dX3_unpack_56 ?_
      refine g_aload_n E dX3_unpack_57 rfl 1 rfl ?_
      refine g_getfield E dX3_unpack_58 0 0 rfl rfl (by decide) iX3 wd_1 rfl rfl ?_
      refine g_iconst E dX3_unpack_61 ?_
      refine g_sipush E dX3_unpack_62 (by decide) ?_
      refine g_arraycopy (ws' := [(x, .inr (3, [.ref bu, .ref ki, .ref sa, .ref sto, .ref pk, .ref rd, .ref ta, .int (iI tn), .int (iI tp)])), (bu, aE cA 256 (cp UO_29 B 0 0 256)), (sto, .inr (2, [.ref bya, .ref ss, .ref zz, .ref od, .int (iI ns)])), (bya, aE cA cap St), (ss, aE cA 32 S), (zz, aE cA 32 Z), (rd, .inr (1, [.ref ro, .int (iI ue_29), .int (iI ux_29), .ref bya, .int (iI (S b)), .int (iI (Z b)), .int (iI ua_29), .int (iI uc_29)])), (ro, aE cA 256 UO_29)]) E dX3_unpack_65 wd_215 wd_177 wd_178 wd_179 7 1 rfl rfl (by omega) (by omega) (by omega) (by omega) (by omega) (by omega) (by omega) (Nat.le_of_ble_eq_true rfl) (by decide) rfl ?_
      refine g_iconst E dX3_unpack_68 ?_
      refine g_ireturn E dX3_unpack_69 ?_
      exact ⟨_, _, _, _, _, _, Or.inr (Or.inr (hU_29.elim (fun w => ⟨w.1, by omega, rfl, by rw [w.2.2.2.1]⟩) (fun w => absurd w.2.2.2.1 (by omega)))), rfl⟩
    · skip
      refine g_bipush E dX3_unpack_46 (by decide) ?_
      refine g_ireturn E dX3_unpack_48 ?_
      exact ⟨_, _, _, _, _, B, Or.inr (Or.inl (hU_29.elim (fun w => ⟨w.1, by omega, rfl, rfl⟩) (fun w => absurd w.2.2.2.1 (by omega)))), rfl⟩
  · skip
    refine g_iload_n E dX3_unpack_37 rfl 0 rfl ?_
    refine g_ireturn E dX3_unpack_38 ?_
    exact ⟨_, _, _, _, _, B, Or.inl (hU_29.elim (fun w => absurd w.2.2.2.2.1 (by omega)) (fun w => ⟨w.1, w.2.1, rfl⟩)), rfl⟩
set_option maxHeartbeats 4000000 in
set_option maxRecDepth 100000 in
theorem c_X3_read (l : Launch) (D : va_G) (cA : ClassId) (x : Nat) (bu : Nat) (ki : Nat) (sa : Nat) (sto : Nat) (pk : Nat) (rd : Nat) (ta : Nat) (tn : Int) (tp : Int) (bya : Nat) (ss : Nat) (zz : Nat) (od : Nat) (ns : Int) (cap : Nat) (St : Int → Int) (S : Int → Int) (Z : Int → Int) (O : Int → Int) (ro : Nat) (os : Nat) (re : Int) (rx : Int) (os0 : Int) (ol : Int) (ra : Int) (rc : Int) (RO : Int → Int) (B : Int → Int) (K : Int → Int) (Sm : Int → Int) (b : Int) (hcap : cap ≤ 4096) (hSt : byR (cap : Int) St) (hSI : SI (cap : Int) ns S Z O) (hKZ : KZ K Z) (hK : kR K) (hSm : byR 32 Sm) (hb : iB b) : Ci l D vwCl cA yX3_read (.code yX3_read cX3_read 2 (some .int) :: UW) ({ frames := 7, cells := 0, slots := 0, locals := 162 }) 0 0 [.ref x, .int (iI b)] [(x, .inr (3, [.ref bu, .ref ki, .ref sa, .ref sto, .ref pk, .ref rd, .ref ta, .int (iI tn), .int (iI tp)])), (bu, aE cA 256 B), (ki, aE cA 32 K), (sa, aE cA 32 Sm), (sto, .inr (2, [.ref bya, .ref ss, .ref zz, .ref od, .int (iI ns)])), (bya, aE cA cap St), (ss, aE cA 32 S), (zz, aE cA 32 Z), (rd, .inr (1, [.ref ro, .int (iI re), .int (iI rx), .ref os, .int (iI os0), .int (iI ol), .int (iI ra), .int (iI rc)])), (ro, aE cA 256 RO)] (fun (r : Int) (w : va_W) => ∃ (sr : Nat) (ue : Int) (ux : Int) (us : Int) (ul : Int) (ua : Int) (uc : Int) (UO : Int → Int) (B2 : Int → Int), rdSpec B St K Sm RO (S b) (Z b) b r B2 ∧ w = [(x, .inr (3, [.ref bu, .ref ki, .ref sa, .ref sto, .ref pk, .ref rd, .ref ta, .int (iI tn), .int (iI tp)])), (bu, aE cA 256 B2), (ki, aE cA 32 K), (sa, aE cA 32 Sm), (sto, .inr (2, [.ref bya, .ref ss, .ref zz, .ref od, .int (iI ns)])), (bya, aE cA cap St), (ss, aE cA 32 S), (zz, aE cA 32 Z), (rd, .inr (1, [.ref ro, .int (iI ue), .int (iI ux), .ref sr, .int (iI us), .int (iI ul), .int (iI ua), .int (iI uc)])), (ro, aE cA 256 UO)]) := by
  refine Ci.mk (by decide) (Nat.le_of_ble_eq_true rfl) ?_
  intro p e s m args below meth c A E
  refine GG.lvs (lv' := [(0, .ref x), (1, .int (iI b))]) [0, 1] rfl ?_
  refine g_iload_n E dX3_read_0 rfl 1 rfl ?_
  refine g_callS (n := 1) (As := [.int (iI b)]) (rest := []) (wr := [(x, .inr (3, [.ref bu, .ref ki, .ref sa, .ref sto, .ref pk, .ref rd, .ref ta, .int (iI tn), .int (iI tp)])), (bu, aE cA 256 B), (ki, aE cA 32 K), (sa, aE cA 32 Sm), (sto, .inr (2, [.ref bya, .ref ss, .ref zz, .ref od, .int (iI ns)])), (bya, aE cA cap St), (ss, aE cA 32 S), (zz, aE cA 32 Z), (rd, .inr (1, [.ref ro, .int (iI re), .int (iI rx), .ref os, .int (iI os0), .int (iI ol), .int (iI ra), .int (iI rc)])), (ro, aE cA 256 RO)]) E dX3_read_1 (c_X3_isBlock l D cA b (by omega)) wd_code_X3_isBlock wd_216 wd_217 wd_218 (by decide +kernel) ⟨⟨rfl, rfl⟩, ⟨(Nat.le_of_ble_eq_true rfl), (Nat.le_of_ble_eq_true rfl)⟩, ⟨(Nat.le_of_ble_eq_true rfl), (Nat.le_of_ble_eq_true rfl)⟩⟩ [] [0, 1, 2, 3, 4, 5, 6, 7, 8, 9] rfl rfl (by decide) rfl rfl (Nat.le_of_ble_eq_true rfl) (fun z_1 w_1 hw_1 => ?_)
  obtain ⟨h_1, rfl⟩ := hw_1
  refine GG.wss (ws' := [(x, .inr (3, [.ref bu, .ref ki, .ref sa, .ref sto, .ref pk, .ref rd, .ref ta, .int (iI tn), .int (iI tp)])), (bu, aE cA 256 B), (ki, aE cA 32 K), (sa, aE cA 32 Sm), (sto, .inr (2, [.ref bya, .ref ss, .ref zz, .ref od, .int (iI ns)])), (bya, aE cA cap St), (ss, aE cA 32 S), (zz, aE cA 32 Z), (rd, .inr (1, [.ref ro, .int (iI re), .int (iI rx), .ref os, .int (iI os0), .int (iI ol), .int (iI ra), .int (iI rc)])), (ro, aE cA 256 RO)]) [0, 1, 2, 3, 4, 5, 6, 7, 8, 9] (by decide) rfl ?_
  refine g_if_ne (tgt := 10) E dX3_read_4 (by decide) ⟨(by omega), (by omega)⟩ (fun c_4 => ?_) (fun c_4 => ?_)
  · skip
    have hbb : 0 ≤ b ∧ b < 32 := by omega
    have hkb := hK b hbb.1 hbb.2
    have hkz := hKZ b hbb.1 hbb.2
    have hzb := hSI.zb hbb
    have hsm := hSm b hbb.1 hbb.2
    refine g_aload_n E dX3_read_10 rfl 0 rfl ?_
    refine g_getfield E dX3_read_11 0 1 rfl rfl (by decide) iX3 wd_205 rfl rfl ?_
    refine g_iload_n E dX3_read_14 rfl 1 rfl ?_
    refine g_iaload E dX3_read_15 2 rfl (by omega) (by omega) (by omega) ?_
    refine g_iconst E dX3_read_16 ?_
    refine g_icmp_ne (tgt := 26) E dX3_read_17 (by decide) ⟨(by omega), (by omega)⟩ ⟨(by omega), (by omega)⟩ (fun c_17 => ?_) (fun c_17 => ?_)
    · skip
      refine g_aload_n E dX3_read_26 rfl 0 rfl ?_
      refine g_getfield E dX3_read_27 0 1 rfl rfl (by decide) iX3 wd_205 rfl rfl ?_
      refine g_iload_n E dX3_read_30 rfl 1 rfl ?_
      refine g_iaload E dX3_read_31 2 rfl (by omega) (by omega) (by omega) ?_
      refine g_iconst E dX3_read_32 ?_
      refine g_icmp_ne (tgt := 66) E dX3_read_33 (by decide) ⟨(by omega), (by omega)⟩ ⟨(by omega), (by omega)⟩ (fun c_33 => ?_) (fun c_33 => ?_)
      · skip
        refine g_aload_n E dX3_read_66 rfl 0 rfl ?_
        refine g_getfield E dX3_read_67 0 0 rfl rfl (by decide) iX3 wd_1 rfl rfl ?_
        refine g_aload_n E dX3_read_70 rfl 0 rfl ?_
        refine g_getfield E dX3_read_71 0 1 rfl rfl (by decide) iX3 wd_205 rfl rfl ?_
        refine g_iload_n E dX3_read_74 rfl 1 rfl ?_
        refine g_iaload E dX3_read_75 2 rfl (by omega) (by omega) (by omega) ?_
        refine g_iconst E dX3_read_76 ?_
        refine g_icmp_ne (tgt := 89) E dX3_read_77 (by decide) ⟨(by omega), (by omega)⟩ ⟨(by omega), (by omega)⟩ (fun c_77 => ?_) (fun c_77 => ?_)
        · skip
          refine g_iconst E dX3_read_89 ?_
          refine g_callSv (n := 2) (As := [.ref bu, .int (iI 0)]) (rest := []) (wr := [(x, .inr (3, [.ref bu, .ref ki, .ref sa, .ref sto, .ref pk, .ref rd, .ref ta, .int (iI tn), .int (iI tp)])), (ki, aE cA 32 K), (sa, aE cA 32 Sm), (sto, .inr (2, [.ref bya, .ref ss, .ref zz, .ref od, .int (iI ns)])), (bya, aE cA cap St), (ss, aE cA 32 S), (zz, aE cA 32 Z), (rd, .inr (1, [.ref ro, .int (iI re), .int (iI rx), .ref os, .int (iI os0), .int (iI ol), .int (iI ra), .int (iI rc)])), (ro, aE cA 256 RO)]) E dX3_read_90 (c_J7_fill_53178 l D cA bu 256 B 0 (by omega)) wd_code_J7_fill_53178 wd_219 wd_220 wd_221 (by decide +kernel) ⟨⟨rfl, rfl⟩, ⟨(Nat.le_of_ble_eq_true rfl), (Nat.le_of_ble_eq_true rfl)⟩, ⟨(Nat.le_of_ble_eq_true rfl), (Nat.le_of_ble_eq_true rfl)⟩⟩ [1] [0, 2, 3, 4, 5, 6, 7, 8, 9] rfl rfl (by decide) rfl rfl (Nat.le_of_ble_eq_true rfl) (fun w_90 hw_90 => ?_)
          subst hw_90
          refine GG.wss (ws' := [(x, .inr (3, [.ref bu, .ref ki, .ref sa, .ref sto, .ref pk, .ref rd, .ref ta, .int (iI tn), .int (iI tp)])), (bu, aE cA 256 (rnf B 0 (256 : Int) 0)), (ki, aE cA 32 K), (sa, aE cA 32 Sm), (sto, .inr (2, [.ref bya, .ref ss, .ref zz, .ref od, .int (iI ns)])), (bya, aE cA cap St), (ss, aE cA 32 S), (zz, aE cA 32 Z), (rd, .inr (1, [.ref ro, .int (iI re), .int (iI rx), .ref os, .int (iI os0), .int (iI ol), .int (iI ra), .int (iI rc)])), (ro, aE cA 256 RO)]) [0, 9, 1, 2, 3, 4, 5, 6, 7, 8] (by decide) rfl ?_
          refine g_iconst E dX3_read_93 ?_
          refine g_ireturn E dX3_read_94 ?_
          first | exact ⟨_, _, _, _, _, _, _, _, _, Or.inr (Or.inr (Or.inr (Or.inl ⟨hbb.1, hbb.2, c_33, rfl, rfl⟩))), rfl⟩ | exact ⟨_, _, _, _, _, _, _, _, _, Or.inr (Or.inl ⟨hbb.1, hbb.2, c_77, rfl, rfl⟩), rfl⟩ | exact ⟨_, _, _, _, _, _, _, _, _, Or.inr (Or.inr (Or.inl ⟨hbb.1, hbb.2, by omega, rfl, rfl⟩)), rfl⟩
        · skip
          refine g_aload_n E dX3_read_80 rfl 0 rfl ?_
          refine g_getfield E dX3_read_81 0 2 rfl rfl (by decide) iX3 wd_222 rfl rfl ?_
          refine g_iload_n E dX3_read_84 rfl 1 rfl ?_
          refine g_iaload E dX3_read_85 3 rfl (by omega) (by omega) (by omega) ?_
          refine g_goto (tgt := 90) E dX3_read_86 (by decide) ?_
          refine g_callSv (n := 2) (As := [.ref bu, .int (iI (Sm b))]) (rest := []) (wr := [(x, .inr (3, [.ref bu, .ref ki, .ref sa, .ref sto, .ref pk, .ref rd, .ref ta, .int (iI tn), .int (iI tp)])), (ki, aE cA 32 K), (sa, aE cA 32 Sm), (sto, .inr (2, [.ref bya, .ref ss, .ref zz, .ref od, .int (iI ns)])), (bya, aE cA cap St), (ss, aE cA 32 S), (zz, aE cA 32 Z), (rd, .inr (1, [.ref ro, .int (iI re), .int (iI rx), .ref os, .int (iI os0), .int (iI ol), .int (iI ra), .int (iI rc)])), (ro, aE cA 256 RO)]) E dX3_read_90 (c_J7_fill_53178 l D cA bu 256 B (Sm b) (by omega)) wd_code_J7_fill_53178 wd_219 wd_220 wd_221 (by decide +kernel) ⟨⟨rfl, rfl⟩, ⟨(Nat.le_of_ble_eq_true rfl), (Nat.le_of_ble_eq_true rfl)⟩, ⟨(Nat.le_of_ble_eq_true rfl), (Nat.le_of_ble_eq_true rfl)⟩⟩ [1] [0, 2, 3, 4, 5, 6, 7, 8, 9] rfl rfl (by decide) rfl rfl (Nat.le_of_ble_eq_true rfl) (fun w_90 hw_90 => ?_)
          subst hw_90
          refine GG.wss (ws' := [(x, .inr (3, [.ref bu, .ref ki, .ref sa, .ref sto, .ref pk, .ref rd, .ref ta, .int (iI tn), .int (iI tp)])), (bu, aE cA 256 (rnf B 0 (256 : Int) (Sm b))), (ki, aE cA 32 K), (sa, aE cA 32 Sm), (sto, .inr (2, [.ref bya, .ref ss, .ref zz, .ref od, .int (iI ns)])), (bya, aE cA cap St), (ss, aE cA 32 S), (zz, aE cA 32 Z), (rd, .inr (1, [.ref ro, .int (iI re), .int (iI rx), .ref os, .int (iI os0), .int (iI ol), .int (iI ra), .int (iI rc)])), (ro, aE cA 256 RO)]) [0, 9, 1, 2, 3, 4, 5, 6, 7, 8] (by decide) rfl ?_
          refine g_iconst E dX3_read_93 ?_
          refine g_ireturn E dX3_read_94 ?_
          first | exact ⟨_, _, _, _, _, _, _, _, _, Or.inr (Or.inr (Or.inr (Or.inl ⟨hbb.1, hbb.2, c_33, rfl, rfl⟩))), rfl⟩ | exact ⟨_, _, _, _, _, _, _, _, _, Or.inr (Or.inl ⟨hbb.1, hbb.2, c_77, rfl, rfl⟩), rfl⟩ | exact ⟨_, _, _, _, _, _, _, _, _, Or.inr (Or.inr (Or.inl ⟨hbb.1, hbb.2, by omega, rfl, rfl⟩)), rfl⟩
      · skip
        refine g_aload_n E dX3_read_36 rfl 0 rfl ?_
        refine g_getfield E dX3_read_37 0 3 rfl rfl (by decide) iX3 wd_200 rfl rfl ?_
        refine g_getfield E dX3_read_40 4 0 rfl rfl (by decide) iX2 wd_207 rfl rfl ?_
        refine g_aload_n E dX3_read_43 rfl 0 rfl ?_
        refine g_getfield E dX3_read_44 0 3 rfl rfl (by decide) iX3 wd_200 rfl rfl ?_
        refine g_getfield E dX3_read_47 4 1 rfl rfl (by decide) iX2 wd_208 rfl rfl ?_
        refine g_iload_n E dX3_read_50 rfl 1 rfl ?_
        refine g_iaload E dX3_read_51 6 rfl (by omega) (by omega) (by omega) ?_
        refine g_aload_n E dX3_read_52 rfl 0 rfl ?_
        refine g_getfield E dX3_read_53 0 0 rfl rfl (by decide) iX3 wd_1 rfl rfl ?_
        refine g_iconst E dX3_read_56 ?_
        refine g_sipush E dX3_read_57 (by decide) ?_
        refine g_arraycopy (ws' := [(x, .inr (3, [.ref bu, .ref ki, .ref sa, .ref sto, .ref pk, .ref rd, .ref ta, .int (iI tn), .int (iI tp)])), (bu, aE cA 256 (cp St B (S b) 0 256)), (ki, aE cA 32 K), (sa, aE cA 32 Sm), (sto, .inr (2, [.ref bya, .ref ss, .ref zz, .ref od, .int (iI ns)])), (bya, aE cA cap St), (ss, aE cA 32 S), (zz, aE cA 32 Z), (rd, .inr (1, [.ref ro, .int (iI re), .int (iI rx), .ref os, .int (iI os0), .int (iI ol), .int (iI ra), .int (iI rc)])), (ro, aE cA 256 RO)]) E dX3_read_60 wd_215 wd_177 wd_178 wd_179 5 1 rfl rfl (by omega) (by omega) (by omega) (by omega) (by omega) (by omega) (by omega) (Nat.le_of_ble_eq_true rfl) (by decide) rfl ?_
        refine g_goto (tgt := 93) E dX3_read_63 (by decide) ?_
        refine g_iconst E dX3_read_93 ?_
        refine g_ireturn E dX3_read_94 ?_
        first | exact ⟨_, _, _, _, _, _, _, _, _, Or.inr (Or.inr (Or.inr (Or.inl ⟨hbb.1, hbb.2, c_33, rfl, rfl⟩))), rfl⟩ | exact ⟨_, _, _, _, _, _, _, _, _, Or.inr (Or.inl ⟨hbb.1, hbb.2, c_77, rfl, rfl⟩), rfl⟩ | exact ⟨_, _, _, _, _, _, _, _, _, Or.inr (Or.inr (Or.inl ⟨hbb.1, hbb.2, by omega, rfl, rfl⟩)), rfl⟩
    · skip
      refine g_aload_n E dX3_read_20 rfl 0 rfl ?_
      refine g_iload_n E dX3_read_21 rfl 1 rfl ?_
      refine g_callV (n := 1) (As := [.int (iI b)]) (rest := []) (wr := [(ki, aE cA 32 K), (sa, aE cA 32 Sm)]) E dX3_read_22 (c_X3_unpack l D cA x bu ki sa sto pk rd ta tn tp bya ss zz od ns cap St S Z O ro os re rx os0 ol ra rc RO B b (by omega) (by omega) (by omega) (by omega)) wd_code_X3_unpack wd_223 wd_224 wd_225 wd_226 (by decide +kernel) ⟨⟨rfl, rfl⟩, ⟨(Nat.le_of_ble_eq_true rfl), (Nat.le_of_ble_eq_true rfl)⟩, ⟨(Nat.le_of_ble_eq_true rfl), (Nat.le_of_ble_eq_true rfl)⟩⟩ [0, 1, 4, 5, 6, 7, 8, 9] [2, 3] rfl rfl (by decide) 0 rfl rfl rfl rfl (Nat.le_of_ble_eq_true rfl) (fun z_22 w_22 hw_22 => ?_)
      obtain ⟨ue_22, ux_22, ua_22, uc_22, UO_22, B2_22, hU_22, rfl⟩ := hw_22
      refine GG.wss (ws' := [(x, .inr (3, [.ref bu, .ref ki, .ref sa, .ref sto, .ref pk, .ref rd, .ref ta, .int (iI tn), .int (iI tp)])), (bu, aE cA 256 B2_22), (ki, aE cA 32 K), (sa, aE cA 32 Sm), (sto, .inr (2, [.ref bya, .ref ss, .ref zz, .ref od, .int (iI ns)])), (bya, aE cA cap St), (ss, aE cA 32 S), (zz, aE cA 32 Z), (rd, .inr (1, [.ref ro, .int (iI ue_22), .int (iI ux_22), .ref bya, .int (iI (S b)), .int (iI (Z b)), .int (iI ua_22), .int (iI uc_22)])), (ro, aE cA 256 UO_22)]) [2, 3, 0, 1, 4, 5, 6, 7, 8, 9] (by decide) rfl ?_
      refine g_ireturn E dX3_read_25 ?_
      exact ⟨_, _, _, _, _, _, _, _, _, Or.inr (Or.inr (Or.inr (Or.inr ⟨hbb.1, hbb.2, c_17, hU_22⟩))), rfl⟩
  · skip
    refine g_bipush E dX3_read_7 (by decide) ?_
    refine g_ireturn E dX3_read_9 ?_
    exact ⟨os, re, rx, os0, ol, ra, rc, RO, B, Or.inl ⟨by omega, rfl, rfl⟩, rfl⟩
set_option maxHeartbeats 4000000 in
set_option maxRecDepth 100000 in
theorem c_X3_write (l : Launch) (D : va_G) (cA : ClassId) (x : Nat) (bu : Nat) (ki : Nat) (sa : Nat) (sto : Nat) (pk : Nat) (rd : Nat) (ta : Nat) (tn : Int) (tp : Int) (bya : Nat) (ss : Nat) (zz : Nat) (od : Nat) (ns : Int) (cap : Nat) (St : Int → Int) (S : Int → Int) (Z : Int → Int) (O : Int → Int) (Mk : Int → Int) (K : Int → Int) (Sm : Int → Int) (B : Int → Int) (po : Nat) (pn : Int) (pb : Int) (pl : Int) (PO : Int → Int) (b : Int) (hcap : cap ≤ 4096) (hLR : LR (cap : Int) ns S Z O Mk) (hKZ : KZ K Z) (hB : byR 256 B) (hb : iB b) : Ci l D vwCl cA yX3_write (.code yX3_write cX3_write 3 (some .int) :: UW) ({ frames := 5, cells := 0, slots := 0, locals := 113 }) 0 0 [.ref x, .int (iI b)] [(x, .inr (3, [.ref bu, .ref ki, .ref sa, .ref sto, .ref pk, .ref rd, .ref ta, .int (iI tn), .int (iI tp)])), (bu, aE cA 256 B), (ki, aE cA 32 K), (sa, aE cA 32 Sm), (sto, .inr (2, [.ref bya, .ref ss, .ref zz, .ref od, .int (iI ns)])), (bya, aE cA cap St), (ss, aE cA 32 S), (zz, aE cA 32 Z), (od, aE cA 32 O), (pk, .inr (0, [.ref po, .int (iI pn), .int (iI pb), .int (iI pl)])), (po, aE cA 258 PO)] (fun (r : Int) (w : va_W) => ∃ (St2 : Int → Int) (S2 : Int → Int) (Z2 : Int → Int) (O2 : Int → Int) (n2 : Int) (Mk2 : Int → Int) (K2 : Int → Int) (Sm2 : Int → Int) (V : (Int → Int) × Int) (bp : Int) (bl : Int), wrSpec (cap : Int) B St Mk K Sm (packF B 300 (PO, 0) 0 0) b r St2 Mk2 K2 Sm2 ∧ LR (cap : Int) n2 S2 Z2 O2 Mk2 ∧ KZ K2 Z2 ∧ w = [(x, .inr (3, [.ref bu, .ref ki, .ref sa, .ref sto, .ref pk, .ref rd, .ref ta, .int (iI tn), .int (iI tp)])), (bu, aE cA 256 B), (ki, aE cA 32 K2), (sa, aE cA 32 Sm2), (sto, .inr (2, [.ref bya, .ref ss, .ref zz, .ref od, .int (iI n2)])), (bya, aE cA cap St2), (ss, aE cA 32 S2), (zz, aE cA 32 Z2), (od, aE cA 32 O2), (pk, .inr (0, [.ref po, .int (iI V.2), .int (iI bp), .int (iI bl)])), (po, aE cA 258 V.1)]) := by
  refine Ci.mk (by decide) (Nat.le_of_ble_eq_true rfl) ?_
  intro p e s m args below meth c A E
  refine GG.lvs (lv' := [(0, .ref x), (1, .int (iI b))]) [0, 1] rfl ?_
  refine g_iload_n E dX3_write_0 rfl 1 rfl ?_
  refine g_callS (n := 1) (As := [.int (iI b)]) (rest := []) (wr := [(x, .inr (3, [.ref bu, .ref ki, .ref sa, .ref sto, .ref pk, .ref rd, .ref ta, .int (iI tn), .int (iI tp)])), (bu, aE cA 256 B), (ki, aE cA 32 K), (sa, aE cA 32 Sm), (sto, .inr (2, [.ref bya, .ref ss, .ref zz, .ref od, .int (iI ns)])), (bya, aE cA cap St), (ss, aE cA 32 S), (zz, aE cA 32 Z), (od, aE cA 32 O), (pk, .inr (0, [.ref po, .int (iI pn), .int (iI pb), .int (iI pl)])), (po, aE cA 258 PO)]) E dX3_write_1 (c_X3_isBlock l D cA b (by omega)) wd_code_X3_isBlock wd_216 wd_217 wd_218 (by decide +kernel) ⟨⟨rfl, rfl⟩, ⟨(Nat.le_of_ble_eq_true rfl), (Nat.le_of_ble_eq_true rfl)⟩, ⟨(Nat.le_of_ble_eq_true rfl), (Nat.le_of_ble_eq_true rfl)⟩⟩ [] [0, 1, 2, 3, 4, 5, 6, 7, 8, 9, 10] rfl rfl (by decide) rfl rfl (Nat.le_of_ble_eq_true rfl) (fun z_1 w_1 hw_1 => ?_)
  obtain ⟨h_1, rfl⟩ := hw_1
  refine GG.wss (ws' := [(x, .inr (3, [.ref bu, .ref ki, .ref sa, .ref sto, .ref pk, .ref rd, .ref ta, .int (iI tn), .int (iI tp)])), (bu, aE cA 256 B), (ki, aE cA 32 K), (sa, aE cA 32 Sm), (sto, .inr (2, [.ref bya, .ref ss, .ref zz, .ref od, .int (iI ns)])), (bya, aE cA cap St), (ss, aE cA 32 S), (zz, aE cA 32 Z), (od, aE cA 32 O), (pk, .inr (0, [.ref po, .int (iI pn), .int (iI pb), .int (iI pl)])), (po, aE cA 258 PO)]) [0, 1, 2, 3, 4, 5, 6, 7, 8, 9, 10] (by decide) rfl ?_
  refine g_if_ne (tgt := 10) E dX3_write_4 (by decide) ⟨(by omega), (by omega)⟩ (fun c_4 => ?_) (fun c_4 => ?_)
  · skip
    have hbb : 0 ≤ b ∧ b < 32 := by omega
    refine g_aload_n E dX3_write_10 rfl 0 rfl ?_
    refine g_callV (n := 0) (As := []) (rest := []) (wr := [(ki, aE cA 32 K), (sa, aE cA 32 Sm), (sto, .inr (2, [.ref bya, .ref ss, .ref zz, .ref od, .int (iI ns)])), (bya, aE cA cap St), (ss, aE cA 32 S), (zz, aE cA 32 Z), (od, aE cA 32 O), (pk, .inr (0, [.ref po, .int (iI pn), .int (iI pb), .int (iI pl)])), (po, aE cA 258 PO)]) E dX3_write_11 (c_X3_bufferIsOneByte l D cA x bu ki sa sto pk rd ta tn tp B (by exact hB)) wd_code_X3_bufferIsOneByte wd_227 wd_228 wd_229 wd_230 (by decide +kernel) ⟨⟨rfl, rfl⟩, ⟨(Nat.le_of_ble_eq_true rfl), (Nat.le_of_ble_eq_true rfl)⟩, ⟨(Nat.le_of_ble_eq_true rfl), (Nat.le_of_ble_eq_true rfl)⟩⟩ [0, 1] [2, 3, 4, 5, 6, 7, 8, 9, 10] rfl rfl (by decide) 0 rfl rfl rfl rfl (Nat.le_of_ble_eq_true rfl) (fun z_11 w_11 hw_11 => ?_)
    obtain ⟨ho_11, ho2_11, rfl⟩ := hw_11
    refine GG.wss (ws' := [(x, .inr (3, [.ref bu, .ref ki, .ref sa, .ref sto, .ref pk, .ref rd, .ref ta, .int (iI tn), .int (iI tp)])), (bu, aE cA 256 B), (ki, aE cA 32 K), (sa, aE cA 32 Sm), (sto, .inr (2, [.ref bya, .ref ss, .ref zz, .ref od, .int (iI ns)])), (bya, aE cA cap St), (ss, aE cA 32 S), (zz, aE cA 32 Z), (od, aE cA 32 O), (pk, .inr (0, [.ref po, .int (iI pn), .int (iI pb), .int (iI pl)])), (po, aE cA 258 PO)]) [9, 10, 0, 1, 2, 3, 4, 5, 6, 7, 8] (by decide) rfl ?_
    refine g_if_eq (tgt := 47) E dX3_write_14 (by decide) ⟨(by omega), (by omega)⟩ (fun c_14 => ?_) (fun c_14 => ?_)
    · skip
      have hex : ∃ j, 0 ≤ j ∧ j < 256 ∧ B j ≠ B 0 := ho_11.elim (fun w => absurd w.1 (by omega)) (fun w => w.2)
      clear ho_11
      refine g_aload_n E dX3_write_47 rfl 0 rfl ?_
      refine g_getfield E dX3_write_48 0 4 rfl rfl (by decide) iX3 wd_231 rfl rfl ?_
      refine g_aload_n E dX3_write_51 rfl 0 rfl ?_
      refine g_getfield E dX3_write_52 0 0 rfl rfl (by decide) iX3 wd_1 rfl rfl ?_
      refine g_callV (n := 1) (As := [.ref bu]) (rest := []) (wr := [(x, .inr (3, [.ref bu, .ref ki, .ref sa, .ref sto, .ref pk, .ref rd, .ref ta, .int (iI tn), .int (iI tp)])), (ki, aE cA 32 K), (sa, aE cA 32 Sm), (sto, .inr (2, [.ref bya, .ref ss, .ref zz, .ref od, .int (iI ns)])), (bya, aE cA cap St), (ss, aE cA 32 S), (zz, aE cA 32 Z), (od, aE cA 32 O)]) E dX3_write_55 (c_X0_pack l D cA pk po pn pb pl PO bu B (by exact hB)) wd_code_X0_pack wd_232 wd_233 wd_234 wd_235 (by decide +kernel) ⟨⟨rfl, rfl⟩, ⟨(Nat.le_of_ble_eq_true rfl), (Nat.le_of_ble_eq_true rfl)⟩, ⟨(Nat.le_of_ble_eq_true rfl), (Nat.le_of_ble_eq_true rfl)⟩⟩ [9, 10, 1] [0, 2, 3, 4, 5, 6, 7, 8] rfl rfl (by decide) 0 rfl rfl rfl rfl (Nat.le_of_ble_eq_true rfl) (fun z_55 w_55 hw_55 => ?_)
      obtain ⟨V_55, bp_55, bl_55, hr_55, hV_55, hV2_55, rfl⟩ := hw_55
      refine GG.wss (ws' := [(x, .inr (3, [.ref bu, .ref ki, .ref sa, .ref sto, .ref pk, .ref rd, .ref ta, .int (iI tn), .int (iI tp)])), (bu, aE cA 256 B), (ki, aE cA 32 K), (sa, aE cA 32 Sm), (sto, .inr (2, [.ref bya, .ref ss, .ref zz, .ref od, .int (iI ns)])), (bya, aE cA cap St), (ss, aE cA 32 S), (zz, aE cA 32 Z), (od, aE cA 32 O), (pk, .inr (0, [.ref po, .int (iI V_55.2), .int (iI bp_55), .int (iI bl_55)])), (po, aE cA 258 V_55.1)]) [0, 10, 1, 2, 3, 4, 5, 6, 7, 8, 9] (by decide) rfl ?_
      refine g_istore_n (lv' := [(2, .int (iI z_55)), (0, .ref x), (1, .int (iI b))]) E dX3_write_58 rfl (by decide) rfl ?_
      refine g_iload_n E dX3_write_59 rfl 0 rfl ?_
      refine g_sipush E dX3_write_60 (by decide) ?_
      refine g_icmp_ge (tgt := 83) E dX3_write_63 (by decide) ⟨(by omega), (by omega)⟩ ⟨(by omega), (by omega)⟩ (fun c_63 => ?_) (fun c_63 => ?_)
      · skip
        refine g_aload_n E dX3_write_83 rfl 1 rfl ?_
        refine g_iload_n E dX3_write_84 rfl 2 rfl ?_
        refine g_iconst E dX3_write_85 ?_
        refine g_aload_n E dX3_write_86 rfl 1 rfl ?_
        refine g_getfield E dX3_write_87 0 0 rfl rfl (by decide) iX3 wd_1 rfl rfl ?_
        refine g_sipush E dX3_write_90 (by decide) ?_
        refine g_callV (n := 4) (As := [.int (iI b), .int (iI 3), .ref bu, .int (iI 256)]) (rest := []) (wr := [(sa, aE cA 32 Sm), (pk, .inr (0, [.ref po, .int (iI V_55.2), .int (iI bp_55), .int (iI bl_55)])), (po, aE cA 258 V_55.1)]) E dX3_write_93 (c_X3_keep l D cA x bu ki sa sto pk rd ta tn tp bya ss zz od ns cap St S Z O Mk K bu 256 B b 3 256 (by omega) (by exact hLR) (by omega) (by omega) (by omega)) wd_code_X3_keep wd_236 wd_237 wd_238 wd_239 (by decide +kernel) ⟨⟨rfl, rfl⟩, ⟨(Nat.le_of_ble_eq_true rfl), (Nat.le_of_ble_eq_true rfl)⟩, ⟨(Nat.le_of_ble_eq_true rfl), (Nat.le_of_ble_eq_true rfl)⟩⟩ [0, 2, 4, 5, 6, 7, 8, 1] [3, 9, 10] rfl rfl (by decide) 0 rfl rfl rfl rfl (Nat.le_of_ble_eq_true rfl) (fun z_93 w_93 hw_93 => ?_)
        obtain ⟨St2_93, S2_93, Z2_93, O2_93, n2_93, Mk2_93, K2_93, hP_93, hL2_93, rfl⟩ := hw_93
        refine GG.wss (ws' := [(x, .inr (3, [.ref bu, .ref ki, .ref sa, .ref sto, .ref pk, .ref rd, .ref ta, .int (iI tn), .int (iI tp)])), (bu, aE cA 256 B), (ki, aE cA 32 K2_93), (sa, aE cA 32 Sm), (sto, .inr (2, [.ref bya, .ref ss, .ref zz, .ref od, .int (iI n2_93)])), (bya, aE cA cap St2_93), (ss, aE cA 32 S2_93), (zz, aE cA 32 Z2_93), (od, aE cA 32 O2_93), (pk, .inr (0, [.ref po, .int (iI V_55.2), .int (iI bp_55), .int (iI bl_55)])), (po, aE cA 258 V_55.1)]) [3, 10, 4, 0, 5, 6, 7, 8, 9, 1, 2] (by decide) rfl ?_
        refine g_ireturn E dX3_write_96 ?_
        rcases hP_93 with ⟨w1, w2, w3, w4, w5, w6⟩ | ⟨w1, ⟨w2, w3⟩, w4, w5⟩
        · exact ⟨_, _, _, _, _, _, _, Sm, V_55, bp_55, bl_55, Or.inr (Or.inr ⟨hbb.1, hbb.2, hex, 256, 3, B, Or.inr (by rw [← hV_55]; exact ⟨by omega, by omega, rfl, rfl⟩), rfl, Or.inl ⟨w1, w2, w3, w4, w6⟩⟩), hL2_93, by rw [w5, w6]; exact hKZ, rfl⟩
        · exact ⟨_, _, _, _, _, _, _, Sm, V_55, bp_55, bl_55, Or.inr (Or.inr ⟨hbb.1, hbb.2, hex, 256, 3, B, Or.inr (by rw [← hV_55]; exact ⟨by omega, by omega, rfl, rfl⟩), rfl, Or.inr (w3.elim (fun g => Or.inl ⟨w1, w2, w5, g⟩) (fun g => Or.inr ⟨w1, w2, w5, g⟩))⟩), hL2_93, by rw [w4, w5]; exact KZ_up hKZ ⟨fun q => by omega, fun q => by omega, fun q => by omega⟩, rfl⟩
      · skip
        refine g_aload_n E dX3_write_66 rfl 1 rfl ?_
        refine g_iload_n E dX3_write_67 rfl 2 rfl ?_
        refine g_iconst E dX3_write_68 ?_
        refine g_aload_n E dX3_write_69 rfl 1 rfl ?_
        refine g_getfield E dX3_write_70 0 4 rfl rfl (by decide) iX3 wd_231 rfl rfl ?_
        refine g_getfield E dX3_write_73 9 0 rfl rfl (by decide) iX0 wd_240 rfl rfl ?_
        refine g_iload_n E dX3_write_76 rfl 0 rfl ?_
        refine g_callV (n := 4) (As := [.int (iI b), .int (iI 2), .ref po, .int (iI z_55)]) (rest := []) (wr := [(bu, aE cA 256 B), (sa, aE cA 32 Sm), (pk, .inr (0, [.ref po, .int (iI V_55.2), .int (iI bp_55), .int (iI bl_55)]))]) E dX3_write_77 (c_X3_keep l D cA x bu ki sa sto pk rd ta tn tp bya ss zz od ns cap St S Z O Mk K po 258 V_55.1 b 2 z_55 (by omega) (by exact hLR) (by omega) (by omega) (by omega)) wd_code_X3_keep wd_236 wd_237 wd_238 wd_239 (by decide +kernel) ⟨⟨rfl, rfl⟩, ⟨(Nat.le_of_ble_eq_true rfl), (Nat.le_of_ble_eq_true rfl)⟩, ⟨(Nat.le_of_ble_eq_true rfl), (Nat.le_of_ble_eq_true rfl)⟩⟩ [0, 2, 4, 5, 6, 7, 8, 10] [1, 3, 9] rfl rfl (by decide) 0 rfl rfl rfl rfl (Nat.le_of_ble_eq_true rfl) (fun z_77 w_77 hw_77 => ?_)
        obtain ⟨St2_77, S2_77, Z2_77, O2_77, n2_77, Mk2_77, K2_77, hP_77, hL2_77, rfl⟩ := hw_77
        refine GG.wss (ws' := [(x, .inr (3, [.ref bu, .ref ki, .ref sa, .ref sto, .ref pk, .ref rd, .ref ta, .int (iI tn), .int (iI tp)])), (bu, aE cA 256 B), (ki, aE cA 32 K2_77), (sa, aE cA 32 Sm), (sto, .inr (2, [.ref bya, .ref ss, .ref zz, .ref od, .int (iI n2_77)])), (bya, aE cA cap St2_77), (ss, aE cA 32 S2_77), (zz, aE cA 32 Z2_77), (od, aE cA 32 O2_77), (pk, .inr (0, [.ref po, .int (iI V_55.2), .int (iI bp_55), .int (iI bl_55)])), (po, aE cA 258 V_55.1)]) [3, 0, 4, 1, 5, 6, 7, 8, 9, 2, 10] (by decide) rfl ?_
        refine g_goto (tgt := 96) E dX3_write_80 (by decide) ?_
        refine g_ireturn E dX3_write_96 ?_
        rcases hP_77 with ⟨w1, w2, w3, w4, w5, w6⟩ | ⟨w1, ⟨w2, w3⟩, w4, w5⟩
        · exact ⟨_, _, _, _, _, _, _, Sm, V_55, bp_55, bl_55, Or.inr (Or.inr ⟨hbb.1, hbb.2, hex, z_55, 2, V_55.1, Or.inl (by rw [← hV_55]; exact ⟨by omega, by omega, rfl, rfl⟩), rfl, Or.inl ⟨w1, w2, w3, w4, w6⟩⟩), hL2_77, by rw [w5, w6]; exact hKZ, rfl⟩
        · exact ⟨_, _, _, _, _, _, _, Sm, V_55, bp_55, bl_55, Or.inr (Or.inr ⟨hbb.1, hbb.2, hex, z_55, 2, V_55.1, Or.inl (by rw [← hV_55]; exact ⟨by omega, by omega, rfl, rfl⟩), rfl, Or.inr (w3.elim (fun g => Or.inl ⟨w1, w2, w5, g⟩) (fun g => Or.inr ⟨w1, w2, w5, g⟩))⟩), hL2_77, by rw [w4, w5]; exact KZ_up hKZ ⟨fun q => by omega, fun q => by omega, fun q => by omega⟩, rfl⟩
    · skip
      have hall : ∀ j, 0 ≤ j → j < 256 → B j = B 0 := ho_11.elim (fun w => w.2) (fun w => absurd w.1 c_14)
      clear ho_11
      refine g_aload_n E dX3_write_17 rfl 0 rfl ?_
      refine g_getfield E dX3_write_18 0 3 rfl rfl (by decide) iX3 wd_200 rfl rfl ?_
      refine g_iload_n E dX3_write_21 rfl 1 rfl ?_
      refine g_callV (n := 1) (As := [.int (iI b)]) (rest := []) (wr := [(x, .inr (3, [.ref bu, .ref ki, .ref sa, .ref sto, .ref pk, .ref rd, .ref ta, .int (iI tn), .int (iI tp)])), (bu, aE cA 256 B), (ki, aE cA 32 K), (sa, aE cA 32 Sm), (bya, aE cA cap St), (pk, .inr (0, [.ref po, .int (iI pn), .int (iI pb), .int (iI pl)])), (po, aE cA 258 PO)]) E dX3_write_22 (c_X2_release l D cA sto bya ss zz od ns cap S Z O Mk b (by omega) (by exact hLR) (by omega)) wd_code_X2_release wd_241 wd_185 wd_186 wd_187 (by decide +kernel) ⟨⟨rfl, rfl⟩, ⟨(Nat.le_of_ble_eq_true rfl), (Nat.le_of_ble_eq_true rfl)⟩, ⟨(Nat.le_of_ble_eq_true rfl), (Nat.le_of_ble_eq_true rfl)⟩⟩ [4, 6, 7, 8] [0, 1, 2, 3, 5, 9, 10] rfl rfl (by decide) 0 rfl rfl rfl rfl (Nat.le_of_ble_eq_true rfl) (fun z_22 w_22 hw_22 => ?_)
      obtain ⟨S2_22, Z2_22, O2_22, n2_22, hr_22, hL2_22, hZ2_22, rfl⟩ := hw_22
      refine GG.wss (ws' := [(x, .inr (3, [.ref bu, .ref ki, .ref sa, .ref sto, .ref pk, .ref rd, .ref ta, .int (iI tn), .int (iI tp)])), (bu, aE cA 256 B), (ki, aE cA 32 K), (sa, aE cA 32 Sm), (sto, .inr (2, [.ref bya, .ref ss, .ref zz, .ref od, .int (iI n2_22)])), (bya, aE cA cap St), (ss, aE cA 32 S2_22), (zz, aE cA 32 Z2_22), (od, aE cA 32 O2_22), (pk, .inr (0, [.ref po, .int (iI pn), .int (iI pb), .int (iI pl)])), (po, aE cA 258 PO)]) [0, 1, 2, 3, 7, 4, 8, 9, 10, 5, 6] (by decide) rfl ?_
      refine g_pop E dX3_write_25 rfl ?_
      refine g_aload_n E dX3_write_26 rfl 0 rfl ?_
      refine g_getfield E dX3_write_27 0 1 rfl rfl (by decide) iX3 wd_205 rfl rfl ?_
      refine g_iload_n E dX3_write_30 rfl 1 rfl ?_
      refine g_iconst E dX3_write_31 ?_
      refine g_iastore (ws' := [(x, .inr (3, [.ref bu, .ref ki, .ref sa, .ref sto, .ref pk, .ref rd, .ref ta, .int (iI tn), .int (iI tp)])), (bu, aE cA 256 B), (ki, aE cA 32 (up K b 1)), (sa, aE cA 32 Sm), (sto, .inr (2, [.ref bya, .ref ss, .ref zz, .ref od, .int (iI n2_22)])), (bya, aE cA cap St), (ss, aE cA 32 S2_22), (zz, aE cA 32 Z2_22), (od, aE cA 32 O2_22), (pk, .inr (0, [.ref po, .int (iI pn), .int (iI pb), .int (iI pl)])), (po, aE cA 258 PO)]) E dX3_write_32 2 rfl (by omega) (by omega) (by omega) rfl ?_
      refine g_aload_n E dX3_write_33 rfl 0 rfl ?_
      refine g_getfield E dX3_write_34 0 2 rfl rfl (by decide) iX3 wd_222 rfl rfl ?_
      refine g_iload_n E dX3_write_37 rfl 1 rfl ?_
      refine g_aload_n E dX3_write_38 rfl 0 rfl ?_
      refine g_getfield E dX3_write_39 0 0 rfl rfl (by decide) iX3 wd_1 rfl rfl ?_
      refine g_iconst E dX3_write_42 ?_
      refine g_iaload E dX3_write_43 1 rfl (by omega) (by omega) (by omega) ?_
      refine g_iastore (ws' := [(x, .inr (3, [.ref bu, .ref ki, .ref sa, .ref sto, .ref pk, .ref rd, .ref ta, .int (iI tn), .int (iI tp)])), (bu, aE cA 256 B), (ki, aE cA 32 (up K b 1)), (sa, aE cA 32 (up Sm b (B 0))), (sto, .inr (2, [.ref bya, .ref ss, .ref zz, .ref od, .int (iI n2_22)])), (bya, aE cA cap St), (ss, aE cA 32 S2_22), (zz, aE cA 32 Z2_22), (od, aE cA 32 O2_22), (pk, .inr (0, [.ref po, .int (iI pn), .int (iI pb), .int (iI pl)])), (po, aE cA 258 PO)]) E dX3_write_44 3 rfl (by omega) (by omega) (by omega) rfl ?_
      refine g_iconst E dX3_write_45 ?_
      refine g_ireturn E dX3_write_46 ?_
      exact ⟨St, S2_22, Z2_22, O2_22, n2_22, rel (cap : Int) Mk b, up K b 1, up Sm b (B 0), (PO, pn), pb, pl, Or.inr (Or.inl ⟨hbb.1, hbb.2, hall, rfl, rfl, rfl, rfl, rfl⟩), hL2_22, by rw [hZ2_22]; exact KZ_up hKZ ⟨fun _ => rfl, fun q => by omega, fun q => by omega⟩, rfl⟩
  · skip
    refine g_bipush E dX3_write_7 (by decide) ?_
    refine g_ireturn E dX3_write_9 ?_
    exact ⟨St, S, Z, O, ns, Mk, K, Sm, (PO, pn), pb, pl, Or.inl ⟨by omega, rfl, rfl, rfl, rfl, rfl⟩, hLR, hKZ, rfl⟩
set_option maxHeartbeats 4000000 in
set_option maxRecDepth 100000 in
theorem c_X3_trim (l : Launch) (D : va_G) (cA : ClassId) (x : Nat) (bu : Nat) (ki : Nat) (sa : Nat) (sto : Nat) (pk : Nat) (rd : Nat) (ta : Nat) (tn : Int) (tp : Int) (bya : Nat) (ss : Nat) (zz : Nat) (od : Nat) (ns : Int) (cap : Nat) (S : Int → Int) (Z : Int → Int) (O : Int → Int) (Mk : Int → Int) (K : Int → Int) (b : Int) (hcap : cap ≤ 4096) (hLR : LR (cap : Int) ns S Z O Mk) (hb : iB b) : Ci l D vwCl cA yX3_trim (.code yX3_trim cX3_trim 2 (some .int) :: UW) ({ frames := 2, cells := 0, slots := 0, locals := 45 }) 0 0 [.ref x, .int (iI b)] [(x, .inr (3, [.ref bu, .ref ki, .ref sa, .ref sto, .ref pk, .ref rd, .ref ta, .int (iI tn), .int (iI tp)])), (ki, aE cA 32 K), (sto, .inr (2, [.ref bya, .ref ss, .ref zz, .ref od, .int (iI ns)])), (ss, aE cA 32 S), (zz, aE cA 32 Z), (od, aE cA 32 O)] (fun (r : Int) (w : va_W) => ∃ (S2 : Int → Int) (Z2 : Int → Int) (O2 : Int → Int) (n2 : Int) (Mk2 : Int → Int) (K2 : Int → Int), ((0 ≤ b ∧ b < 32 ∧ r = Z b ∧ Mk2 = rel (cap : Int) Mk b ∧ Z2 = up Z b 0 ∧ K2 = up K b 0) ∨ ((b < 0 ∨ 32 ≤ b) ∧ r = -11 ∧ Mk2 = Mk ∧ Z2 = Z ∧ K2 = K)) ∧ LR (cap : Int) n2 S2 Z2 O2 Mk2 ∧ w = [(x, .inr (3, [.ref bu, .ref ki, .ref sa, .ref sto, .ref pk, .ref rd, .ref ta, .int (iI tn), .int (iI tp)])), (ki, aE cA 32 K2), (sto, .inr (2, [.ref bya, .ref ss, .ref zz, .ref od, .int (iI n2)])), (ss, aE cA 32 S2), (zz, aE cA 32 Z2), (od, aE cA 32 O2)]) := by
  refine Ci.mk (by decide) (Nat.le_of_ble_eq_true rfl) ?_
  intro p e s m args below meth c A E
  refine GG.lvs (lv' := [(0, .ref x), (1, .int (iI b))]) [0, 1] rfl ?_
  refine g_iload_n E dX3_trim_0 rfl 1 rfl ?_
  refine g_callS (n := 1) (As := [.int (iI b)]) (rest := []) (wr := [(x, .inr (3, [.ref bu, .ref ki, .ref sa, .ref sto, .ref pk, .ref rd, .ref ta, .int (iI tn), .int (iI tp)])), (ki, aE cA 32 K), (sto, .inr (2, [.ref bya, .ref ss, .ref zz, .ref od, .int (iI ns)])), (ss, aE cA 32 S), (zz, aE cA 32 Z), (od, aE cA 32 O)]) E dX3_trim_1 (c_X3_isBlock l D cA b (by omega)) wd_code_X3_isBlock wd_216 wd_217 wd_218 (by decide +kernel) ⟨⟨rfl, rfl⟩, ⟨(Nat.le_of_ble_eq_true rfl), (Nat.le_of_ble_eq_true rfl)⟩, ⟨(Nat.le_of_ble_eq_true rfl), (Nat.le_of_ble_eq_true rfl)⟩⟩ [] [0, 1, 2, 3, 4, 5] rfl rfl (by decide) rfl rfl (Nat.le_of_ble_eq_true rfl) (fun z_1 w_1 hw_1 => ?_)
  obtain ⟨h_1, rfl⟩ := hw_1
  refine GG.wss (ws' := [(x, .inr (3, [.ref bu, .ref ki, .ref sa, .ref sto, .ref pk, .ref rd, .ref ta, .int (iI tn), .int (iI tp)])), (ki, aE cA 32 K), (sto, .inr (2, [.ref bya, .ref ss, .ref zz, .ref od, .int (iI ns)])), (ss, aE cA 32 S), (zz, aE cA 32 Z), (od, aE cA 32 O)]) [0, 1, 2, 3, 4, 5] (by decide) rfl ?_
  refine g_if_ne (tgt := 10) E dX3_trim_4 (by decide) ⟨(by omega), (by omega)⟩ (fun c_4 => ?_) (fun c_4 => ?_)
  · skip
    refine g_aload_n E dX3_trim_10 rfl 0 rfl ?_
    refine g_getfield E dX3_trim_11 0 1 rfl rfl (by decide) iX3 wd_205 rfl rfl ?_
    refine g_iload_n E dX3_trim_14 rfl 1 rfl ?_
    refine g_iconst E dX3_trim_15 ?_
    refine g_iastore (ws' := [(x, .inr (3, [.ref bu, .ref ki, .ref sa, .ref sto, .ref pk, .ref rd, .ref ta, .int (iI tn), .int (iI tp)])), (ki, aE cA 32 (up K b 0)), (sto, .inr (2, [.ref bya, .ref ss, .ref zz, .ref od, .int (iI ns)])), (ss, aE cA 32 S), (zz, aE cA 32 Z), (od, aE cA 32 O)]) E dX3_trim_16 1 rfl (by omega) (by omega) (by omega) rfl ?_
    refine g_aload_n E dX3_trim_17 rfl 0 rfl ?_
    refine g_getfield E dX3_trim_18 0 3 rfl rfl (by decide) iX3 wd_200 rfl rfl ?_
    refine g_iload_n E dX3_trim_21 rfl 1 rfl ?_
    refine g_callV (n := 1) (As := [.int (iI b)]) (rest := []) (wr := [(x, .inr (3, [.ref bu, .ref ki, .ref sa, .ref sto, .ref pk, .ref rd, .ref ta, .int (iI tn), .int (iI tp)])), (ki, aE cA 32 (up K b 0))]) E dX3_trim_22 (c_X2_release l D cA sto bya ss zz od ns cap S Z O Mk b (by omega) (by exact hLR) (by omega)) wd_code_X2_release wd_241 wd_185 wd_186 wd_187 (by decide +kernel) ⟨⟨rfl, rfl⟩, ⟨(Nat.le_of_ble_eq_true rfl), (Nat.le_of_ble_eq_true rfl)⟩, ⟨(Nat.le_of_ble_eq_true rfl), (Nat.le_of_ble_eq_true rfl)⟩⟩ [2, 3, 4, 5] [0, 1] rfl rfl (by decide) 0 rfl rfl rfl rfl (Nat.le_of_ble_eq_true rfl) (fun z_22 w_22 hw_22 => ?_)
    obtain ⟨S2_22, Z2_22, O2_22, n2_22, hr_22, hL2_22, hZ2_22, rfl⟩ := hw_22
    refine GG.wss (ws' := [(x, .inr (3, [.ref bu, .ref ki, .ref sa, .ref sto, .ref pk, .ref rd, .ref ta, .int (iI tn), .int (iI tp)])), (ki, aE cA 32 (up K b 0)), (sto, .inr (2, [.ref bya, .ref ss, .ref zz, .ref od, .int (iI n2_22)])), (ss, aE cA 32 S2_22), (zz, aE cA 32 Z2_22), (od, aE cA 32 O2_22)]) [0, 1, 2, 3, 4, 5] (by decide) rfl ?_
    refine g_ireturn E dX3_trim_25 ?_
    exact ⟨_, _, _, _, _, _, Or.inl ⟨by omega, by omega, hr_22, rfl, hZ2_22, rfl⟩, hL2_22, rfl⟩
  · skip
    refine g_bipush E dX3_trim_7 (by decide) ?_
    refine g_ireturn E dX3_trim_9 ?_
    exact ⟨S, Z, O, ns, Mk, K, Or.inr ⟨by omega, rfl, rfl, rfl, rfl⟩, hLR, rfl⟩
set_option maxHeartbeats 4000000 in
set_option maxRecDepth 100000 in
theorem c_X3_slot (l : Launch) (D : va_G) (cA : ClassId) (x : Nat) (bu : Nat) (ki : Nat) (sa : Nat) (sto : Nat) (pk : Nat) (rd : Nat) (ta : Nat) (tn : Int) (tp : Int) (bya : Nat) (ss : Nat) (zz : Nat) (od : Nat) (ns : Int) (S : Int → Int) (Z : Int → Int) (K : Int → Int) (b : Int) (wh : Int) (hb : iB b) (hwh : iB wh) : Ci l D vwCl cA yX3_slot (.code yX3_slot cX3_slot 3 (some .int) :: UW) ({ frames := 1, cells := 0, slots := 0, locals := 20 }) 0 0 [.ref x, .int (iI b), .int (iI wh)] [(x, .inr (3, [.ref bu, .ref ki, .ref sa, .ref sto, .ref pk, .ref rd, .ref ta, .int (iI tn), .int (iI tp)])), (ki, aE cA 32 K), (sto, .inr (2, [.ref bya, .ref ss, .ref zz, .ref od, .int (iI ns)])), (ss, aE cA 32 S), (zz, aE cA 32 Z)] (fun (r : Int) (w : va_W) => (((b < 0 ∨ 32 ≤ b) ∧ r = -11) ∨ (0 ≤ b ∧ b < 32 ∧ ((wh < 0 ∨ 2 < wh) ∧ r = -12 ∨ wh = 0 ∧ r = K b ∨ wh = 1 ∧ r = Z b ∨ wh = 2 ∧ r = S b))) ∧ w = [(x, .inr (3, [.ref bu, .ref ki, .ref sa, .ref sto, .ref pk, .ref rd, .ref ta, .int (iI tn), .int (iI tp)])), (ki, aE cA 32 K), (sto, .inr (2, [.ref bya, .ref ss, .ref zz, .ref od, .int (iI ns)])), (ss, aE cA 32 S), (zz, aE cA 32 Z)]) := by
  refine Ci.mk (by decide) (Nat.le_of_ble_eq_true rfl) ?_
  intro p e s m args below meth c A E
  refine GG.lvs (lv' := [(0, .ref x), (1, .int (iI b)), (2, .int (iI wh))]) [0, 1, 2] rfl ?_
  refine g_iload_n E dX3_slot_0 rfl 1 rfl ?_
  refine g_callS (n := 1) (As := [.int (iI b)]) (rest := []) (wr := [(x, .inr (3, [.ref bu, .ref ki, .ref sa, .ref sto, .ref pk, .ref rd, .ref ta, .int (iI tn), .int (iI tp)])), (ki, aE cA 32 K), (sto, .inr (2, [.ref bya, .ref ss, .ref zz, .ref od, .int (iI ns)])), (ss, aE cA 32 S), (zz, aE cA 32 Z)]) E dX3_slot_1 (c_X3_isBlock l D cA b (by omega)) wd_code_X3_isBlock wd_216 wd_217 wd_218 (by decide +kernel) ⟨⟨rfl, rfl⟩, ⟨(Nat.le_of_ble_eq_true rfl), (Nat.le_of_ble_eq_true rfl)⟩, ⟨(Nat.le_of_ble_eq_true rfl), (Nat.le_of_ble_eq_true rfl)⟩⟩ [] [0, 1, 2, 3, 4] rfl rfl (by decide) rfl rfl (Nat.le_of_ble_eq_true rfl) (fun z_1 w_1 hw_1 => ?_)
  obtain ⟨h_1, rfl⟩ := hw_1
  refine GG.wss (ws' := [(x, .inr (3, [.ref bu, .ref ki, .ref sa, .ref sto, .ref pk, .ref rd, .ref ta, .int (iI tn), .int (iI tp)])), (ki, aE cA 32 K), (sto, .inr (2, [.ref bya, .ref ss, .ref zz, .ref od, .int (iI ns)])), (ss, aE cA 32 S), (zz, aE cA 32 Z)]) [0, 1, 2, 3, 4] (by decide) rfl ?_
  refine g_if_ne (tgt := 10) E dX3_slot_4 (by decide) ⟨(by omega), (by omega)⟩ (fun c_4 => ?_) (fun c_4 => ?_)
  · skip
    refine g_iload_n E dX3_slot_10 rfl 2 rfl ?_
    by_cases sw0 : wh = 0
    · refine g_tsIn (tgt := 36) E dX3_slot_11 ⟨by omega, by omega⟩ (by omega) (by omega) (by rw [sw0]; rfl) (by decide) ?_
      refine g_aload_n E dX3_slot_36 rfl 0 rfl ?_
      refine g_getfield E dX3_slot_37 0 1 rfl rfl (by decide) iX3 wd_205 rfl rfl ?_
      refine g_iload_n E dX3_slot_40 rfl 1 rfl ?_
      refine g_iaload E dX3_slot_41 1 rfl (by omega) (by omega) (by omega) ?_
      refine g_ireturn E dX3_slot_42 ?_
      exact ⟨Or.inr ⟨by omega, by omega, Or.inr (Or.inl ⟨sw0, rfl⟩)⟩, rfl⟩
    by_cases sw1 : wh = 1
    · refine g_tsIn (tgt := 43) E dX3_slot_11 ⟨by omega, by omega⟩ (by omega) (by omega) (by rw [sw1]; rfl) (by decide) ?_
      refine g_aload_n E dX3_slot_43 rfl 0 rfl ?_
      refine g_getfield E dX3_slot_44 0 3 rfl rfl (by decide) iX3 wd_200 rfl rfl ?_
      refine g_getfield E dX3_slot_47 2 2 rfl rfl (by decide) iX2 wd_209 rfl rfl ?_
      refine g_iload_n E dX3_slot_50 rfl 1 rfl ?_
      refine g_iaload E dX3_slot_51 4 rfl (by omega) (by omega) (by omega) ?_
      refine g_ireturn E dX3_slot_52 ?_
      exact ⟨Or.inr ⟨by omega, by omega, Or.inr (Or.inr (Or.inl ⟨sw1, rfl⟩))⟩, rfl⟩
    by_cases sw2 : wh = 2
    · refine g_tsIn (tgt := 53) E dX3_slot_11 ⟨by omega, by omega⟩ (by omega) (by omega) (by rw [sw2]; rfl) (by decide) ?_
      refine g_aload_n E dX3_slot_53 rfl 0 rfl ?_
      refine g_getfield E dX3_slot_54 0 3 rfl rfl (by decide) iX3 wd_200 rfl rfl ?_
      refine g_getfield E dX3_slot_57 2 1 rfl rfl (by decide) iX2 wd_208 rfl rfl ?_
      refine g_iload_n E dX3_slot_60 rfl 1 rfl ?_
      refine g_iaload E dX3_slot_61 3 rfl (by omega) (by omega) (by omega) ?_
      refine g_ireturn E dX3_slot_62 ?_
      exact ⟨Or.inr ⟨by omega, by omega, Or.inr (Or.inr (Or.inr ⟨sw2, rfl⟩))⟩, rfl⟩
    refine g_tsOut (tgt := 63) E dX3_slot_11 ⟨by omega, by omega⟩ (by omega) (by decide) ?_
    refine g_bipush E dX3_slot_63 (by decide) ?_
    refine g_ireturn E dX3_slot_65 ?_
    exact ⟨by omega, rfl⟩
  · skip
    refine g_bipush E dX3_slot_7 (by decide) ?_
    refine g_ireturn E dX3_slot_9 ?_
    exact ⟨by omega, rfl⟩
set_option maxHeartbeats 4000000 in
set_option maxRecDepth 100000 in
theorem c_X3_stored (l : Launch) (D : va_G) (cA : ClassId) (x : Nat) (bu : Nat) (ki : Nat) (sa : Nat) (sto : Nat) (pk : Nat) (rd : Nat) (ta : Nat) (tn : Int) (tp : Int) (bya : Nat) (ss : Nat) (zz : Nat) (od : Nat) (ns : Int) (cap : Nat) (St : Int → Int) (i : Int) (hcap : cap ≤ 4096) (hi : iB i) : Ci l D vwCl cA yX3_stored (.code yX3_stored cX3_stored 2 (some .int) :: UW) ({ frames := 1, cells := 0, slots := 0, locals := 21 }) 0 0 [.ref x, .int (iI i)] [(x, .inr (3, [.ref bu, .ref ki, .ref sa, .ref sto, .ref pk, .ref rd, .ref ta, .int (iI tn), .int (iI tp)])), (sto, .inr (2, [.ref bya, .ref ss, .ref zz, .ref od, .int (iI ns)])), (bya, aE cA cap St)] (fun (r : Int) (w : va_W) => r = storedR (cap : Int) St i ∧ w = [(x, .inr (3, [.ref bu, .ref ki, .ref sa, .ref sto, .ref pk, .ref rd, .ref ta, .int (iI tn), .int (iI tp)])), (sto, .inr (2, [.ref bya, .ref ss, .ref zz, .ref od, .int (iI ns)])), (bya, aE cA cap St)]) := by
  refine Ci.mk (by decide) (Nat.le_of_ble_eq_true rfl) ?_
  intro p e s m args below meth c A E
  refine GG.lvs (lv' := [(0, .ref x), (1, .int (iI i))]) [0, 1] rfl ?_
  refine g_aload_n E dX3_stored_0 rfl 0 rfl ?_
  refine g_getfield E dX3_stored_1 0 3 rfl rfl (by decide) iX3 wd_200 rfl rfl ?_
  refine g_iload_n E dX3_stored_4 rfl 1 rfl ?_
  refine g_callV (n := 1) (As := [.int (iI i)]) (rest := []) (wr := [(x, .inr (3, [.ref bu, .ref ki, .ref sa, .ref sto, .ref pk, .ref rd, .ref ta, .int (iI tn), .int (iI tp)]))]) E dX3_stored_5 (c_X2_has l D cA sto bya ss zz od ns cap St i (by omega) (by omega)) wd_code_X2_has wd_242 wd_243 wd_244 wd_245 (by decide +kernel) ⟨⟨rfl, rfl⟩, ⟨(Nat.le_of_ble_eq_true rfl), (Nat.le_of_ble_eq_true rfl)⟩, ⟨(Nat.le_of_ble_eq_true rfl), (Nat.le_of_ble_eq_true rfl)⟩⟩ [1, 2] [0] rfl rfl (by decide) 0 rfl rfl rfl rfl (Nat.le_of_ble_eq_true rfl) (fun z_5 w_5 hw_5 => ?_)
  obtain ⟨hh_5, rfl⟩ := hw_5
  refine GG.wss (ws' := [(x, .inr (3, [.ref bu, .ref ki, .ref sa, .ref sto, .ref pk, .ref rd, .ref ta, .int (iI tn), .int (iI tp)])), (sto, .inr (2, [.ref bya, .ref ss, .ref zz, .ref od, .int (iI ns)])), (bya, aE cA cap St)]) [0, 1, 2] (by decide) rfl ?_
  refine g_if_eq (tgt := 23) E dX3_stored_8 (by decide) ⟨(by omega), (by omega)⟩ (fun c_8 => ?_) (fun c_8 => ?_)
  · skip
    refine g_iconst E dX3_stored_23 ?_
    refine g_ireturn E dX3_stored_24 ?_
    refine ⟨?_, rfl⟩; unfold storedR; (split <;> first | rfl | omega)
  · skip
    refine g_aload_n E dX3_stored_11 rfl 0 rfl ?_
    refine g_getfield E dX3_stored_12 0 3 rfl rfl (by decide) iX3 wd_200 rfl rfl ?_
    refine g_getfield E dX3_stored_15 1 0 rfl rfl (by decide) iX2 wd_207 rfl rfl ?_
    refine g_iload_n E dX3_stored_18 rfl 1 rfl ?_
    refine g_iaload E dX3_stored_19 2 rfl (by omega) (by omega) (by omega) ?_
    refine g_goto (tgt := 24) E dX3_stored_20 (by decide) ?_
    refine g_ireturn E dX3_stored_24 ?_
    refine ⟨?_, rfl⟩; unfold storedR; (split <;> first | rfl | omega)
set_option maxHeartbeats 4000000 in
set_option maxRecDepth 100000 in
theorem c_X3_alter (l : Launch) (D : va_G) (cA : ClassId) (x : Nat) (bu : Nat) (ki : Nat) (sa : Nat) (sto : Nat) (pk : Nat) (rd : Nat) (ta : Nat) (tn : Int) (tp : Int) (bya : Nat) (ss : Nat) (zz : Nat) (od : Nat) (ns : Int) (cap : Nat) (St : Int → Int) (i : Int) (v : Int) (hcap : cap ≤ 4096) (hi : iB i) (hv : iB v) (hSt : byR (cap : Int) St) : Ci l D vwCl cA yX3_alter (.code yX3_alter cX3_alter 3 (some .int) :: UW) ({ frames := 1, cells := 0, slots := 0, locals := 21 }) 0 0 [.ref x, .int (iI i), .int (iI v)] [(x, .inr (3, [.ref bu, .ref ki, .ref sa, .ref sto, .ref pk, .ref rd, .ref ta, .int (iI tn), .int (iI tp)])), (sto, .inr (2, [.ref bya, .ref ss, .ref zz, .ref od, .int (iI ns)])), (bya, aE cA cap St)] (fun (r : Int) (w : va_W) => r = alterR (cap : Int) i ∧ w = [(x, .inr (3, [.ref bu, .ref ki, .ref sa, .ref sto, .ref pk, .ref rd, .ref ta, .int (iI tn), .int (iI tp)])), (sto, .inr (2, [.ref bya, .ref ss, .ref zz, .ref od, .int (iI ns)])), (bya, aE cA cap (alterS (cap : Int) St i v))]) := by
  refine Ci.mk (by decide) (Nat.le_of_ble_eq_true rfl) ?_
  intro p e s m args below meth c A E
  refine GG.lvs (lv' := [(0, .ref x), (1, .int (iI i)), (2, .int (iI v))]) [0, 1, 2] rfl ?_
  refine g_aload_n E dX3_alter_0 rfl 0 rfl ?_
  refine g_getfield E dX3_alter_1 0 3 rfl rfl (by decide) iX3 wd_200 rfl rfl ?_
  refine g_iload_n E dX3_alter_4 rfl 1 rfl ?_
  refine g_callV (n := 1) (As := [.int (iI i)]) (rest := []) (wr := [(x, .inr (3, [.ref bu, .ref ki, .ref sa, .ref sto, .ref pk, .ref rd, .ref ta, .int (iI tn), .int (iI tp)]))]) E dX3_alter_5 (c_X2_has l D cA sto bya ss zz od ns cap St i (by omega) (by omega)) wd_code_X2_has wd_242 wd_243 wd_244 wd_245 (by decide +kernel) ⟨⟨rfl, rfl⟩, ⟨(Nat.le_of_ble_eq_true rfl), (Nat.le_of_ble_eq_true rfl)⟩, ⟨(Nat.le_of_ble_eq_true rfl), (Nat.le_of_ble_eq_true rfl)⟩⟩ [1, 2] [0] rfl rfl (by decide) 0 rfl rfl rfl rfl (Nat.le_of_ble_eq_true rfl) (fun z_5 w_5 hw_5 => ?_)
  obtain ⟨hh_5, rfl⟩ := hw_5
  refine GG.wss (ws' := [(x, .inr (3, [.ref bu, .ref ki, .ref sa, .ref sto, .ref pk, .ref rd, .ref ta, .int (iI tn), .int (iI tp)])), (sto, .inr (2, [.ref bya, .ref ss, .ref zz, .ref od, .int (iI ns)])), (bya, aE cA cap St)]) [0, 1, 2] (by decide) rfl ?_
  refine g_if_ne (tgt := 14) E dX3_alter_8 (by decide) ⟨(by omega), (by omega)⟩ (fun c_8 => ?_) (fun c_8 => ?_)
  · skip
    refine g_aload_n E dX3_alter_14 rfl 0 rfl ?_
    refine g_getfield E dX3_alter_15 0 3 rfl rfl (by decide) iX3 wd_200 rfl rfl ?_
    refine g_getfield E dX3_alter_18 1 0 rfl rfl (by decide) iX2 wd_207 rfl rfl ?_
    refine g_iload_n E dX3_alter_21 rfl 1 rfl ?_
    refine g_dup2 E dX3_alter_22 rfl rfl ?_
    refine g_iaload E dX3_alter_23 2 rfl (by omega) (by omega) (by omega) ?_
    have hs := hSt i (by omega) (by omega)
    refine g_iload_n E dX3_alter_24 rfl 2 rfl ?_
    refine g_sipush E dX3_alter_25 (by decide) ?_
    refine g_iand255 E dX3_alter_28 ?_
    refine g_ixor E dX3_alter_29 (by omega) (by omega) ?_
    refine g_iastore (ws' := [(x, .inr (3, [.ref bu, .ref ki, .ref sa, .ref sto, .ref pk, .ref rd, .ref ta, .int (iI tn), .int (iI tp)])), (sto, .inr (2, [.ref bya, .ref ss, .ref zz, .ref od, .int (iI ns)])), (bya, aE cA cap (up St i (xr (St i) (v % 256))))]) E dX3_alter_30 2 rfl (by omega) (by omega) (by omega) rfl ?_
    refine g_iconst E dX3_alter_31 ?_
    refine g_ireturn E dX3_alter_32 ?_
    have hc : 0 ≤ i ∧ i < (cap : Int) := by omega
    exact ⟨by rw [alterR, if_pos hc], by rw [alterS, if_pos hc]⟩
  · skip
    refine g_bipush E dX3_alter_11 (by decide) ?_
    refine g_ireturn E dX3_alter_13 ?_
    have hc : ¬ (0 ≤ i ∧ i < (cap : Int)) := by omega
    exact ⟨by rw [alterR, if_neg hc], by rw [alterS, if_neg hc]⟩
set_option maxHeartbeats 4000000 in
set_option maxRecDepth 100000 in
theorem c_X3_compact (l : Launch) (D : va_G) (cA : ClassId) (x : Nat) (bu : Nat) (ki : Nat) (sa : Nat) (sto : Nat) (pk : Nat) (rd : Nat) (ta : Nat) (tn : Int) (tp : Int) (bya : Nat) (ss : Nat) (zz : Nat) (od : Nat) (ns : Int) (cap : Nat) (St : Int → Int) (S : Int → Int) (Z : Int → Int) (O : Int → Int) (Mk : Int → Int) (hcap : cap ≤ 4096) (hLR : LR (cap : Int) ns S Z O Mk) : Ci l D vwCl cA yX3_compact (.code yX3_compact cX3_compact 1 (some .int) :: UW) ({ frames := 2, cells := 0, slots := 0, locals := 54 }) 0 0 [.ref x] [(x, .inr (3, [.ref bu, .ref ki, .ref sa, .ref sto, .ref pk, .ref rd, .ref ta, .int (iI tn), .int (iI tp)])), (sto, .inr (2, [.ref bya, .ref ss, .ref zz, .ref od, .int (iI ns)])), (bya, aE cA cap St), (ss, aE cA 32 S), (zz, aE cA 32 Z), (od, aE cA 32 O)] (fun (r : Int) (w : va_W) => ∃ (P2 : Int → Int), r = (tg St Mk (cap : Int).toNat).2.2.2 ∧ LR (cap : Int) ns P2 Z O (tg St Mk (cap : Int).toNat).2.1 ∧ w = [(x, .inr (3, [.ref bu, .ref ki, .ref sa, .ref sto, .ref pk, .ref rd, .ref ta, .int (iI tn), .int (iI tp)])), (sto, .inr (2, [.ref bya, .ref ss, .ref zz, .ref od, .int (iI ns)])), (bya, aE cA cap ((tg St Mk (cap : Int).toNat).1)), (ss, aE cA 32 P2), (zz, aE cA 32 Z), (od, aE cA 32 O)]) := by
  refine Ci.mk (by decide) (Nat.le_of_ble_eq_true rfl) ?_
  intro p e s m args below meth c A E
  refine GG.lvs (lv' := [(0, .ref x)]) [0] rfl ?_
  refine g_aload_n E dX3_compact_0 rfl 0 rfl ?_
  refine g_getfield E dX3_compact_1 0 3 rfl rfl (by decide) iX3 wd_200 rfl rfl ?_
  refine g_callV (n := 0) (As := []) (rest := []) (wr := [(x, .inr (3, [.ref bu, .ref ki, .ref sa, .ref sto, .ref pk, .ref rd, .ref ta, .int (iI tn), .int (iI tp)]))]) E dX3_compact_4 (c_X2_putTogether l D cA sto bya ss zz od ns cap St S Z O Mk (by omega) (by exact hLR)) wd_code_X2_putTogether wd_246 wd_197 wd_198 wd_199 (by decide +kernel) ⟨⟨rfl, rfl⟩, ⟨(Nat.le_of_ble_eq_true rfl), (Nat.le_of_ble_eq_true rfl)⟩, ⟨(Nat.le_of_ble_eq_true rfl), (Nat.le_of_ble_eq_true rfl)⟩⟩ [1, 2, 3, 4, 5] [0] rfl rfl (by decide) 0 rfl rfl rfl rfl (Nat.le_of_ble_eq_true rfl) (fun z_4 w_4 hw_4 => ?_)
  obtain ⟨P2_4, hr_4, hL2_4, ht_4, rfl⟩ := hw_4
  refine GG.wss (ws' := [(x, .inr (3, [.ref bu, .ref ki, .ref sa, .ref sto, .ref pk, .ref rd, .ref ta, .int (iI tn), .int (iI tp)])), (sto, .inr (2, [.ref bya, .ref ss, .ref zz, .ref od, .int (iI ns)])), (bya, aE cA cap ((tg St Mk (cap : Int).toNat).1)), (ss, aE cA 32 P2_4), (zz, aE cA 32 Z), (od, aE cA 32 O)]) [0, 1, 2, 3, 4, 5] (by decide) rfl ?_
  refine g_ireturn E dX3_compact_7 ?_
  exact ⟨P2_4, hr_4, hL2_4, rfl⟩
set_option maxHeartbeats 4000000 in
set_option maxRecDepth 100000 in
theorem c_X3_free (l : Launch) (D : va_G) (cA : ClassId) (x : Nat) (bu : Nat) (ki : Nat) (sa : Nat) (sto : Nat) (pk : Nat) (rd : Nat) (ta : Nat) (tn : Int) (tp : Int) (bya : Nat) (ss : Nat) (zz : Nat) (od : Nat) (ns : Int) (cap : Nat) (St : Int → Int) (S : Int → Int) (Z : Int → Int) (O : Int → Int) (Mk : Int → Int) (wh : Int) (hcap : cap ≤ 4096) (hLR : LR (cap : Int) ns S Z O Mk) (hwh : iB wh) : Ci l D vwCl cA yX3_free (.code yX3_free cX3_free 2 (some .int) :: UW) ({ frames := 3, cells := 0, slots := 0, locals := 65 }) 0 0 [.ref x, .int (iI wh)] [(x, .inr (3, [.ref bu, .ref ki, .ref sa, .ref sto, .ref pk, .ref rd, .ref ta, .int (iI tn), .int (iI tp)])), (sto, .inr (2, [.ref bya, .ref ss, .ref zz, .ref od, .int (iI ns)])), (bya, aE cA cap St), (ss, aE cA 32 S), (zz, aE cA 32 Z), (od, aE cA 32 O)] (fun (r : Int) (w : va_W) => (((wh < 0 ∨ 2 < wh) ∧ r = -12) ∨ (wh = 0 ∧ r = (fre Mk (cap : Int).toNat).1) ∨ (wh = 1 ∧ r = (fre Mk (cap : Int).toNat).2.1) ∨ (wh = 2 ∧ r = (fre Mk (cap : Int).toNat).2.2.1)) ∧ w = [(x, .inr (3, [.ref bu, .ref ki, .ref sa, .ref sto, .ref pk, .ref rd, .ref ta, .int (iI tn), .int (iI tp)])), (sto, .inr (2, [.ref bya, .ref ss, .ref zz, .ref od, .int (iI ns)])), (bya, aE cA cap St), (ss, aE cA 32 S), (zz, aE cA 32 Z), (od, aE cA 32 O)]) := by
  refine Ci.mk (by decide) (Nat.le_of_ble_eq_true rfl) ?_
  intro p e s m args below meth c A E
  refine GG.lvs (lv' := [(0, .ref x), (1, .int (iI wh))]) [0, 1] rfl ?_
  refine g_iload_n E dX3_free_0 rfl 1 rfl ?_
  by_cases sw0 : wh = 0
  · refine g_tsIn (tgt := 28) E dX3_free_1 ⟨by omega, by omega⟩ (by omega) (by omega) (by rw [sw0]; rfl) (by decide) ?_
    refine g_aload_n E dX3_free_28 rfl 0 rfl ?_
    refine g_getfield E dX3_free_29 0 3 rfl rfl (by decide) iX3 wd_200 rfl rfl ?_
    refine g_callV (n := 0) (As := []) (rest := []) (wr := [(x, .inr (3, [.ref bu, .ref ki, .ref sa, .ref sto, .ref pk, .ref rd, .ref ta, .int (iI tn), .int (iI tp)]))]) E dX3_free_32 (c_X2_freeBytes l D cA sto bya ss zz od ns cap St S Z O Mk (by omega) (by exact hLR)) wd_code_X2_freeBytes wd_247 wd_181 wd_182 wd_183 (by decide +kernel) ⟨⟨rfl, rfl⟩, ⟨(Nat.le_of_ble_eq_true rfl), (Nat.le_of_ble_eq_true rfl)⟩, ⟨(Nat.le_of_ble_eq_true rfl), (Nat.le_of_ble_eq_true rfl)⟩⟩ [1, 2, 3, 4, 5] [0] rfl rfl (by decide) 0 rfl rfl rfl rfl (Nat.le_of_ble_eq_true rfl) (fun z_32 w_32 hw_32 => ?_)
    obtain ⟨hr_32, hr2_32, rfl⟩ := hw_32
    refine GG.wss (ws' := [(x, .inr (3, [.ref bu, .ref ki, .ref sa, .ref sto, .ref pk, .ref rd, .ref ta, .int (iI tn), .int (iI tp)])), (sto, .inr (2, [.ref bya, .ref ss, .ref zz, .ref od, .int (iI ns)])), (bya, aE cA cap St), (ss, aE cA 32 S), (zz, aE cA 32 Z), (od, aE cA 32 O)]) [0, 1, 2, 3, 4, 5] (by decide) rfl ?_
    refine g_ireturn E dX3_free_35 ?_
    exact ⟨Or.inr (Or.inl ⟨sw0, hr_32⟩), rfl⟩
  by_cases sw1 : wh = 1
  · refine g_tsIn (tgt := 36) E dX3_free_1 ⟨by omega, by omega⟩ (by omega) (by omega) (by rw [sw1]; rfl) (by decide) ?_
    refine g_aload_n E dX3_free_36 rfl 0 rfl ?_
    refine g_getfield E dX3_free_37 0 3 rfl rfl (by decide) iX3 wd_200 rfl rfl ?_
    refine g_callV (n := 0) (As := []) (rest := []) (wr := [(x, .inr (3, [.ref bu, .ref ki, .ref sa, .ref sto, .ref pk, .ref rd, .ref ta, .int (iI tn), .int (iI tp)]))]) E dX3_free_40 (c_X2_longestGap l D cA sto bya ss zz od ns cap St S Z O Mk (by omega) (by exact hLR)) wd_code_X2_longestGap wd_248 wd_249 wd_250 wd_251 (by decide +kernel) ⟨⟨rfl, rfl⟩, ⟨(Nat.le_of_ble_eq_true rfl), (Nat.le_of_ble_eq_true rfl)⟩, ⟨(Nat.le_of_ble_eq_true rfl), (Nat.le_of_ble_eq_true rfl)⟩⟩ [1, 2, 3, 4, 5] [0] rfl rfl (by decide) 0 rfl rfl rfl rfl (Nat.le_of_ble_eq_true rfl) (fun z_40 w_40 hw_40 => ?_)
    obtain ⟨hr_40, hr2_40, rfl⟩ := hw_40
    refine GG.wss (ws' := [(x, .inr (3, [.ref bu, .ref ki, .ref sa, .ref sto, .ref pk, .ref rd, .ref ta, .int (iI tn), .int (iI tp)])), (sto, .inr (2, [.ref bya, .ref ss, .ref zz, .ref od, .int (iI ns)])), (bya, aE cA cap St), (ss, aE cA 32 S), (zz, aE cA 32 Z), (od, aE cA 32 O)]) [0, 1, 2, 3, 4, 5] (by decide) rfl ?_
    refine g_ireturn E dX3_free_43 ?_
    exact ⟨Or.inr (Or.inr (Or.inl ⟨sw1, hr_40⟩)), rfl⟩
  by_cases sw2 : wh = 2
  · refine g_tsIn (tgt := 44) E dX3_free_1 ⟨by omega, by omega⟩ (by omega) (by omega) (by rw [sw2]; rfl) (by decide) ?_
    refine g_aload_n E dX3_free_44 rfl 0 rfl ?_
    refine g_getfield E dX3_free_45 0 3 rfl rfl (by decide) iX3 wd_200 rfl rfl ?_
    refine g_callV (n := 0) (As := []) (rest := []) (wr := [(x, .inr (3, [.ref bu, .ref ki, .ref sa, .ref sto, .ref pk, .ref rd, .ref ta, .int (iI tn), .int (iI tp)]))]) E dX3_free_48 (c_X2_freeRows l D cA sto bya ss zz od ns cap St S Z O Mk (by omega) (by exact hLR)) wd_code_X2_freeRows wd_252 wd_253 wd_254 wd_255 (by decide +kernel) ⟨⟨rfl, rfl⟩, ⟨(Nat.le_of_ble_eq_true rfl), (Nat.le_of_ble_eq_true rfl)⟩, ⟨(Nat.le_of_ble_eq_true rfl), (Nat.le_of_ble_eq_true rfl)⟩⟩ [1, 2, 3, 4, 5] [0] rfl rfl (by decide) 0 rfl rfl rfl rfl (Nat.le_of_ble_eq_true rfl) (fun z_48 w_48 hw_48 => ?_)
    obtain ⟨hr_48, hr2_48, rfl⟩ := hw_48
    refine GG.wss (ws' := [(x, .inr (3, [.ref bu, .ref ki, .ref sa, .ref sto, .ref pk, .ref rd, .ref ta, .int (iI tn), .int (iI tp)])), (sto, .inr (2, [.ref bya, .ref ss, .ref zz, .ref od, .int (iI ns)])), (bya, aE cA cap St), (ss, aE cA 32 S), (zz, aE cA 32 Z), (od, aE cA 32 O)]) [0, 1, 2, 3, 4, 5] (by decide) rfl ?_
    refine g_ireturn E dX3_free_51 ?_
    exact ⟨Or.inr (Or.inr (Or.inr ⟨sw2, hr_48⟩)), rfl⟩
  refine g_tsOut (tgt := 52) E dX3_free_1 ⟨by omega, by omega⟩ (by omega) (by decide) ?_
  refine g_bipush E dX3_free_52 (by decide) ?_
  refine g_ireturn E dX3_free_54 ?_
  exact ⟨Or.inl ⟨by omega, rfl⟩, rfl⟩
set_option maxHeartbeats 4000000 in
set_option maxRecDepth 100000 in
theorem c_X3_decode (l : Launch) (D : va_G) (cA : ClassId) (x : Nat) (bu : Nat) (ki : Nat) (sa : Nat) (sto : Nat) (pk : Nat) (rd : Nat) (ta : Nat) (tn : Int) (tp : Int) (ro : Nat) (os : Nat) (re : Int) (rx : Int) (os0 : Int) (ol : Int) (ra : Int) (rc : Int) (RO : Int → Int) (TA : Int → Int) (B : Int → Int) (htn : 0 ≤ tn ∧ tn ≤ 600) (hTA : byR tn TA) : Ci l D vwCl cA yX3_decode (.code yX3_decode cX3_decode 2 (some .int) :: UW) ({ frames := 6, cells := 0, slots := 0, locals := 140 }) 0 0 [.ref x] [(x, .inr (3, [.ref bu, .ref ki, .ref sa, .ref sto, .ref pk, .ref rd, .ref ta, .int (iI tn), .int (iI tp)])), (rd, .inr (1, [.ref ro, .int (iI re), .int (iI rx), .ref os, .int (iI os0), .int (iI ol), .int (iI ra), .int (iI rc)])), (ro, aE cA 256 RO), (ta, aE cA 600 TA), (bu, aE cA 256 B)] (fun (r : Int) (w : va_W) => ∃ (ue : Int) (ux : Int) (ua : Int) (uc : Int) (UO : Int → Int) (B2 : Int → Int), (((rdf TA tn 5000 0 0 RO).1 = 0 ∧ r = (rdf TA tn 5000 0 0 RO).2.2.1 ∧ ue = -1 ∧ B2 = cp (rdf TA tn 5000 0 0 RO).2.2.2 B 0 0 r ∧ 0 ≤ r ∧ r ≤ 256) ∨ ((rdf TA tn 5000 0 0 RO).1 ≠ 0 ∧ r = -(rdf TA tn 5000 0 0 RO).1 ∧ ue = (rdf TA tn 5000 0 0 RO).2.1 ∧ B2 = B)) ∧ w = [(x, .inr (3, [.ref bu, .ref ki, .ref sa, .ref sto, .ref pk, .ref rd, .ref ta, .int (iI 0), .int (iI ue)])), (rd, .inr (1, [.ref ro, .int (iI ue), .int (iI ux), .ref ta, .int (iI 0), .int (iI tn), .int (iI ua), .int (iI uc)])), (ro, aE cA 256 UO), (ta, aE cA 600 TA), (bu, aE cA 256 B2)]) := by
  refine Ci.mk (by decide) (Nat.le_of_ble_eq_true rfl) ?_
  intro p e s m args below meth c A E
  refine GG.lvs (lv' := [(0, .ref x)]) [0] rfl ?_
  refine g_aload_n E dX3_decode_0 rfl 0 rfl ?_
  refine g_getfield E dX3_decode_1 0 5 rfl rfl (by decide) iX3 wd_206 rfl rfl ?_
  refine g_aload_n E dX3_decode_4 rfl 0 rfl ?_
  refine g_getfield E dX3_decode_5 0 6 rfl rfl (by decide) iX3 wd_15 rfl rfl ?_
  refine g_iconst E dX3_decode_8 ?_
  refine g_aload_n E dX3_decode_9 rfl 0 rfl ?_
  refine g_getfield E dX3_decode_10 0 7 rfl rfl (by decide) iX3 wd_14 rfl rfl ?_
  refine g_callV (n := 3) (As := [.ref ta, .int (iI 0), .int (iI tn)]) (rest := []) (wr := [(x, .inr (3, [.ref bu, .ref ki, .ref sa, .ref sto, .ref pk, .ref rd, .ref ta, .int (iI tn), .int (iI tp)])), (bu, aE cA 256 B)]) E dX3_decode_13 (c_X1_unpack l D cA rd ro ta os re rx os0 ol ra rc 600 TA RO 0 tn (by omega) (by omega) (by rw [sh_0]; exact hTA)) wd_code_X1_unpack wd_210 wd_211 wd_212 wd_213 (by decide +kernel) ⟨⟨rfl, rfl⟩, ⟨(Nat.le_of_ble_eq_true rfl), (Nat.le_of_ble_eq_true rfl)⟩, ⟨(Nat.le_of_ble_eq_true rfl), (Nat.le_of_ble_eq_true rfl)⟩⟩ [1, 3, 2] [0, 4] rfl rfl (by decide) 0 rfl rfl rfl rfl (Nat.le_of_ble_eq_true rfl) (fun z_13 w_13 hw_13 => ?_)
  obtain ⟨ue_13, ux_13, ua_13, uc_13, UO_13, hU_13, rfl⟩ := hw_13
  refine GG.wss (ws' := [(x, .inr (3, [.ref bu, .ref ki, .ref sa, .ref sto, .ref pk, .ref rd, .ref ta, .int (iI tn), .int (iI tp)])), (rd, .inr (1, [.ref ro, .int (iI ue_13), .int (iI ux_13), .ref ta, .int (iI 0), .int (iI tn), .int (iI ua_13), .int (iI uc_13)])), (ro, aE cA 256 UO_13), (ta, aE cA 600 TA), (bu, aE cA 256 B)]) [0, 2, 4, 3, 1] (by decide) rfl ?_
  rw [sh_0] at hU_13
  refine g_istore_n (lv' := [(1, .int (iI z_13)), (0, .ref x)]) E dX3_decode_16 rfl (by decide) rfl ?_
  refine g_aload_n E dX3_decode_17 rfl 1 rfl ?_
  refine g_iconst E dX3_decode_18 ?_
  refine g_putfield (ws' := [(x, .inr (3, [.ref bu, .ref ki, .ref sa, .ref sto, .ref pk, .ref rd, .ref ta, .int (iI 0), .int (iI tp)])), (rd, .inr (1, [.ref ro, .int (iI ue_13), .int (iI ux_13), .ref ta, .int (iI 0), .int (iI tn), .int (iI ua_13), .int (iI uc_13)])), (ro, aE cA 256 UO_13), (ta, aE cA 600 TA), (bu, aE cA 256 B)]) E dX3_decode_19 0 7 rfl rfl (by decide) iX3 tyX3 tyX3_ok nmX3 wd_14 rfl rfl rfl rfl rfl (Nat.le_of_ble_eq_true rfl) rfl ?_
  refine g_aload_n E dX3_decode_22 rfl 1 rfl ?_
  refine g_aload_n E dX3_decode_23 rfl 1 rfl ?_
  refine g_getfield E dX3_decode_24 0 5 rfl rfl (by decide) iX3 wd_206 rfl rfl ?_
  refine g_getfield E dX3_decode_27 1 1 rfl rfl (by decide) iX1 wd_256 rfl rfl ?_
  refine g_putfield (ws' := [(x, .inr (3, [.ref bu, .ref ki, .ref sa, .ref sto, .ref pk, .ref rd, .ref ta, .int (iI 0), .int (iI ue_13)])), (rd, .inr (1, [.ref ro, .int (iI ue_13), .int (iI ux_13), .ref ta, .int (iI 0), .int (iI tn), .int (iI ua_13), .int (iI uc_13)])), (ro, aE cA 256 UO_13), (ta, aE cA 600 TA), (bu, aE cA 256 B)]) E dX3_decode_30 0 8 rfl rfl (by decide) iX3 tyX3 tyX3_ok nmX3 wd_2 rfl rfl rfl rfl rfl (Nat.le_of_ble_eq_true rfl) rfl ?_
  refine g_iload_n E dX3_decode_33 rfl 0 rfl ?_
  refine g_if_le (tgt := 54) E dX3_decode_34 (by decide) ⟨(by omega), (by omega)⟩ (fun c_34 => ?_) (fun c_34 => ?_)
  · skip
    refine g_iload_n E dX3_decode_54 rfl 0 rfl ?_
    refine g_ireturn E dX3_decode_55 ?_
    rcases hU_13 with ⟨w1, w2, w3, w4, w5, w6⟩ | ⟨w1, w2, w3, w4, w5⟩
    · first | exact ⟨_, _, _, _, _, _, Or.inl ⟨w1, w2, w3, by rw [w4], w5, w6⟩, rfl⟩ | exact ⟨_, _, _, _, _, B, Or.inl ⟨w1, w2, w3, by rw [show z_13 = 0 by omega, cp_0], w5, w6⟩, rfl⟩
    · first | (exfalso; omega) | exact ⟨_, _, _, _, _, B, Or.inr ⟨w1, w2, w3, rfl⟩, rfl⟩
  · skip
    refine g_aload_n E dX3_decode_37 rfl 1 rfl ?_
    refine g_getfield E dX3_decode_38 0 5 rfl rfl (by decide) iX3 wd_206 rfl rfl ?_
    refine g_getfield E dX3_decode_41 1 0 rfl rfl (by decide) iX1 wd_214 rfl rfl ?_
    refine g_iconst E dX3_decode_44 ?_
    refine g_aload_n E dX3_decode_45 rfl 1 rfl ?_
    refine g_getfield E dX3_decode_46 0 0 rfl rfl (by decide) iX3 wd_1 rfl rfl ?_
    refine g_iconst E dX3_decode_49 ?_
    refine g_iload_n E dX3_decode_50 rfl 0 rfl ?_
    refine g_arraycopy (ws' := [(x, .inr (3, [.ref bu, .ref ki, .ref sa, .ref sto, .ref pk, .ref rd, .ref ta, .int (iI 0), .int (iI ue_13)])), (rd, .inr (1, [.ref ro, .int (iI ue_13), .int (iI ux_13), .ref ta, .int (iI 0), .int (iI tn), .int (iI ua_13), .int (iI uc_13)])), (ro, aE cA 256 UO_13), (ta, aE cA 600 TA), (bu, aE cA 256 (cp UO_13 B 0 0 z_13))]) E dX3_decode_51 wd_215 wd_177 wd_178 wd_179 2 4 rfl rfl (by omega) (by omega) (by omega) (by omega) (by omega) (by omega) (by omega) (Nat.le_of_ble_eq_true rfl) (by decide) rfl ?_
    refine g_iload_n E dX3_decode_54 rfl 0 rfl ?_
    refine g_ireturn E dX3_decode_55 ?_
    rcases hU_13 with ⟨w1, w2, w3, w4, w5, w6⟩ | ⟨w1, w2, w3, w4, w5⟩
    · first | exact ⟨_, _, _, _, _, _, Or.inl ⟨w1, w2, w3, by rw [w4], w5, w6⟩, rfl⟩ | exact ⟨_, _, _, _, _, B, Or.inl ⟨w1, w2, w3, by rw [show z_13 = 0 by omega, cp_0], w5, w6⟩, rfl⟩
    · first | (exfalso; omega) | exact ⟨_, _, _, _, _, B, Or.inr ⟨w1, w2, w3, rfl⟩, rfl⟩
