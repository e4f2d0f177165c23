theorem wd_180 : Cond.methodLink RX2 34 yX2_freeBytes ∈ UW := uw (by decide +kernel) rfl
theorem wd_181 : Cond.instanceMethod yX2_freeBytes ∈ UW := uw (by decide +kernel) rfl
theorem wd_182 : Cond.selects RX2 yX2_freeBytes yX2_freeBytes ∈ UW := uw (by decide +kernel) rfl
theorem wd_183 : Cond.initialized yX2_freeBytes.cls ∈ UW := uw (by decide +kernel) rfl
theorem wd_184 : Cond.methodLink RX2 38 yX2_release ∈ UW := uw (by decide +kernel) rfl
theorem wd_185 : Cond.instanceMethod yX2_release ∈ UW := uw (by decide +kernel) rfl
theorem wd_186 : Cond.selects RX2 yX2_release yX2_release ∈ UW := uw (by decide +kernel) rfl
theorem wd_187 : Cond.initialized yX2_release.cls ∈ UW := uw (by decide +kernel) rfl
theorem wd_188 : Cond.methodLink RX2 42 yX2_firstGapOf ∈ UW := uw (by decide +kernel) rfl
theorem wd_189 : Cond.instanceMethod yX2_firstGapOf ∈ UW := uw (by decide +kernel) rfl
theorem wd_190 : Cond.selects RX2 yX2_firstGapOf yX2_firstGapOf ∈ UW := uw (by decide +kernel) rfl
theorem wd_191 : Cond.initialized yX2_firstGapOf.cls ∈ UW := uw (by decide +kernel) rfl
theorem wd_192 : Cond.methodLink RX2 48 yX2_insert ∈ UW := uw (by decide +kernel) rfl
theorem wd_193 : Cond.instanceMethod yX2_insert ∈ UW := uw (by decide +kernel) rfl
theorem wd_194 : Cond.selects RX2 yX2_insert yX2_insert ∈ UW := uw (by decide +kernel) rfl
theorem wd_195 : Cond.initialized yX2_insert.cls ∈ UW := uw (by decide +kernel) rfl
theorem wd_196 : Cond.methodLink RX2 45 yX2_putTogether ∈ UW := uw (by decide +kernel) rfl
theorem wd_197 : Cond.instanceMethod yX2_putTogether ∈ UW := uw (by decide +kernel) rfl
theorem wd_198 : Cond.selects RX2 yX2_putTogether yX2_putTogether ∈ UW := uw (by decide +kernel) rfl
theorem wd_199 : Cond.initialized yX2_putTogether.cls ∈ UW := uw (by decide +kernel) rfl
theorem wd_200 : Cond.fieldLink RX3 57 "PackedSlots" "store" "LPackedSlots$Store;" ∈ UW := uw (by decide +kernel) rfl
theorem wd_201 : Cond.methodLink RX3 139 yX2_put ∈ UW := uw (by decide +kernel) rfl
theorem wd_202 : Cond.instanceMethod yX2_put ∈ UW := uw (by decide +kernel) rfl
theorem wd_203 : Cond.selects RX2 yX2_put yX2_put ∈ UW := uw (by decide +kernel) rfl
theorem wd_204 : Cond.initialized yX2_put.cls ∈ UW := uw (by decide +kernel) rfl
theorem wd_205 : Cond.fieldLink RX3 13 "PackedSlots" "kinds" "[I" ∈ UW := uw (by decide +kernel) rfl
def putOk (ca : Int) (St Mk F : Int → Int) (b m : Int) (St2 Mk2 : Int → Int) : Prop := m ≤ (fre Mk ca.toNat).1 + cnt Mk (b + 1) ca.toNat ∧ ((∃ x, roomAt Mk b ca m x ∧ Mk2 = rnf (rel ca Mk b) x m (b + 1) ∧ St2 = cp F St 0 x m) ∨ (noRoom Mk b ca m ∧ Mk2 = rnf (tg St (rel ca Mk b) ca.toNat).2.1 (tg St (rel ca Mk b) ca.toNat).2.2.1 m (b + 1) ∧ St2 = cp F (tg St (rel ca Mk b) ca.toNat).1 0 (tg St (rel ca Mk b) ca.toNat).2.2.1 m))
theorem up_up {P : Int → Int} {z v w : Int} : up (up P z v) z w = up P z w := by
  funext j; unfold up
  by_cases q : j = z
  · rw [if_pos q, if_pos q]
  · rw [if_neg q, if_neg q, if_neg q]
theorem SI.zb {cap n : Int} {S Z O : Int → Int} (h : SI cap n S Z O) {b : Int} (hb : 0 ≤ b ∧ b < 32) : (Z b = 0 ∧ S b = -1) ∨ (1 ≤ Z b ∧ Z b ≤ 256 ∧ 0 ≤ S b ∧ S b + Z b ≤ cap) := by
  rcases h.2.2.2.1 b hb.1 hb.2 with q | ⟨k, k1, k2, k3⟩
  · exact Or.inl q
  · have := h.2.1 k k1 k2
    rw [k3] at this
    exact Or.inr (by omega)
set_option maxHeartbeats 4000000 in
set_option maxRecDepth 100000 in
theorem c_X2_put (l : Launch) (D : va_G) (cA : ClassId) (sto : Nat) (bya : Nat) (ss : Nat) (zz : Nat) (od : Nat) (ns : Int) (cap : Nat) (St : Int → Int) (S : Int → Int) (Z : Int → Int) (O : Int → Int) (Mk : Int → Int) (q : Nat) (N : Nat) (F : Int → Int) (b : Int) (bm : Int) (hcap : cap ≤ 4096) (hLR : LR (cap : Int) ns S Z O Mk) (hb : 0 ≤ b ∧ b < 32) (hm : 1 ≤ bm ∧ bm ≤ 256 ∧ bm ≤ (N : Int)) (hN : N ≤ 4096) : Ci l D vwCl cA yX2_put (.code yX2_put cX2_put 5 (some .boolean) :: UW) ({ frames := 3, cells := 0, slots := 0, locals := 65 }) 0 0 [.ref sto, .int (iI b), .ref q, .int (iI bm)] [(sto, .inr (2, [.ref bya, .ref ss, .ref zz, .ref od, .int (iI ns)])), (bya, aE cA cap St), (ss, aE cA 32 S), (zz, aE cA 32 Z), (od, aE cA 32 O), (q, aE cA N F)] (fun (r : Int) (w : va_W) => ∃ (St2 : Int → Int) (S2 : Int → Int) (Z2 : Int → Int) (O2 : Int → Int) (n2 : Int) (Mk2 : Int → Int), ((r = 0 ∧ (fre Mk (cap : Int).toNat).1 + cnt Mk (b + 1) (cap : Int).toNat < bm ∧ St2 = St ∧ Mk2 = Mk ∧ Z2 = Z) ∨ (r = 1 ∧ putOk (cap : Int) St Mk F b bm St2 Mk2 ∧ Z2 = up Z b bm)) ∧ LR (cap : Int) n2 S2 Z2 O2 Mk2 ∧ w = [(sto, .inr (2, [.ref bya, .ref ss, .ref zz, .ref od, .int (iI n2)])), (bya, aE cA cap St2), (ss, aE cA 32 S2), (zz, aE cA 32 Z2), (od, aE cA 32 O2), (q, aE cA N F)]) := by
  refine Ci.mk (by decide) (Nat.le_of_ble_eq_true rfl) ?_
  intro p e s m args below meth c A E
  refine GG.lvs (lv' := [(0, .ref sto), (1, .int (iI b)), (2, .ref q), (3, .int (iI bm))]) [0, 1, 2, 3] rfl ?_
  have hzb := hLR.1.zb hb
  have hcn := hLR.cnt hb
  have hns := hLR.1.1
  refine g_iload_n E dX2_put_0 rfl 3 rfl ?_
  refine g_aload_n E dX2_put_1 rfl 0 rfl ?_
  refine g_callV (n := 0) (As := []) (rest := [.int (iI bm)]) (wr := [(q, aE cA N F)]) E dX2_put_2 (c_X2_freeBytes l D cA sto bya ss zz od ns cap St S Z O Mk (by omega) (by exact hLR)) wd_code_X2_freeBytes wd_180 wd_181 wd_182 wd_183 (by decide +kernel) ⟨⟨rfl, rfl⟩, ⟨(Nat.le_of_ble_eq_true rfl), (Nat.le_of_ble_eq_true rfl)⟩, ⟨(Nat.le_of_ble_eq_true rfl), (Nat.le_of_ble_eq_true rfl)⟩⟩ [0, 1, 2, 3, 4] [5] rfl rfl (by decide) 0 rfl rfl rfl rfl (Nat.le_of_ble_eq_true rfl) (fun z_2 w_2 hw_2 => ?_)
  obtain ⟨hr_2, hr2_2, rfl⟩ := hw_2
  refine GG.wss (ws' := [(sto, .inr (2, [.ref bya, .ref ss, .ref zz, .ref od, .int (iI ns)])), (bya, aE cA cap St), (ss, aE cA 32 S), (zz, aE cA 32 Z), (od, aE cA 32 O), (q, aE cA N F)]) [1, 2, 3, 4, 5, 0] (by decide) rfl ?_
  refine g_aload_n E dX2_put_5 rfl 0 rfl ?_
  refine g_getfield E dX2_put_6 0 2 rfl rfl (by decide) iX2 wd_160 rfl rfl ?_
  refine g_iload_n E dX2_put_9 rfl 1 rfl ?_
  refine g_iaload E dX2_put_10 3 rfl (by omega) (by omega) (by omega) ?_
  refine g_iadd E dX2_put_11 ?_
  refine g_icmp_le (tgt := 17) E dX2_put_12 (by decide) ⟨(by omega), (by omega)⟩ ⟨(by omega), (by omega)⟩ (fun c_12 => ?_) (fun c_12 => ?_)
  · skip
    refine g_aload_n E dX2_put_17 rfl 0 rfl ?_
    refine g_iload_n E dX2_put_18 rfl 1 rfl ?_
    refine g_callV (n := 1) (As := [.int (iI b)]) (rest := []) (wr := [(bya, aE cA cap St), (q, aE cA N F)]) E dX2_put_19 (c_X2_release l D cA sto bya ss zz od ns cap S Z O Mk b (by omega) (by exact hLR) (by omega)) wd_code_X2_release wd_184 wd_185 wd_186 wd_187 (by decide +kernel) ⟨⟨rfl, rfl⟩, ⟨(Nat.le_of_ble_eq_true rfl), (Nat.le_of_ble_eq_true rfl)⟩, ⟨(Nat.le_of_ble_eq_true rfl), (Nat.le_of_ble_eq_true rfl)⟩⟩ [0, 2, 3, 4] [1, 5] rfl rfl (by decide) 0 rfl rfl rfl rfl (Nat.le_of_ble_eq_true rfl) (fun z_19 w_19 hw_19 => ?_)
    obtain ⟨S2_19, Z2_19, O2_19, n2_19, hr_19, hL2_19, hZ2_19, rfl⟩ := hw_19
    refine GG.wss (ws' := [(sto, .inr (2, [.ref bya, .ref ss, .ref zz, .ref od, .int (iI n2_19)])), (bya, aE cA cap St), (ss, aE cA 32 S2_19), (zz, aE cA 32 Z2_19), (od, aE cA 32 O2_19), (q, aE cA N F)]) [2, 0, 3, 4, 5, 1] (by decide) rfl ?_
    have hz0 : Z2_19 b = 0 := by rw [hZ2_19]; exact up_s
    have hn2 := hL2_19.1.1
    have hcr : n2_19 ≤ 31 := by rw [hL2_19.1.2.2.2.2]; exact cz_room hb hz0
    refine g_pop E dX2_put_22 rfl ?_
    refine g_aload_n E dX2_put_23 rfl 0 rfl ?_
    refine g_iload_n E dX2_put_24 rfl 3 rfl ?_
    refine g_callV (n := 1) (As := [.int (iI bm)]) (rest := []) (wr := [(q, aE cA N F)]) E dX2_put_25 (c_X2_firstGapOf l D cA sto bya ss zz od n2_19 cap St S2_19 Z2_19 O2_19 bm (by omega) (by exact hL2_19.1) (by omega)) wd_code_X2_firstGapOf wd_188 wd_189 wd_190 wd_191 (by decide +kernel) ⟨⟨rfl, rfl⟩, ⟨(Nat.le_of_ble_eq_true rfl), (Nat.le_of_ble_eq_true rfl)⟩, ⟨(Nat.le_of_ble_eq_true rfl), (Nat.le_of_ble_eq_true rfl)⟩⟩ [0, 1, 2, 3, 4] [5] rfl rfl (by decide) 0 rfl rfl rfl rfl (Nat.le_of_ble_eq_true rfl) (fun z_25 w_25 hw_25 => ?_)
    obtain ⟨hp_25, rfl⟩ := hw_25
    refine GG.wss (ws' := [(sto, .inr (2, [.ref bya, .ref ss, .ref zz, .ref od, .int (iI n2_19)])), (bya, aE cA cap St), (ss, aE cA 32 S2_19), (zz, aE cA 32 Z2_19), (od, aE cA 32 O2_19), (q, aE cA N F)]) [1, 2, 3, 4, 5, 0] (by decide) rfl ?_
    have hz25 : -1 ≤ z_25 ∧ z_25 ≤ n2_19 := hp_25.elim (fun w => ⟨by omega, w.2.1⟩) (fun w => by omega)
    refine g_istore (lv' := [(4, .int (iI z_25)), (0, .ref sto), (1, .int (iI b)), (2, .ref q), (3, .int (iI bm))]) E dX2_put_28 (by decide) rfl ?_
    have L47 : ∀ (g : Int) (AA : Int → Int) (P : Int → Int), 0 ≤ g ∧ g ≤ n2_19 → bm ≤ gz (cap : Int) n2_19 P Z2_19 O2_19 g → (∃ Mkx : Int → Int, LR (cap : Int) n2_19 P Z2_19 O2_19 Mkx ∧ ((roomAt Mk b (cap : Int) bm (gs P Z2_19 O2_19 g) ∧ Mkx = rel (cap : Int) Mk b ∧ AA = St) ∨ (noRoom Mk b (cap : Int) bm ∧ Mkx = (tg St (rel (cap : Int) Mk b) (cap : Int).toNat).2.1 ∧ AA = (tg St (rel (cap : Int) Mk b) (cap : Int).toNat).1 ∧ gs P Z2_19 O2_19 g = (tg St (rel (cap : Int) Mk b) (cap : Int).toNat).2.2.1))) → GG p l e ({ frames := 3, cells := 0, slots := 0, locals := 65 }) s m args below meth c D vwCl A 5 (QI D vwCl cA A below args s 0 0 (fun (r : Int) (w : va_W) => ∃ (St2 : Int → Int) (S2 : Int → Int) (Z2 : Int → Int) (O2 : Int → Int) (n2 : Int) (Mk2 : Int → Int), ((r = 0 ∧ (fre Mk (cap : Int).toNat).1 + cnt Mk (b + 1) (cap : Int).toNat < bm ∧ St2 = St ∧ Mk2 = Mk ∧ Z2 = Z) ∨ (r = 1 ∧ putOk (cap : Int) St Mk F b bm St2 Mk2 ∧ Z2 = up Z b bm)) ∧ LR (cap : Int) n2 S2 Z2 O2 Mk2 ∧ w = [(sto, .inr (2, [.ref bya, .ref ss, .ref zz, .ref od, .int (iI n2)])), (bya, aE cA cap St2), (ss, aE cA 32 S2), (zz, aE cA 32 Z2), (od, aE cA 32 O2), (q, aE cA N F)])) 0 0 [(sto, .inr (2, [.ref bya, .ref ss, .ref zz, .ref od, .int (iI n2_19)])), (bya, aE cA cap AA), (ss, aE cA 32 P), (zz, aE cA 32 Z2_19), (od, aE cA 32 O2_19), (q, aE cA N F)] [(0, .ref sto), (1, .int (iI b)), (2, .ref q), (3, .int (iI bm)), (4, .int (iI g))] 47 [] := by
      intro g AA P hg hgz hE
      obtain ⟨Mkx, hLx, hcase⟩ := hE
      have hgap := hLx.1.gap (by omega) hg.1 hg.2
      have hgz2 := hgz
      unfold gz at hgz2
      refine g_aload_n E dX2_put_47 rfl 0 rfl ?_
      refine g_iload E dX2_put_48 4 rfl ?_
      refine g_iload_n E dX2_put_50 rfl 1 rfl ?_
      refine g_iload_n E dX2_put_51 rfl 3 rfl ?_
      refine g_callVv (n := 3) (As := [.int (iI g), .int (iI b), .int (iI bm)]) (rest := []) (wr := [(bya, aE cA cap AA), (q, aE cA N F)]) E dX2_put_52 (c_X2_insert l D cA sto bya ss zz od n2_19 cap P Z2_19 O2_19 g b bm (by omega) (by exact hLx.1) (by omega) (by omega) (by omega)) wd_code_X2_insert wd_192 wd_193 wd_194 wd_195 (by decide +kernel) ⟨⟨rfl, rfl⟩, ⟨(Nat.le_of_ble_eq_true rfl), (Nat.le_of_ble_eq_true rfl)⟩, ⟨(Nat.le_of_ble_eq_true rfl), (Nat.le_of_ble_eq_true rfl)⟩⟩ [0, 2, 3, 4] [1, 5] rfl rfl (by decide) 0 rfl rfl rfl rfl (Nat.le_of_ble_eq_true rfl) (fun w_52 hw_52 => ?_)
      subst hw_52
      refine GG.wss (ws' := [(sto, .inr (2, [.ref bya, .ref ss, .ref zz, .ref od, .int (iI (n2_19 + 1))])), (bya, aE cA cap AA), (ss, aE cA 32 (up P b (gs P Z2_19 O2_19 g))), (zz, aE cA 32 (up Z2_19 b bm)), (od, aE cA 32 (ins O2_19 g n2_19 b)), (q, aE cA N F)]) [2, 0, 3, 4, 5, 1] (by decide) rfl ?_
      refine g_aload_n E dX2_put_55 rfl 2 rfl ?_
      refine g_iconst E dX2_put_56 ?_
      refine g_aload_n E dX2_put_57 rfl 0 rfl ?_
      refine g_getfield E dX2_put_58 0 0 rfl rfl (by decide) iX2 wd_157 rfl rfl ?_
      refine g_aload_n E dX2_put_61 rfl 0 rfl ?_
      refine g_getfield E dX2_put_62 0 1 rfl rfl (by decide) iX2 wd_158 rfl rfl ?_
      refine g_iload_n E dX2_put_65 rfl 1 rfl ?_
      refine g_iaload E dX2_put_66 2 rfl (by omega) (by omega) (by omega) ?_
      obtain ⟨st0, e_st0⟩ : ∃ z : Int, z = (up P b (gs P Z2_19 O2_19 g)) b := ⟨_, rfl⟩
      rw [← e_st0]
      have hst0 : st0 = gs P Z2_19 O2_19 g := by rw [e_st0]; exact up_s
      refine g_iload_n E dX2_put_67 rfl 3 rfl ?_
      refine g_arraycopy (ws' := [(sto, .inr (2, [.ref bya, .ref ss, .ref zz, .ref od, .int (iI (n2_19 + 1))])), (bya, aE cA cap (cp F AA 0 st0 bm)), (ss, aE cA 32 (up P b (gs P Z2_19 O2_19 g))), (zz, aE cA 32 (up Z2_19 b bm)), (od, aE cA 32 (ins O2_19 g n2_19 b)), (q, aE cA N F)]) E dX2_put_68 wd_176 wd_177 wd_178 wd_179 5 1 rfl rfl (by omega) (by omega) (by omega) (by omega) (by omega) (by omega) (by omega) (Nat.le_of_ble_eq_true rfl) (by decide) rfl ?_
      refine g_iconst E dX2_put_71 ?_
      refine g_zreturn E dX2_put_72 (by omega) ?_
      have hLi := hLx.insert (by omega) hb hz0 hg.1 hg.2 ⟨hm.1, hm.2.1⟩ hgz
      refine ⟨_, _, _, _, _, _, Or.inr ⟨rfl, ⟨by omega, ?_⟩, by rw [hZ2_19, up_up]⟩, hLi, rfl⟩
      rcases hcase with ⟨w1, w2, w3⟩ | ⟨w1, w2, w3, w4⟩
      · exact Or.inl ⟨_, w1, by rw [w2], by rw [w3, hst0]⟩
      · exact Or.inr ⟨w1, by rw [w2, w4], by rw [w3, hst0, w4]⟩
    refine g_iload E dX2_put_30 0 rfl ?_
    refine g_iconst E dX2_put_32 ?_
    refine g_icmp_ne (tgt := 47) E dX2_put_33 (by decide) ⟨(by omega), (by omega)⟩ ⟨(by omega), (by omega)⟩ (fun c_33 => ?_) (fun c_33 => ?_)
    · skip
      have hq := hp_25.resolve_right (fun w => c_33 w.1)
      have hg1 : 0 ≤ z_25 ∧ z_25 ≤ n2_19 := ⟨hq.1, hq.2.1⟩
      have hro : roomAt Mk b (cap : Int) bm (gs S2_19 Z2_19 O2_19 z_25) := room_rel hb.1 (by omega) (hL2_19.room (by omega) hb hz0 (by omega) hq.1 hq.2.1 hq.2.2.1 hq.2.2.2)
      refine GG.lvs (lv' := [(0, .ref sto), (1, .int (iI b)), (2, .ref q), (3, .int (iI bm)), (4, .int (iI z_25))]) [1, 2, 3, 4, 0] rfl ?_
      exact L47 z_25 St S2_19 (by first | exact hg1 | omega) (by first | exact hgz1 | exact (hp_25.resolve_right (fun w => c_33 w.1)).2.2.1) (by first | exact ⟨_, hL2_37, Or.inr ⟨hno, rfl, rfl, ht_37.symm⟩⟩ | exact ⟨_, hL2_19, Or.inl ⟨hro, rfl, rfl⟩⟩)
    · skip
      have hno : noRoom Mk b (cap : Int) bm := noRoom_rel hb.1 (by omega) (hL2_19.none (by omega) hb hz0 (by omega) (hp_25.resolve_left (fun w => by omega)).2)
      refine g_aload_n E dX2_put_36 rfl 1 rfl ?_
      refine g_callV (n := 0) (As := []) (rest := []) (wr := [(q, aE cA N F)]) E dX2_put_37 (c_X2_putTogether l D cA sto bya ss zz od n2_19 cap St S2_19 Z2_19 O2_19 (rel (cap : Int) Mk b) (by omega) (by exact hL2_19)) wd_code_X2_putTogether wd_196 wd_197 wd_198 wd_199 (by decide +kernel) ⟨⟨rfl, rfl⟩, ⟨(Nat.le_of_ble_eq_true rfl), (Nat.le_of_ble_eq_true rfl)⟩, ⟨(Nat.le_of_ble_eq_true rfl), (Nat.le_of_ble_eq_true rfl)⟩⟩ [0, 1, 2, 3, 4] [5] rfl rfl (by decide) 0 rfl rfl rfl rfl (Nat.le_of_ble_eq_true rfl) (fun z_37 w_37 hw_37 => ?_)
      obtain ⟨P2_37, hr_37, hL2_37, ht_37, rfl⟩ := hw_37
      refine GG.wss (ws' := [(sto, .inr (2, [.ref bya, .ref ss, .ref zz, .ref od, .int (iI n2_19)])), (bya, aE cA cap ((tg St (rel (cap : Int) Mk b) (cap : Int).toNat).1)), (ss, aE cA 32 P2_37), (zz, aE cA 32 Z2_19), (od, aE cA 32 O2_19), (q, aE cA N F)]) [1, 2, 3, 4, 5, 0] (by decide) rfl ?_
      have hti := tg_inv St (rel (cap : Int) Mk b) (cap : Int).toNat
      have hfr := fre_rel (cap : Int) Mk b hb.1 (cap : Int).toNat (by omega)
      have hgz1 : bm ≤ gz (cap : Int) n2_19 P2_37 Z2_19 O2_19 n2_19 := by
        unfold gz
        rw [ge_n, ← ht_37]
        have := hti.2.2.2.2.2.2
        omega
      refine g_pop E dX2_put_40 rfl ?_
      refine g_aload_n E dX2_put_41 rfl 1 rfl ?_
      refine g_getfield E dX2_put_42 0 4 rfl rfl (by decide) iX2 wd_161 rfl rfl ?_
      refine g_istore (lv' := [(4, .int (iI n2_19)), (0, .ref sto), (1, .int (iI b)), (2, .ref q), (3, .int (iI bm))]) E dX2_put_45 (by decide) rfl ?_
      refine GG.lvs (lv' := [(0, .ref sto), (1, .int (iI b)), (2, .ref q), (3, .int (iI bm)), (4, .int (iI n2_19))]) [1, 2, 3, 4, 0] rfl ?_
      exact L47 n2_19 ((tg St (rel (cap : Int) Mk b) (cap : Int).toNat).1) P2_37 (by first | exact hg1 | omega) (by first | exact hgz1 | exact (hp_25.resolve_right (fun w => c_33 w.1)).2.2.1) (by first | exact ⟨_, hL2_37, Or.inr ⟨hno, rfl, rfl, ht_37.symm⟩⟩ | exact ⟨_, hL2_19, Or.inl ⟨hro, rfl, rfl⟩⟩)
  · skip
    refine g_iconst E dX2_put_15 ?_
    refine g_zreturn E dX2_put_16 (by omega) ?_
    exact ⟨St, S, Z, O, ns, Mk, Or.inl ⟨rfl, by omega, rfl, rfl, rfl⟩, hLR, rfl⟩
set_option maxHeartbeats 4000000 in
set_option maxRecDepth 100000 in
theorem c_J7_fill_53178 (l : Launch) (D : va_G) (cA : ClassId) (q : Nat) (N : Nat) (g : Int → Int) (v : Int) (hN : N ≤ 4096) : Cv l D vwCl cA yJ7_fill_53178 (.code yJ7_fill_53178 cJ7_fill_53178 4 none :: UW) ({ frames := 0, cells := 0, slots := 0, locals := 0 }) 0 0 [.ref q, .int (iI v)] [(q, aE cA N g)] (fun (w : va_W) => w = [(q, aE cA N (rnf g 0 (N : Int) v))]) := by
  refine Cv.mk (by decide) (Nat.le_of_ble_eq_true rfl) ?_
  intro p e s m args below meth c A E hin
  refine GG.lvs (lv' := [(0, .ref q), (1, .int (iI v))]) [0, 1] rfl ?_
  refine g_iconst E dJ7_fill_53178_0 ?_
  refine g_istore_n (lv' := [(2, .int (iI 0)), (0, .ref q), (1, .int (iI v))]) E dJ7_fill_53178_1 rfl (by decide) rfl ?_
  refine g_aload_n E dJ7_fill_53178_2 rfl 1 rfl ?_
  refine g_arraylength E dJ7_fill_53178_3 0 rfl ?_
  refine g_istore_n (lv' := [(3, .int (iI (N : Int))), (2, .int (iI 0)), (0, .ref q), (1, .int (iI v))]) E dJ7_fill_53178_4 rfl (by decide) rfl ?_
  have L5 : ∀ (fu5 : Nat) (k : Int) (G : Int → Int), 0 ≤ k ∧ k ≤ (N : Int) → G = rnf g 0 (k - 0) v → ((N : Int) - k) < (fu5 : Int) → GG p l e ({ frames := 0, cells := 0, slots := 0, locals := 0 }) s m args below meth c D vwCl A 4 (QV D vwCl cA A below args s 0 0 (fun (w : va_W) => w = [(q, aE cA N (rnf g 0 (N : Int) v))])) 0 0 [(q, aE cA N G)] [(0, .ref q), (1, .int (iI v)), (2, .int (iI k)), (3, .int (iI (N : Int)))] 5 [] := by
    intro fu5
    induction fu5 with
    | zero => intro k G hk hG hmu5; exfalso; omega
    | succ fu5 ih5 =>
      intro k G hk hG hmu5
      refine g_iload_n E dJ7_fill_53178_5 rfl 2 rfl ?_
      refine g_iload_n E dJ7_fill_53178_6 rfl 3 rfl ?_
      refine g_icmp_ge (tgt := 20) E dJ7_fill_53178_7 (by decide) ⟨(by omega), (by omega)⟩ ⟨(by omega), (by omega)⟩ (fun c_7 => ?_) (fun c_7 => ?_)
      · skip
        refine g_return E dJ7_fill_53178_20 ?_
        rw [hG, show k - 0 = (N : Int) by omega]
      · skip
        refine g_aload_n E dJ7_fill_53178_10 rfl 0 rfl ?_
        refine g_iload_n E dJ7_fill_53178_11 rfl 2 rfl ?_
        refine g_iload_n E dJ7_fill_53178_12 rfl 1 rfl ?_
        refine g_iastore (ws' := [(q, aE cA N (up G k v))]) E dJ7_fill_53178_13 0 rfl (by omega) (by omega) (by omega) rfl ?_
        refine g_iinc (lv' := [(2, .int (iI (k + 1))), (0, .ref q), (1, .int (iI v)), (3, .int (iI (N : Int)))]) E dJ7_fill_53178_14 2 rfl (by decide) rfl ?_
        refine g_goto (tgt := 5) E dJ7_fill_53178_17 (by decide) ?_
        refine GG.lvs (lv' := [(0, .ref q), (1, .int (iI v)), (2, .int (iI (k + 1))), (3, .int (iI (N : Int)))]) [1, 2, 0, 3] rfl ?_
        exact ih5 (k + 1) (up G k v) (by omega) (by exact rnf_s hk.1 hG) (by omega)
  refine GG.lvs (lv' := [(0, .ref q), (1, .int (iI v)), (2, .int (iI 0)), (3, .int (iI (N : Int)))]) [2, 3, 1, 0] rfl ?_
  exact L5 (((N : Int) - 0 : Int).toNat + 1) 0 g (by omega) (by exact (rnf_0 ..).symm) (by omega)
set_option maxHeartbeats 4000000 in
set_option maxRecDepth 100000 in
theorem c_X3_bufferIsOneByte (l : Launch) (D : va_G) (cA : ClassId) (x : Nat) (bu : Nat) (ki : Nat) (sa : Nat) (sto : Nat) (pk : Nat) (rd : Nat) (ta : Nat) (tn : Int) (tp : Int) (B : Int → Int) (hB : byR 256 B) : Ci l D vwCl cA yX3_bufferIsOneByte (.code yX3_bufferIsOneByte cX3_bufferIsOneByte 2 (some .boolean) :: UW) ({ frames := 0, cells := 0, slots := 0, locals := 0 }) 0 0 [.ref x] [(x, .inr (3, [.ref bu, .ref ki, .ref sa, .ref sto, .ref pk, .ref rd, .ref ta, .int (iI tn), .int (iI tp)])), (bu, aE cA 256 B)] (fun (r : Int) (w : va_W) => ((r = 1 ∧ ∀ j, 0 ≤ j → j < 256 → B j = B 0) ∨ (r = 0 ∧ ∃ j, 0 ≤ j ∧ j < 256 ∧ B j ≠ B 0)) ∧ (r = 0 ∨ r = 1) ∧ w = [(x, .inr (3, [.ref bu, .ref ki, .ref sa, .ref sto, .ref pk, .ref rd, .ref ta, .int (iI tn), .int (iI tp)])), (bu, aE cA 256 B)]) := by
  refine Ci.mk (by decide) (Nat.le_of_ble_eq_true rfl) ?_
  intro p e s m args below meth c A E
  refine GG.lvs (lv' := [(0, .ref x)]) [0] rfl ?_
  refine g_iconst E dX3_bufferIsOneByte_0 ?_
  refine g_istore_n (lv' := [(1, .int (iI 1)), (0, .ref x)]) E dX3_bufferIsOneByte_1 rfl (by decide) rfl ?_
  have L2 : ∀ (fu2 : Nat) (k : Int), 1 ≤ k ∧ k ≤ 256 → (∀ j, 0 ≤ j → j < k → B j = B 0) → (256 - k) < (fu2 : Int) → GG p l e ({ frames := 0, cells := 0, slots := 0, locals := 0 }) s m args below meth c D vwCl A 2 (QI D vwCl cA A below args s 0 0 (fun (r : Int) (w : va_W) => ((r = 1 ∧ ∀ j, 0 ≤ j → j < 256 → B j = B 0) ∨ (r = 0 ∧ ∃ j, 0 ≤ j ∧ j < 256 ∧ B j ≠ B 0)) ∧ (r = 0 ∨ r = 1) ∧ w = [(x, .inr (3, [.ref bu, .ref ki, .ref sa, .ref sto, .ref pk, .ref rd, .ref ta, .int (iI tn), .int (iI tp)])), (bu, aE cA 256 B)])) 0 0 [(x, .inr (3, [.ref bu, .ref ki, .ref sa, .ref sto, .ref pk, .ref rd, .ref ta, .int (iI tn), .int (iI tp)])), (bu, aE cA 256 B)] [(0, .ref x), (1, .int (iI k))] 2 [] := by
    intro fu2
    induction fu2 with
    | zero => intro k hk hI hmu2; exfalso; omega
    | succ fu2 ih2 =>
      intro k hk hI hmu2
      refine g_iload_n E dX3_bufferIsOneByte_2 rfl 1 rfl ?_
      refine g_sipush E dX3_bufferIsOneByte_3 (by decide) ?_
      refine g_icmp_ge (tgt := 32) E dX3_bufferIsOneByte_6 (by decide) ⟨(by omega), (by omega)⟩ ⟨(by omega), (by omega)⟩ (fun c_6 => ?_) (fun c_6 => ?_)
      · skip
        refine g_iconst E dX3_bufferIsOneByte_32 ?_
        refine g_zreturn E dX3_bufferIsOneByte_33 (by omega) ?_
        exact ⟨Or.inl ⟨rfl, fun j h1 h2 => hI j h1 (by omega)⟩, Or.inr rfl, rfl⟩
      · skip
        refine g_aload_n E dX3_bufferIsOneByte_9 rfl 0 rfl ?_
        refine g_getfield E dX3_bufferIsOneByte_10 0 0 rfl rfl (by decide) iX3 wd_1 rfl rfl ?_
        refine g_iload_n E dX3_bufferIsOneByte_13 rfl 1 rfl ?_
        refine g_iaload E dX3_bufferIsOneByte_14 1 rfl (by omega) (by omega) (by omega) ?_
        have hb1 := hB k (by omega) (by omega)
        refine g_aload_n E dX3_bufferIsOneByte_15 rfl 0 rfl ?_
        refine g_getfield E dX3_bufferIsOneByte_16 0 0 rfl rfl (by decide) iX3 wd_1 rfl rfl ?_
        refine g_iconst E dX3_bufferIsOneByte_19 ?_
        refine g_iaload E dX3_bufferIsOneByte_20 1 rfl (by omega) (by omega) (by omega) ?_
        have hb0 := hB 0 (by omega) (by omega)
        refine g_icmp_eq (tgt := 26) E dX3_bufferIsOneByte_21 (by decide) ⟨(by omega), (by omega)⟩ ⟨(by omega), (by omega)⟩ (fun c_21 => ?_) (fun c_21 => ?_)
        · skip
          refine g_iinc (lv' := [(1, .int (iI (k + 1))), (0, .ref x)]) E dX3_bufferIsOneByte_26 1 rfl (by decide) rfl ?_
          refine g_goto (tgt := 2) E dX3_bufferIsOneByte_29 (by decide) ?_
          refine GG.lvs (lv' := [(0, .ref x), (1, .int (iI (k + 1)))]) [1, 0] rfl ?_
          exact ih2 (k + 1) (by omega) (by intro j h1 h2; exact if q : j = k then (by rw [q]; exact c_21) else hI j h1 (by omega)) (by omega)
        · skip
          refine g_iconst E dX3_bufferIsOneByte_24 ?_
          refine g_zreturn E dX3_bufferIsOneByte_25 (by omega) ?_
          exact ⟨Or.inr ⟨rfl, k, by omega, by omega, c_21⟩, Or.inl rfl, rfl⟩
  refine GG.lvs (lv' := [(0, .ref x), (1, .int (iI 1))]) [1, 0] rfl ?_
  exact L2 ((256 - 1 : Int).toNat + 1) 1 (by omega) (by intro j h1 h2; rw [show j = 0 by omega]) (by omega)
set_option maxHeartbeats 4000000 in
set_option maxRecDepth 100000 in
theorem c_X3_keep (l : Launch) (D : va_G) (cA : ClassId) (x : Nat) (bu : Nat) (ki : Nat) (sa : Nat) (sto : Nat) (pk : Nat) (rd : Nat) (ta : Nat) (tn : Int) (tp : Int) (bya : Nat) (ss : Nat) (zz : Nat) (od : Nat) (ns : Int) (cap : Nat) (St : Int → Int) (S : Int → Int) (Z : Int → Int) (O : Int → Int) (Mk : Int → Int) (K : Int → Int) (q : Nat) (N : Nat) (F : Int → Int) (b : Int) (kd : Int) (bm : Int) (hcap : cap ≤ 4096) (hLR : LR (cap : Int) ns S Z O Mk) (hb : 0 ≤ b ∧ b < 32) (hm : 1 ≤ bm ∧ bm ≤ 256 ∧ bm ≤ (N : Int)) (hN : N ≤ 4096) : Ci l D vwCl cA yX3_keep (.code yX3_keep cX3_keep 5 (some .int) :: UW) ({ frames := 4, cells := 0, slots := 0, locals := 89 }) 0 0 [.ref x, .int (iI b), .int (iI kd), .ref q, .int (iI bm)] [(x, .inr (3, [.ref bu, .ref ki, .ref sa, .ref sto, .ref pk, .ref rd, .ref ta, .int (iI tn), .int (iI tp)])), (ki, aE cA 32 K), (sto, .inr (2, [.ref bya, .ref ss, .ref zz, .ref od, .int (iI ns)])), (bya, aE cA cap St), (ss, aE cA 32 S), (zz, aE cA 32 Z), (od, aE cA 32 O), (q, aE cA N F)] (fun (r : Int) (w : va_W) => ∃ (St2 : Int → Int) (S2 : Int → Int) (Z2 : Int → Int) (O2 : Int → Int) (n2 : Int) (Mk2 : Int → Int) (K2 : Int → Int), ((r = -14 ∧ (fre Mk (cap : Int).toNat).1 + cnt Mk (b + 1) (cap : Int).toNat < bm ∧ St2 = St ∧ Mk2 = Mk ∧ Z2 = Z ∧ K2 = K) ∨ (r = bm ∧ putOk (cap : Int) St Mk F b bm St2 Mk2 ∧ Z2 = up Z b bm ∧ K2 = up K b kd)) ∧ LR (cap : Int) n2 S2 Z2 O2 Mk2 ∧ w = [(x, .inr (3, [.ref bu, .ref ki, .ref sa, .ref sto, .ref pk, .ref rd, .ref ta, .int (iI tn), .int (iI tp)])), (ki, aE cA 32 K2), (sto, .inr (2, [.ref bya, .ref ss, .ref zz, .ref od, .int (iI n2)])), (bya, aE cA cap St2), (ss, aE cA 32 S2), (zz, aE cA 32 Z2), (od, aE cA 32 O2), (q, aE cA N F)]) := by
  refine Ci.mk (by decide) (Nat.le_of_ble_eq_true rfl) ?_
  intro p e s m args below meth c A E
  refine GG.lvs (lv' := [(0, .ref x), (1, .int (iI b)), (2, .int (iI kd)), (3, .ref q), (4, .int (iI bm))]) [0, 1, 2, 3, 4] rfl ?_
  refine g_aload_n E dX3_keep_0 rfl 0 rfl ?_
  refine g_getfield E dX3_keep_1 0 3 rfl rfl (by decide) iX3 wd_200 rfl rfl ?_
  refine g_iload_n E dX3_keep_4 rfl 1 rfl ?_
  refine g_aload_n E dX3_keep_5 rfl 3 rfl ?_
  refine g_iload E dX3_keep_6 4 rfl ?_
  refine g_callV (n := 3) (As := [.int (iI b), .ref q, .int (iI bm)]) (rest := []) (wr := [(x, .inr (3, [.ref bu, .ref ki, .ref sa, .ref sto, .ref pk, .ref rd, .ref ta, .int (iI tn), .int (iI tp)])), (ki, aE cA 32 K)]) E dX3_keep_8 (c_X2_put l D cA sto bya ss zz od ns cap St S Z O _ q N F b bm (by omega) (by exact hLR) (by omega) (by omega) (by omega)) wd_code_X2_put wd_201 wd_202 wd_203 wd_204 (by decide +kernel) ⟨⟨rfl, rfl⟩, ⟨(Nat.le_of_ble_eq_true rfl), (Nat.le_of_ble_eq_true rfl)⟩, ⟨(Nat.le_of_ble_eq_true rfl), (Nat.le_of_ble_eq_true rfl)⟩⟩ [2, 3, 4, 5, 6, 7] [0, 1] rfl rfl (by decide) 0 rfl rfl rfl rfl (Nat.le_of_ble_eq_true rfl) (fun z_8 w_8 hw_8 => ?_)
  obtain ⟨St2_8, S2_8, Z2_8, O2_8, n2_8, Mk2_8, hP_8, hL2_8, rfl⟩ := hw_8
  refine GG.wss (ws' := [(x, .inr (3, [.ref bu, .ref ki, .ref sa, .ref sto, .ref pk, .ref rd, .ref ta, .int (iI tn), .int (iI tp)])), (ki, aE cA 32 K), (sto, .inr (2, [.ref bya, .ref ss, .ref zz, .ref od, .int (iI n2_8)])), (bya, aE cA cap St2_8), (ss, aE cA 32 S2_8), (zz, aE cA 32 Z2_8), (od, aE cA 32 O2_8), (q, aE cA N F)]) [0, 1, 2, 3, 4, 5, 6, 7] (by decide) rfl ?_
  refine g_if_ne (tgt := 17) E dX3_keep_11 (by decide) ⟨(by omega), (by omega)⟩ (fun c_11 => ?_) (fun c_11 => ?_)
  · skip
    refine g_aload_n E dX3_keep_17 rfl 0 rfl ?_
    refine g_getfield E dX3_keep_18 0 1 rfl rfl (by decide) iX3 wd_205 rfl rfl ?_
    refine g_iload_n E dX3_keep_21 rfl 1 rfl ?_
    refine g_iload_n E dX3_keep_22 rfl 2 rfl ?_
    refine g_iastore (ws' := [(x, .inr (3, [.ref bu, .ref ki, .ref sa, .ref sto, .ref pk, .ref rd, .ref ta, .int (iI tn), .int (iI tp)])), (ki, aE cA 32 (up K b kd)), (sto, .inr (2, [.ref bya, .ref ss, .ref zz, .ref od, .int (iI n2_8)])), (bya, aE cA cap St2_8), (ss, aE cA 32 S2_8), (zz, aE cA 32 Z2_8), (od, aE cA 32 O2_8), (q, aE cA N F)]) E dX3_keep_23 1 rfl (by omega) (by omega) (by omega) rfl ?_
    refine g_iload E dX3_keep_24 4 rfl ?_
    refine g_ireturn E dX3_keep_26 ?_
    exact ⟨St2_8, S2_8, Z2_8, O2_8, n2_8, Mk2_8, up K b kd, Or.inr (hP_8.elim (fun w => absurd w.1 c_11) (fun w => ⟨rfl, w.2.1, w.2.2, rfl⟩)), hL2_8, rfl⟩
  · skip
    refine g_bipush E dX3_keep_14 (by decide) ?_
    refine g_ireturn E dX3_keep_16 ?_
    exact ⟨St2_8, S2_8, Z2_8, O2_8, n2_8, Mk2_8, K, Or.inl (hP_8.elim (fun w => ⟨rfl, w.2.1, w.2.2.1, w.2.2.2.1, w.2.2.2.2, rfl⟩) (fun w => absurd w.1 (by omega))), hL2_8, rfl⟩
