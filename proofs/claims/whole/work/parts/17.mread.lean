theorem wd_102 : Cond.fieldLink RX4 66 "PackedSlotsModel" "wrongAt" "I" ∈ UW := uw (by decide +kernel) rfl
theorem wd_103 : Cond.fieldLink RX4 69 "PackedSlotsModel" "at" "I" ∈ UW := uw (by decide +kernel) rfl
theorem wd_104 : Cond.fieldLink RX4 72 "PackedSlotsModel" "inSize" "I" ∈ UW := uw (by decide +kernel) rfl
theorem wd_105 : Cond.fieldLink RX4 35 "PackedSlotsModel" "in" "[I" ∈ UW := uw (by decide +kernel) rfl
theorem wd_106 : Cond.fieldLink RX4 75 "PackedSlotsModel" "put" "I" ∈ UW := uw (by decide +kernel) rfl
theorem wd_107 : Cond.methodLink RX4 78 yX4_fails ∈ UW := uw (by decide +kernel) rfl
theorem wd_108 : Cond.instanceMethod yX4_fails ∈ UW := uw (by decide +kernel) rfl
theorem wd_109 : Cond.selects RX4 yX4_fails yX4_fails ∈ UW := uw (by decide +kernel) rfl
theorem wd_110 : Cond.initialized yX4_fails.cls ∈ UW := uw (by decide +kernel) rfl
theorem wd_111 : Cond.fieldLink RX4 38 "PackedSlotsModel" "out" "[I" ∈ UW := uw (by decide +kernel) rfl
theorem wd_112 : Cond.methodLink RX4 81 yX4_added ∈ UW := uw (by decide +kernel) rfl
theorem wd_113 : Cond.instanceMethod yX4_added ∈ UW := uw (by decide +kernel) rfl
theorem wd_114 : Cond.selects RX4 yX4_added yX4_added ∈ UW := uw (by decide +kernel) rfl
theorem wd_115 : Cond.initialized yX4_added.cls ∈ UW := uw (by decide +kernel) rfl
set_option maxHeartbeats 4000000 in
set_option maxRecDepth 100000 in
theorem c_X4_fails (l : Launch) (D : va_G) (cA : ClassId) (y : Nat) (mb : Nat) (ms : Nat) (mm : Nat) (mf : Nat) (mz : Nat) (mt : Nat) (mp : Nat) (mq : Nat) (mo : Nat) (ca : Int) (my : Int) (me : Int) (mn : Int) (mi : Int) (ma : Int) (mu : Int) (mw : Int) (fw : Int) (fp : Int) : Ci l D vwCl cA yX4_fails (.code yX4_fails cX4_fails 3 (some .int) :: UW) ({ frames := 0, cells := 0, slots := 0, locals := 0 }) 0 0 [.ref y, .int (iI fw), .int (iI fp)] [(y, .inr (4, [.int (iI ca), .ref mb, .ref ms, .ref mm, .ref mf, .ref mz, .int (iI my), .ref mt, .int (iI me), .int (iI mn), .ref mp, .int (iI mi), .ref mq, .int (iI ma), .int (iI mu), .ref mo, .int (iI mw)]))] (fun (r : Int) (w : va_W) => r = fw ∧ w = [(y, .inr (4, [.int (iI ca), .ref mb, .ref ms, .ref mm, .ref mf, .ref mz, .int (iI my), .ref mt, .int (iI me), .int (iI mn), .ref mp, .int (iI mi), .ref mq, .int (iI ma), .int (iI mu), .ref mo, .int (iI fp)]))]) := by
  refine Ci.mk (by decide) (Nat.le_of_ble_eq_true rfl) ?_
  intro p e s m args below meth c A E
  refine GG.lvs (lv' := [(0, .ref y), (1, .int (iI fw)), (2, .int (iI fp))]) [0, 1, 2] rfl ?_
  refine g_aload_n E dX4_fails_0 rfl 0 rfl ?_
  refine g_iload_n E dX4_fails_1 rfl 2 rfl ?_
  refine g_putfield (ws' := [(y, .inr (4, [.int (iI ca), .ref mb, .ref ms, .ref mm, .ref mf, .ref mz, .int (iI my), .ref mt, .int (iI me), .int (iI mn), .ref mp, .int (iI mi), .ref mq, .int (iI ma), .int (iI mu), .ref mo, .int (iI fp)]))]) E dX4_fails_2 0 16 rfl rfl (by decide) iX4 tyX4 tyX4_ok nmX4 wd_102 rfl rfl rfl rfl rfl (Nat.le_of_ble_eq_true rfl) rfl ?_
  refine g_iload_n E dX4_fails_5 rfl 1 rfl ?_
  refine g_ireturn E dX4_fails_6 ?_
  exact ⟨rfl, rfl⟩
set_option maxHeartbeats 4000000 in
set_option maxRecDepth 100000 in
theorem c_X4_added (l : Launch) (D : va_G) (cA : ClassId) (y : Nat) (mb : Nat) (ms : Nat) (mm : Nat) (mf : Nat) (mz : Nat) (mt : Nat) (mp : Nat) (mq : Nat) (mo : Nat) (ca : Int) (my : Int) (me : Int) (mn : Int) (mi : Int) (ma : Int) (mu : Int) (mw : Int) (IN : Int → Int) (hmi : 0 ≤ mi ∧ mi ≤ 600) (hma : 0 ≤ ma ∧ ma ≤ mi) (hIN : byR mi IN) : Ci l D vwCl cA yX4_added (.code yX4_added cX4_added 3 (some .int) :: UW) ({ frames := 0, cells := 0, slots := 0, locals := 0 }) 0 0 [.ref y] [(y, .inr (4, [.int (iI ca), .ref mb, .ref ms, .ref mm, .ref mf, .ref mz, .int (iI my), .ref mt, .int (iI me), .int (iI mn), .ref mp, .int (iI mi), .ref mq, .int (iI ma), .int (iI mu), .ref mo, .int (iI mw)])), (mq, aE cA 600 IN)] (fun (r : Int) (w : va_W) => ∃ (aa : Int), ((ad IN mi ma 0 = none ∧ r = -1) ∨ (ad IN mi ma 0 = some (r, aa) ∧ 0 ≤ r)) ∧ (ma ≤ aa ∧ aa ≤ mi ∧ -1 ≤ r ∧ r ≤ 255 * 600) ∧ w = [(y, .inr (4, [.int (iI ca), .ref mb, .ref ms, .ref mm, .ref mf, .ref mz, .int (iI my), .ref mt, .int (iI me), .int (iI mn), .ref mp, .int (iI mi), .ref mq, .int (iI aa), .int (iI mu), .ref mo, .int (iI mw)])), (mq, aE cA 600 IN)]) := by
  refine Ci.mk (by decide) (Nat.le_of_ble_eq_true rfl) ?_
  intro p e s m args below meth c A E
  refine GG.lvs (lv' := [(0, .ref y)]) [0] rfl ?_
  refine g_iconst E dX4_added_0 ?_
  refine g_istore_n (lv' := [(1, .int (iI 0)), (0, .ref y)]) E dX4_added_1 rfl (by decide) rfl ?_
  refine g_sipush E dX4_added_2 (by decide) ?_
  refine g_istore_n (lv' := [(2, .int (iI 255)), (1, .int (iI 0)), (0, .ref y)]) E dX4_added_5 rfl (by decide) rfl ?_
  have L6 : ∀ (fu6 : Nat) (sm : Int) (b : Int) (a : Int), 0 ≤ b ∧ b < 256 ∧ ma ≤ a ∧ a ≤ mi ∧ 0 ≤ sm ∧ sm ≤ 255 * (a - ma) → (b = 255 ∧ ad IN mi ma 0 = ad IN mi a sm) ∨ (b ≠ 255 ∧ ad IN mi ma 0 = some (sm, a)) → (mi - a + 1) < (fu6 : Int) → GG p l e ({ frames := 0, cells := 0, slots := 0, locals := 0 }) s m args below meth c D vwCl A 3 (QI D vwCl cA A below args s 0 0 (fun (r : Int) (w : va_W) => ∃ (aa : Int), ((ad IN mi ma 0 = none ∧ r = -1) ∨ (ad IN mi ma 0 = some (r, aa) ∧ 0 ≤ r)) ∧ (ma ≤ aa ∧ aa ≤ mi ∧ -1 ≤ r ∧ r ≤ 255 * 600) ∧ w = [(y, .inr (4, [.int (iI ca), .ref mb, .ref ms, .ref mm, .ref mf, .ref mz, .int (iI my), .ref mt, .int (iI me), .int (iI mn), .ref mp, .int (iI mi), .ref mq, .int (iI aa), .int (iI mu), .ref mo, .int (iI mw)])), (mq, aE cA 600 IN)])) 0 0 [(y, .inr (4, [.int (iI ca), .ref mb, .ref ms, .ref mm, .ref mf, .ref mz, .int (iI my), .ref mt, .int (iI me), .int (iI mn), .ref mp, .int (iI mi), .ref mq, .int (iI a), .int (iI mu), .ref mo, .int (iI mw)])), (mq, aE cA 600 IN)] [(0, .ref y), (1, .int (iI sm)), (2, .int (iI b))] 6 [] := by
    intro fu6
    induction fu6 with
    | zero => intro sm b a hb hI hmu6; exfalso; omega
    | succ fu6 ih6 =>
      intro sm b a hb hI hmu6
      refine g_iload_n E dX4_added_6 rfl 2 rfl ?_
      refine g_sipush E dX4_added_7 (by decide) ?_
      refine g_icmp_ne (tgt := 53) E dX4_added_10 (by decide) ⟨(by omega), (by omega)⟩ ⟨(by omega), (by omega)⟩ (fun c_10 => ?_) (fun c_10 => ?_)
      · skip
        refine g_iload_n E dX4_added_53 rfl 1 rfl ?_
        refine g_ireturn E dX4_added_54 ?_
        exact ⟨a, Or.inr ⟨hI.elim (fun g => absurd g.1 c_10) (fun g => g.2), by omega⟩, by omega, rfl⟩
      · skip
        refine g_aload_n E dX4_added_13 rfl 0 rfl ?_
        refine g_getfield E dX4_added_14 0 13 rfl rfl (by decide) iX4 wd_103 rfl rfl ?_
        refine g_aload_n E dX4_added_17 rfl 0 rfl ?_
        refine g_getfield E dX4_added_18 0 11 rfl rfl (by decide) iX4 wd_104 rfl rfl ?_
        refine g_icmp_ne (tgt := 26) E dX4_added_21 (by decide) ⟨(by omega), (by omega)⟩ ⟨(by omega), (by omega)⟩ (fun c_21 => ?_) (fun c_21 => ?_)
        · skip
          refine g_aload_n E dX4_added_26 rfl 0 rfl ?_
          refine g_getfield E dX4_added_27 0 12 rfl rfl (by decide) iX4 wd_105 rfl rfl ?_
          refine g_aload_n E dX4_added_30 rfl 0 rfl ?_
          refine g_getfield E dX4_added_31 0 13 rfl rfl (by decide) iX4 wd_103 rfl rfl ?_
          refine g_iaload E dX4_added_34 1 rfl (by omega) (by omega) (by omega) ?_
          have hbb := hIN a (by omega) (by omega)
          have hI1 : ad IN mi ma 0 = ad IN mi a sm := hI.elim (fun g => g.2) (fun g => absurd c_10 g.1)
          have hnx : (IN a = 255 ∧ ad IN mi ma 0 = ad IN mi (a + 1) (sm + IN a)) ∨ (IN a ≠ 255 ∧ ad IN mi ma 0 = some (sm + IN a, a + 1)) := by
            by_cases q : IN a = 255
            · exact Or.inl ⟨q, by rw [hI1, ad_more (by omega) q, q]⟩
            · exact Or.inr ⟨q, by rw [hI1, ad_end (by omega) q]⟩
          refine g_istore_n (lv' := [(2, .int (iI (IN a))), (0, .ref y), (1, .int (iI sm))]) E dX4_added_35 rfl (by decide) rfl ?_
          refine g_aload_n E dX4_added_36 rfl 1 rfl ?_
          refine g_dup E dX4_added_37 rfl ?_
          refine g_getfield E dX4_added_38 0 13 rfl rfl (by decide) iX4 wd_103 rfl rfl ?_
          refine g_iconst E dX4_added_41 ?_
          refine g_iadd E dX4_added_42 ?_
          refine g_putfield (ws' := [(y, .inr (4, [.int (iI ca), .ref mb, .ref ms, .ref mm, .ref mf, .ref mz, .int (iI my), .ref mt, .int (iI me), .int (iI mn), .ref mp, .int (iI mi), .ref mq, .int (iI (a + 1)), .int (iI mu), .ref mo, .int (iI mw)])), (mq, aE cA 600 IN)]) E dX4_added_43 0 13 rfl rfl (by decide) iX4 tyX4 tyX4_ok nmX4 wd_103 rfl rfl rfl rfl rfl (Nat.le_of_ble_eq_true rfl) rfl ?_
          refine g_iload_n E dX4_added_46 rfl 2 rfl ?_
          refine g_iload_n E dX4_added_47 rfl 0 rfl ?_
          refine g_iadd E dX4_added_48 ?_
          refine g_istore_n (lv' := [(1, .int (iI (sm + (IN a)))), (2, .int (iI (IN a))), (0, .ref y)]) E dX4_added_49 rfl (by decide) rfl ?_
          refine g_goto (tgt := 6) E dX4_added_50 (by decide) ?_
          refine GG.lvs (lv' := [(0, .ref y), (1, .int (iI (sm + (IN a)))), (2, .int (iI (IN a)))]) [2, 0, 1] rfl ?_
          exact ih6 (sm + (IN a)) (IN a) (a + 1) (by omega) (by exact hnx) (by omega)
        · skip
          refine g_iconst E dX4_added_24 ?_
          refine g_ireturn E dX4_added_25 ?_
          exact ⟨a, Or.inl ⟨by rw [hI.elim (fun g => g.2) (fun g => absurd c_10 g.1), ad_lack (by omega)], rfl⟩, by omega, rfl⟩
  refine GG.lvs (lv' := [(0, .ref y), (1, .int (iI 0)), (2, .int (iI 255))]) [2, 1, 0] rfl ?_
  exact L6 ((mi - ma + 1 : Int).toNat + 1) 0 255 ma (by omega) (by exact Or.inl ⟨rfl, rfl⟩) (by omega)
set_option maxHeartbeats 4000000 in
set_option maxRecDepth 100000 in
theorem c_X4_readAll (l : Launch) (D : va_G) (cA : ClassId) (y : Nat) (mb : Nat) (ms : Nat) (mm : Nat) (mf : Nat) (mz : Nat) (mt : Nat) (mp : Nat) (mq : Nat) (mo : Nat) (ca : Int) (my : Int) (me : Int) (mn : Int) (mi : Int) (ma : Int) (mu : Int) (mw : Int) (IN : Int → Int) (RO : Int → Int) (hmi : 0 ≤ mi ∧ mi ≤ 600) (hIN : byR mi IN) : Ci l D vwCl cA yX4_readAll (.code yX4_readAll cX4_readAll 7 (some .int) :: UW) ({ frames := 1, cells := 0, slots := 0, locals := 22 }) 0 0 [.ref y] [(y, .inr (4, [.int (iI ca), .ref mb, .ref ms, .ref mm, .ref mf, .ref mz, .int (iI my), .ref mt, .int (iI me), .int (iI mn), .ref mp, .int (iI mi), .ref mq, .int (iI ma), .int (iI mu), .ref mo, .int (iI mw)])), (mq, aE cA 600 IN), (mo, aE cA 256 RO)] (fun (r : Int) (w : va_W) => ∃ (wa : Int) (aa : Int) (uu : Int) (OO : Int → Int), (((rdf IN mi 5000 0 0 RO).1 = 0 ∧ r = 0 ∧ uu = (rdf IN mi 5000 0 0 RO).2.2.1 ∧ OO = (rdf IN mi 5000 0 0 RO).2.2.2) ∨ ((rdf IN mi 5000 0 0 RO).1 ≠ 0 ∧ r = (rdf IN mi 5000 0 0 RO).1 ∧ wa = (rdf IN mi 5000 0 0 RO).2.1)) ∧ (0 ≤ uu ∧ uu ≤ 256 ∧ 0 ≤ r ∧ r ≤ 3) ∧ w = [(y, .inr (4, [.int (iI ca), .ref mb, .ref ms, .ref mm, .ref mf, .ref mz, .int (iI my), .ref mt, .int (iI me), .int (iI mn), .ref mp, .int (iI mi), .ref mq, .int (iI aa), .int (iI uu), .ref mo, .int (iI wa)])), (mq, aE cA 600 IN), (mo, aE cA 256 OO)]) := by
  refine Ci.mk (by decide) (Nat.le_of_ble_eq_true rfl) ?_
  intro p e s m args below meth c A E
  refine GG.lvs (lv' := [(0, .ref y)]) [0] rfl ?_
  refine g_aload_n E dX4_readAll_0 rfl 0 rfl ?_
  refine g_iconst E dX4_readAll_1 ?_
  refine g_putfield (ws' := [(y, .inr (4, [.int (iI ca), .ref mb, .ref ms, .ref mm, .ref mf, .ref mz, .int (iI my), .ref mt, .int (iI me), .int (iI mn), .ref mp, .int (iI mi), .ref mq, .int (iI 0), .int (iI mu), .ref mo, .int (iI mw)])), (mq, aE cA 600 IN), (mo, aE cA 256 RO)]) E dX4_readAll_2 0 13 rfl rfl (by decide) iX4 tyX4 tyX4_ok nmX4 wd_103 rfl rfl rfl rfl rfl (Nat.le_of_ble_eq_true rfl) rfl ?_
  refine g_aload_n E dX4_readAll_5 rfl 0 rfl ?_
  refine g_iconst E dX4_readAll_6 ?_
  refine g_putfield (ws' := [(y, .inr (4, [.int (iI ca), .ref mb, .ref ms, .ref mm, .ref mf, .ref mz, .int (iI my), .ref mt, .int (iI me), .int (iI mn), .ref mp, .int (iI mi), .ref mq, .int (iI 0), .int (iI 0), .ref mo, .int (iI mw)])), (mq, aE cA 600 IN), (mo, aE cA 256 RO)]) E dX4_readAll_7 0 14 rfl rfl (by decide) iX4 tyX4 tyX4_ok nmX4 wd_106 rfl rfl rfl rfl rfl (Nat.le_of_ble_eq_true rfl) rfl ?_
  have L10 : ∀ (fu10 : Nat) (a : Int) (u : Int) (G : Int → Int), 0 ≤ a ∧ a ≤ mi ∧ 0 ≤ u ∧ u ≤ 256 → (∃ f : Nat, mi - a + 1 ≤ (f : Int) ∧ rdf IN mi 5000 0 0 RO = rdf IN mi f a u G) → (mi - a + 1) < (fu10 : Int) → GG p l e ({ frames := 1, cells := 0, slots := 0, locals := 22 }) s m args below meth c D vwCl A 7 (QI D vwCl cA A below args s 0 0 (fun (r : Int) (w : va_W) => ∃ (wa : Int) (aa : Int) (uu : Int) (OO : Int → Int), (((rdf IN mi 5000 0 0 RO).1 = 0 ∧ r = 0 ∧ uu = (rdf IN mi 5000 0 0 RO).2.2.1 ∧ OO = (rdf IN mi 5000 0 0 RO).2.2.2) ∨ ((rdf IN mi 5000 0 0 RO).1 ≠ 0 ∧ r = (rdf IN mi 5000 0 0 RO).1 ∧ wa = (rdf IN mi 5000 0 0 RO).2.1)) ∧ (0 ≤ uu ∧ uu ≤ 256 ∧ 0 ≤ r ∧ r ≤ 3) ∧ w = [(y, .inr (4, [.int (iI ca), .ref mb, .ref ms, .ref mm, .ref mf, .ref mz, .int (iI my), .ref mt, .int (iI me), .int (iI mn), .ref mp, .int (iI mi), .ref mq, .int (iI aa), .int (iI uu), .ref mo, .int (iI wa)])), (mq, aE cA 600 IN), (mo, aE cA 256 OO)])) 0 0 [(y, .inr (4, [.int (iI ca), .ref mb, .ref ms, .ref mm, .ref mf, .ref mz, .int (iI my), .ref mt, .int (iI me), .int (iI mn), .ref mp, .int (iI mi), .ref mq, .int (iI a), .int (iI u), .ref mo, .int (iI mw)])), (mq, aE cA 600 IN), (mo, aE cA 256 G)] [(0, .ref y)] 10 [] := by
    intro fu10
    induction fu10 with
    | zero => intro a u G hau hF hmu10; exfalso; omega
    | succ fu10 ih10 =>
      intro a u G hau hF hmu10
      obtain ⟨f0, hf0, hF⟩ := hF
      obtain ⟨f1, rfl⟩ : ∃ q : Nat, f0 = q + 1 := ⟨f0 - 1, by omega⟩
      refine g_aload_n E dX4_readAll_10 rfl 0 rfl ?_
      refine g_getfield E dX4_readAll_11 0 13 rfl rfl (by decide) iX4 wd_103 rfl rfl ?_
      refine g_aload_n E dX4_readAll_14 rfl 0 rfl ?_
      refine g_getfield E dX4_readAll_15 0 11 rfl rfl (by decide) iX4 wd_104 rfl rfl ?_
      refine g_icmp_ne (tgt := 31) E dX4_readAll_18 (by decide) ⟨(by omega), (by omega)⟩ ⟨(by omega), (by omega)⟩ (fun c_18 => ?_) (fun c_18 => ?_)
      · skip
        have hlt : a < mi := by omega
        have hIa := hIN a (by omega) (by omega)
        refine g_aload_n E dX4_readAll_31 rfl 0 rfl ?_
        refine g_getfield E dX4_readAll_32 0 13 rfl rfl (by decide) iX4 wd_103 rfl rfl ?_
        refine g_istore_n (lv' := [(1, .int (iI a)), (0, .ref y)]) E dX4_readAll_35 rfl (by decide) rfl ?_
        refine g_aload_n E dX4_readAll_36 rfl 1 rfl ?_
        refine g_getfield E dX4_readAll_37 0 12 rfl rfl (by decide) iX4 wd_105 rfl rfl ?_
        refine g_aload_n E dX4_readAll_40 rfl 1 rfl ?_
        refine g_getfield E dX4_readAll_41 0 13 rfl rfl (by decide) iX4 wd_103 rfl rfl ?_
        refine g_iaload E dX4_readAll_44 1 rfl (by omega) (by omega) (by omega) ?_
        refine g_bipush E dX4_readAll_45 (by decide) ?_
        refine g_idiv E dX4_readAll_47 (by omega) (by omega) (by omega) (by omega) ?_
        refine g_istore_n (lv' := [(2, .int (iI ((IN a) / 16))), (1, .int (iI a)), (0, .ref y)]) E dX4_readAll_48 rfl (by decide) rfl ?_
        refine g_aload_n E dX4_readAll_49 rfl 2 rfl ?_
        refine g_getfield E dX4_readAll_50 0 12 rfl rfl (by decide) iX4 wd_105 rfl rfl ?_
        refine g_aload_n E dX4_readAll_53 rfl 2 rfl ?_
        refine g_getfield E dX4_readAll_54 0 13 rfl rfl (by decide) iX4 wd_103 rfl rfl ?_
        refine g_iaload E dX4_readAll_57 1 rfl (by omega) (by omega) (by omega) ?_
        refine g_bipush E dX4_readAll_58 (by decide) ?_
        refine g_irem E dX4_readAll_60 (by omega) (by omega) (by omega) (by omega) ?_
        refine g_istore_n (lv' := [(3, .int (iI ((IN a) % 16))), (2, .int (iI ((IN a) / 16))), (1, .int (iI a)), (0, .ref y)]) E dX4_readAll_61 rfl (by decide) rfl ?_
        refine g_aload_n E dX4_readAll_62 rfl 3 rfl ?_
        refine g_dup E dX4_readAll_63 rfl ?_
        refine g_getfield E dX4_readAll_64 0 13 rfl rfl (by decide) iX4 wd_103 rfl rfl ?_
        refine g_iconst E dX4_readAll_67 ?_
        refine g_iadd E dX4_readAll_68 ?_
        refine g_putfield (ws' := [(y, .inr (4, [.int (iI ca), .ref mb, .ref ms, .ref mm, .ref mf, .ref mz, .int (iI my), .ref mt, .int (iI me), .int (iI mn), .ref mp, .int (iI mi), .ref mq, .int (iI (a + 1)), .int (iI u), .ref mo, .int (iI mw)])), (mq, aE cA 600 IN), (mo, aE cA 256 G)]) E dX4_readAll_69 0 13 rfl rfl (by decide) iX4 tyX4 tyX4_ok nmX4 wd_103 rfl rfl rfl rfl rfl (Nat.le_of_ble_eq_true rfl) rfl ?_
        have L86 : ∀ (sm : Int) (a1 : Int), a + 1 ≤ a1 ∧ a1 ≤ mi ∧ -1 ≤ sm ∧ sm ≤ 255 * 600 → (sm = -1 ∧ numb IN mi (IN a / 16) (a + 1) = none) ∨ (0 ≤ sm ∧ numb IN mi (IN a / 16) (a + 1) = some (IN a / 16 + sm, a1)) → GG p l e ({ frames := 1, cells := 0, slots := 0, locals := 22 }) s m args below meth c D vwCl A 7 (QI D vwCl cA A below args s 0 0 (fun (r : Int) (w : va_W) => ∃ (wa : Int) (aa : Int) (uu : Int) (OO : Int → Int), (((rdf IN mi 5000 0 0 RO).1 = 0 ∧ r = 0 ∧ uu = (rdf IN mi 5000 0 0 RO).2.2.1 ∧ OO = (rdf IN mi 5000 0 0 RO).2.2.2) ∨ ((rdf IN mi 5000 0 0 RO).1 ≠ 0 ∧ r = (rdf IN mi 5000 0 0 RO).1 ∧ wa = (rdf IN mi 5000 0 0 RO).2.1)) ∧ (0 ≤ uu ∧ uu ≤ 256 ∧ 0 ≤ r ∧ r ≤ 3) ∧ w = [(y, .inr (4, [.int (iI ca), .ref mb, .ref ms, .ref mm, .ref mf, .ref mz, .int (iI my), .ref mt, .int (iI me), .int (iI mn), .ref mp, .int (iI mi), .ref mq, .int (iI aa), .int (iI uu), .ref mo, .int (iI wa)])), (mq, aE cA 600 IN), (mo, aE cA 256 OO)])) 0 0 [(y, .inr (4, [.int (iI ca), .ref mb, .ref ms, .ref mm, .ref mf, .ref mz, .int (iI my), .ref mt, .int (iI me), .int (iI mn), .ref mp, .int (iI mi), .ref mq, .int (iI a1), .int (iI u), .ref mo, .int (iI mw)])), (mq, aE cA 600 IN), (mo, aE cA 256 G)] [(0, .ref y), (1, .int (iI a)), (2, .int (iI (IN a / 16))), (3, .int (iI (IN a % 16)))] 86 [.int (iI sm)] := by
          intro sm a1 ha1 hsm
          refine g_istore (lv' := [(4, .int (iI sm)), (0, .ref y), (1, .int (iI a)), (2, .int (iI (IN a / 16))), (3, .int (iI (IN a % 16)))]) E dX4_readAll_86 (by decide) rfl ?_
          refine g_iload E dX4_readAll_88 0 rfl ?_
          refine g_if_ge (tgt := 103) E dX4_readAll_90 (by decide) ⟨(by omega), (by omega)⟩ (fun c_90 => ?_) (fun c_90 => ?_)
          · skip
            have hnum : numb IN mi (IN a / 16) (a + 1) = some (IN a / 16 + sm, a1) := hsm.elim (fun g => absurd g.1 (by omega)) (fun g => g.2)
            refine g_iload_n E dX4_readAll_103 rfl 3 rfl ?_
            refine g_iload E dX4_readAll_104 0 rfl ?_
            refine g_iadd E dX4_readAll_106 ?_
            obtain ⟨x0, e_x0⟩ : ∃ z : Int, z = (IN a / 16) + sm := ⟨_, rfl⟩
            rw [← e_x0]
            rw [← e_x0] at hnum
            refine g_istore_n (lv' := [(2, .int (iI x0)), (4, .int (iI sm)), (0, .ref y), (1, .int (iI a)), (3, .int (iI (IN a % 16)))]) E dX4_readAll_107 rfl (by decide) rfl ?_
            refine g_aload_n E dX4_readAll_108 rfl 2 rfl ?_
            refine g_getfield E dX4_readAll_109 0 14 rfl rfl (by decide) iX4 wd_106 rfl rfl ?_
            refine g_iload_n E dX4_readAll_112 rfl 0 rfl ?_
            refine g_iadd E dX4_readAll_113 ?_
            refine g_sipush E dX4_readAll_114 (by decide) ?_
            refine g_icmp_le (tgt := 127) E dX4_readAll_117 (by decide) ⟨(by omega), (by omega)⟩ ⟨(by omega), (by omega)⟩ (fun c_117 => ?_) (fun c_117 => ?_)
            · skip
              refine g_aload_n E dX4_readAll_127 rfl 2 rfl ?_
              refine g_getfield E dX4_readAll_128 0 13 rfl rfl (by decide) iX4 wd_103 rfl rfl ?_
              refine g_iload_n E dX4_readAll_131 rfl 0 rfl ?_
              refine g_iadd E dX4_readAll_132 ?_
              refine g_aload_n E dX4_readAll_133 rfl 2 rfl ?_
              refine g_getfield E dX4_readAll_134 0 11 rfl rfl (by decide) iX4 wd_104 rfl rfl ?_
              refine g_icmp_le (tgt := 150) E dX4_readAll_137 (by decide) ⟨(by omega), (by omega)⟩ ⟨(by omega), (by omega)⟩ (fun c_137 => ?_) (fun c_137 => ?_)
              · skip
                have hlk := ltk_0 (tok := a) (c := u) hnum (by omega) (by omega)
                refine g_iconst E dX4_readAll_150 ?_
                refine g_istore (lv' := [(5, .int (iI 0)), (2, .int (iI x0)), (4, .int (iI sm)), (0, .ref y), (1, .int (iI a)), (3, .int (iI (IN a % 16)))]) E dX4_readAll_151 (by decide) rfl ?_
                have L153 : ∀ (fu153 : Nat) (k : Int) (G2 : Int → Int), 0 ≤ k ∧ k ≤ x0 → G2 = cp IN G a1 u k → (x0 - k) < (fu153 : Int) → GG p l e ({ frames := 1, cells := 0, slots := 0, locals := 22 }) s m args below meth c D vwCl A 7 (QI D vwCl cA A below args s 0 0 (fun (r : Int) (w : va_W) => ∃ (wa : Int) (aa : Int) (uu : Int) (OO : Int → Int), (((rdf IN mi 5000 0 0 RO).1 = 0 ∧ r = 0 ∧ uu = (rdf IN mi 5000 0 0 RO).2.2.1 ∧ OO = (rdf IN mi 5000 0 0 RO).2.2.2) ∨ ((rdf IN mi 5000 0 0 RO).1 ≠ 0 ∧ r = (rdf IN mi 5000 0 0 RO).1 ∧ wa = (rdf IN mi 5000 0 0 RO).2.1)) ∧ (0 ≤ uu ∧ uu ≤ 256 ∧ 0 ≤ r ∧ r ≤ 3) ∧ w = [(y, .inr (4, [.int (iI ca), .ref mb, .ref ms, .ref mm, .ref mf, .ref mz, .int (iI my), .ref mt, .int (iI me), .int (iI mn), .ref mp, .int (iI mi), .ref mq, .int (iI aa), .int (iI uu), .ref mo, .int (iI wa)])), (mq, aE cA 600 IN), (mo, aE cA 256 OO)])) 0 0 [(y, .inr (4, [.int (iI ca), .ref mb, .ref ms, .ref mm, .ref mf, .ref mz, .int (iI my), .ref mt, .int (iI me), .int (iI mn), .ref mp, .int (iI mi), .ref mq, .int (iI a1), .int (iI u), .ref mo, .int (iI mw)])), (mq, aE cA 600 IN), (mo, aE cA 256 G2)] [(0, .ref y), (1, .int (iI a)), (2, .int (iI x0)), (3, .int (iI (IN a % 16))), (5, .int (iI k))] 153 [] := by
                  intro fu153
                  induction fu153 with
                  | zero => intro k G2 hk hG2 hmu153; exfalso; omega
                  | succ fu153 ih153 =>
                    intro k G2 hk hG2 hmu153
                    refine g_iload E dX4_readAll_153 4 rfl ?_
                    refine g_iload_n E dX4_readAll_155 rfl 2 rfl ?_
                    refine g_icmp_ge (tgt := 189) E dX4_readAll_156 (by decide) ⟨(by omega), (by omega)⟩ ⟨(by omega), (by omega)⟩ (fun c_156 => ?_) (fun c_156 => ?_)
                    · skip
                      have hkk : k = x0 := by omega
                      rw [hkk] at hG2
                      refine g_aload_n E dX4_readAll_189 rfl 0 rfl ?_
                      refine g_dup E dX4_readAll_190 rfl ?_
                      refine g_getfield E dX4_readAll_191 0 14 rfl rfl (by decide) iX4 wd_106 rfl rfl ?_
                      refine g_iload_n E dX4_readAll_194 rfl 2 rfl ?_
                      refine g_iadd E dX4_readAll_195 ?_
                      obtain ⟨u2, e_u2⟩ : ∃ z : Int, z = u + x0 := ⟨_, rfl⟩
                      rw [← e_u2]
                      refine g_putfield (ws' := [(y, .inr (4, [.int (iI ca), .ref mb, .ref ms, .ref mm, .ref mf, .ref mz, .int (iI my), .ref mt, .int (iI me), .int (iI mn), .ref mp, .int (iI mi), .ref mq, .int (iI a1), .int (iI u2), .ref mo, .int (iI mw)])), (mq, aE cA 600 IN), (mo, aE cA 256 G2)]) E dX4_readAll_196 0 14 rfl rfl (by decide) iX4 tyX4 tyX4_ok nmX4 wd_106 rfl rfl rfl rfl rfl (Nat.le_of_ble_eq_true rfl) rfl ?_
                      refine g_aload_n E dX4_readAll_199 rfl 0 rfl ?_
                      refine g_dup E dX4_readAll_200 rfl ?_
                      refine g_getfield E dX4_readAll_201 0 13 rfl rfl (by decide) iX4 wd_103 rfl rfl ?_
                      refine g_iload_n E dX4_readAll_204 rfl 2 rfl ?_
                      refine g_iadd E dX4_readAll_205 ?_
                      obtain ⟨a2, e_a2⟩ : ∃ z : Int, z = a1 + x0 := ⟨_, rfl⟩
                      rw [← e_a2]
                      refine g_putfield (ws' := [(y, .inr (4, [.int (iI ca), .ref mb, .ref ms, .ref mm, .ref mf, .ref mz, .int (iI my), .ref mt, .int (iI me), .int (iI mn), .ref mp, .int (iI mi), .ref mq, .int (iI a2), .int (iI u2), .ref mo, .int (iI mw)])), (mq, aE cA 600 IN), (mo, aE cA 256 G2)]) E dX4_readAll_206 0 13 rfl rfl (by decide) iX4 tyX4 tyX4_ok nmX4 wd_103 rfl rfl rfl rfl rfl (Nat.le_of_ble_eq_true rfl) rfl ?_
                      refine g_aload_n E dX4_readAll_209 rfl 0 rfl ?_
                      refine g_getfield E dX4_readAll_210 0 13 rfl rfl (by decide) iX4 wd_103 rfl rfl ?_
                      refine g_aload_n E dX4_readAll_213 rfl 0 rfl ?_
                      refine g_getfield E dX4_readAll_214 0 11 rfl rfl (by decide) iX4 wd_104 rfl rfl ?_
                      refine g_icmp_ne (tgt := 222) E dX4_readAll_217 (by decide) ⟨(by omega), (by omega)⟩ ⟨(by omega), (by omega)⟩ (fun c_217 => ?_) (fun c_217 => ?_)
                      · skip
                        refine g_aload_n E dX4_readAll_222 rfl 0 rfl ?_
                        refine g_getfield E dX4_readAll_223 0 13 rfl rfl (by decide) iX4 wd_103 rfl rfl ?_
                        refine g_iconst E dX4_readAll_226 ?_
                        refine g_iadd E dX4_readAll_227 ?_
                        refine g_aload_n E dX4_readAll_228 rfl 0 rfl ?_
                        refine g_getfield E dX4_readAll_229 0 11 rfl rfl (by decide) iX4 wd_104 rfl rfl ?_
                        refine g_icmp_le (tgt := 245) E dX4_readAll_232 (by decide) ⟨(by omega), (by omega)⟩ ⟨(by omega), (by omega)⟩ (fun c_232 => ?_) (fun c_232 => ?_)
                        · skip
                          refine g_aload_n E dX4_readAll_245 rfl 0 rfl ?_
                          refine g_getfield E dX4_readAll_246 0 12 rfl rfl (by decide) iX4 wd_105 rfl rfl ?_
                          refine g_aload_n E dX4_readAll_249 rfl 0 rfl ?_
                          refine g_getfield E dX4_readAll_250 0 13 rfl rfl (by decide) iX4 wd_103 rfl rfl ?_
                          refine g_iaload E dX4_readAll_253 1 rfl (by omega) (by omega) (by omega) ?_
                          have hIb := hIN a2 (by omega) (by omega)
                          refine g_sipush E dX4_readAll_254 (by decide) ?_
                          refine g_aload_n E dX4_readAll_257 rfl 0 rfl ?_
                          refine g_getfield E dX4_readAll_258 0 12 rfl rfl (by decide) iX4 wd_105 rfl rfl ?_
                          refine g_aload_n E dX4_readAll_261 rfl 0 rfl ?_
                          refine g_getfield E dX4_readAll_262 0 13 rfl rfl (by decide) iX4 wd_103 rfl rfl ?_
                          refine g_iconst E dX4_readAll_265 ?_
                          refine g_iadd E dX4_readAll_266 ?_
                          refine g_iaload E dX4_readAll_267 1 rfl (by omega) (by omega) (by omega) ?_
                          have hIc := hIN (a2 + 1) (by omega) (by omega)
                          refine g_imul E dX4_readAll_268 ?_
                          refine g_iadd E dX4_readAll_269 ?_
                          obtain ⟨o1, e_o1⟩ : ∃ z : Int, z = (IN a2) + (256 * (IN (a2 + 1))) := ⟨_, rfl⟩
                          rw [← e_o1]
                          refine g_istore (lv' := [(5, .int (iI o1)), (0, .ref y), (1, .int (iI a)), (2, .int (iI x0)), (3, .int (iI (IN a % 16)))]) E dX4_readAll_270 (by decide) rfl ?_
                          refine g_iload E dX4_readAll_272 0 rfl ?_
                          refine g_if_eq (tgt := 286) E dX4_readAll_274 (by decide) ⟨(by omega), (by omega)⟩ (fun c_274 => ?_) (fun c_274 => ?_)
                          · skip
                            refine g_aload_n E dX4_readAll_286 rfl 1 rfl ?_
                            refine g_iconst E dX4_readAll_287 ?_
                            refine g_aload_n E dX4_readAll_288 rfl 1 rfl ?_
                            refine g_getfield E dX4_readAll_289 0 13 rfl rfl (by decide) iX4 wd_103 rfl rfl ?_
                            refine g_callV (n := 2) (As := [.int (iI 2), .int (iI a2)]) (rest := []) (wr := [(mq, aE cA 600 IN), (mo, aE cA 256 G2)]) E dX4_readAll_292 (c_X4_fails l D cA y mb ms mm mf mz mt mp mq mo ca my me mn mi a2 u2 mw 2 a2 ) wd_code_X4_fails wd_107 wd_108 wd_109 wd_110 (by decide +kernel) ⟨⟨rfl, rfl⟩, ⟨(Nat.le_of_ble_eq_true rfl), (Nat.le_of_ble_eq_true rfl)⟩, ⟨(Nat.le_of_ble_eq_true rfl), (Nat.le_of_ble_eq_true rfl)⟩⟩ [0] [1, 2] rfl rfl (by decide) 0 rfl rfl rfl rfl (Nat.le_of_ble_eq_true rfl) (fun z_292 w_292 hw_292 => ?_)
                            obtain ⟨hr_292, rfl⟩ := hw_292
                            subst hr_292
                            refine GG.wss (ws' := [(y, .inr (4, [.int (iI ca), .ref mb, .ref ms, .ref mm, .ref mf, .ref mz, .int (iI my), .ref mt, .int (iI me), .int (iI mn), .ref mp, .int (iI mi), .ref mq, .int (iI a2), .int (iI u2), .ref mo, .int (iI a2)])), (mq, aE cA 600 IN), (mo, aE cA 256 G2)]) [2, 0, 1] (by decide) rfl ?_
                            refine g_ireturn E dX4_readAll_295 ?_
                            have hmm : mtk IN mi (IN a % 16) (a1 + x0) a (u + x0) = (2, a2, 0, 0, 0) := by rw [← e_a2, ← e_u2]; exact mtk_2 (by omega) (by omega)
                            have hres := rdf_merr (O := G) (f := f1) hlt hlk (by omega) hmm (by decide)
                            rw [← hF] at hres
                            exact ⟨a2, _, _, _, Or.inr ⟨by rw [hres]; first | exact (by decide : (1 : Int) ≠ 0) | exact (by decide : (2 : Int) ≠ 0) | exact (by decide : (3 : Int) ≠ 0), by rw [hres], by rw [hres]⟩, by omega, rfl⟩
                          · skip
                            refine g_iload E dX4_readAll_277 0 rfl ?_
                            refine g_aload_n E dX4_readAll_279 rfl 1 rfl ?_
                            refine g_getfield E dX4_readAll_280 0 14 rfl rfl (by decide) iX4 wd_106 rfl rfl ?_
                            refine g_icmp_le (tgt := 296) E dX4_readAll_283 (by decide) ⟨(by omega), (by omega)⟩ ⟨(by omega), (by omega)⟩ (fun c_283 => ?_) (fun c_283 => ?_)
                            · skip
                              refine g_aload_n E dX4_readAll_296 rfl 1 rfl ?_
                              refine g_dup E dX4_readAll_297 rfl ?_
                              refine g_getfield E dX4_readAll_298 0 13 rfl rfl (by decide) iX4 wd_103 rfl rfl ?_
                              refine g_iconst E dX4_readAll_301 ?_
                              refine g_iadd E dX4_readAll_302 ?_
                              refine g_putfield (ws' := [(y, .inr (4, [.int (iI ca), .ref mb, .ref ms, .ref mm, .ref mf, .ref mz, .int (iI my), .ref mt, .int (iI me), .int (iI mn), .ref mp, .int (iI mi), .ref mq, .int (iI (a2 + 2)), .int (iI u2), .ref mo, .int (iI mw)])), (mq, aE cA 600 IN), (mo, aE cA 256 G2)]) E dX4_readAll_303 0 13 rfl rfl (by decide) iX4 tyX4 tyX4_ok nmX4 wd_103 rfl rfl rfl rfl rfl (Nat.le_of_ble_eq_true rfl) rfl ?_
                              have L320 : ∀ (s2 : Int) (a3 : Int), a2 + 2 ≤ a3 ∧ a3 ≤ mi ∧ -1 ≤ s2 ∧ s2 ≤ 255 * 600 → (s2 = -1 ∧ numb IN mi (IN a % 16) (a2 + 2) = none) ∨ (0 ≤ s2 ∧ numb IN mi (IN a % 16) (a2 + 2) = some (IN a % 16 + s2, a3)) → GG p l e ({ frames := 1, cells := 0, slots := 0, locals := 22 }) s m args below meth c D vwCl A 7 (QI D vwCl cA A below args s 0 0 (fun (r : Int) (w : va_W) => ∃ (wa : Int) (aa : Int) (uu : Int) (OO : Int → Int), (((rdf IN mi 5000 0 0 RO).1 = 0 ∧ r = 0 ∧ uu = (rdf IN mi 5000 0 0 RO).2.2.1 ∧ OO = (rdf IN mi 5000 0 0 RO).2.2.2) ∨ ((rdf IN mi 5000 0 0 RO).1 ≠ 0 ∧ r = (rdf IN mi 5000 0 0 RO).1 ∧ wa = (rdf IN mi 5000 0 0 RO).2.1)) ∧ (0 ≤ uu ∧ uu ≤ 256 ∧ 0 ≤ r ∧ r ≤ 3) ∧ w = [(y, .inr (4, [.int (iI ca), .ref mb, .ref ms, .ref mm, .ref mf, .ref mz, .int (iI my), .ref mt, .int (iI me), .int (iI mn), .ref mp, .int (iI mi), .ref mq, .int (iI aa), .int (iI uu), .ref mo, .int (iI wa)])), (mq, aE cA 600 IN), (mo, aE cA 256 OO)])) 0 0 [(y, .inr (4, [.int (iI ca), .ref mb, .ref ms, .ref mm, .ref mf, .ref mz, .int (iI my), .ref mt, .int (iI me), .int (iI mn), .ref mp, .int (iI mi), .ref mq, .int (iI a3), .int (iI u2), .ref mo, .int (iI mw)])), (mq, aE cA 600 IN), (mo, aE cA 256 G2)] [(0, .ref y), (1, .int (iI a)), (3, .int (iI (IN a % 16))), (5, .int (iI o1))] 320 [.int (iI s2)] := by
                                intro s2 a3 ha3 hs2
                                refine g_istore (lv' := [(4, .int (iI s2)), (0, .ref y), (1, .int (iI a)), (3, .int (iI (IN a % 16))), (5, .int (iI o1))]) E dX4_readAll_320 (by decide) rfl ?_
                                refine g_iload E dX4_readAll_322 0 rfl ?_
                                refine g_if_ge (tgt := 337) E dX4_readAll_324 (by decide) ⟨(by omega), (by omega)⟩ (fun c_324 => ?_) (fun c_324 => ?_)
                                · skip
                                  have hnum2 : numb IN mi (IN a % 16) (a2 + 2) = some (IN a % 16 + s2, a3) := hs2.elim (fun g => absurd g.1 (by omega)) (fun g => g.2)
                                  refine g_iload_n E dX4_readAll_337 rfl 3 rfl ?_
                                  refine g_iconst E dX4_readAll_338 ?_
                                  refine g_iload E dX4_readAll_339 0 rfl ?_
                                  refine g_iadd E dX4_readAll_341 ?_
                                  refine g_iadd E dX4_readAll_342 ?_
                                  obtain ⟨ln, e_ln⟩ : ∃ z : Int, z = (IN a % 16) + (4 + s2) := ⟨_, rfl⟩
                                  rw [← e_ln]
                                  refine g_istore_n (lv' := [(3, .int (iI ln)), (4, .int (iI s2)), (0, .ref y), (1, .int (iI a)), (5, .int (iI o1))]) E dX4_readAll_343 rfl (by decide) rfl ?_
                                  refine g_aload_n E dX4_readAll_344 rfl 2 rfl ?_
                                  refine g_getfield E dX4_readAll_345 0 14 rfl rfl (by decide) iX4 wd_106 rfl rfl ?_
                                  refine g_iload_n E dX4_readAll_348 rfl 0 rfl ?_
                                  refine g_iadd E dX4_readAll_349 ?_
                                  refine g_sipush E dX4_readAll_350 (by decide) ?_
                                  refine g_icmp_le (tgt := 363) E dX4_readAll_353 (by decide) ⟨(by omega), (by omega)⟩ ⟨(by omega), (by omega)⟩ (fun c_353 => ?_) (fun c_353 => ?_)
                                  · skip
                                    have hmk := mtk_0 (tok := a) (c := u2) (show a2 + 2 ≤ mi by omega) (by omega) hnum2 (by omega)
                                    rw [← e_o1, show 4 + (IN a % 16 + s2) = ln by omega] at hmk
                                    rw [e_u2, e_a2] at hmk
                                    refine g_iconst E dX4_readAll_363 ?_
                                    refine g_istore (lv' := [(6, .int (iI 0)), (3, .int (iI ln)), (4, .int (iI s2)), (0, .ref y), (1, .int (iI a)), (5, .int (iI o1))]) E dX4_readAll_364 (by decide) rfl ?_
                                    have L366 : ∀ (fu366 : Nat) (j : Int) (G3 : Int → Int), 0 ≤ j ∧ j ≤ ln → G3 = rpk G2 u2 o1 j.toNat → (ln - j) < (fu366 : Int) → GG p l e ({ frames := 1, cells := 0, slots := 0, locals := 22 }) s m args below meth c D vwCl A 7 (QI D vwCl cA A below args s 0 0 (fun (r : Int) (w : va_W) => ∃ (wa : Int) (aa : Int) (uu : Int) (OO : Int → Int), (((rdf IN mi 5000 0 0 RO).1 = 0 ∧ r = 0 ∧ uu = (rdf IN mi 5000 0 0 RO).2.2.1 ∧ OO = (rdf IN mi 5000 0 0 RO).2.2.2) ∨ ((rdf IN mi 5000 0 0 RO).1 ≠ 0 ∧ r = (rdf IN mi 5000 0 0 RO).1 ∧ wa = (rdf IN mi 5000 0 0 RO).2.1)) ∧ (0 ≤ uu ∧ uu ≤ 256 ∧ 0 ≤ r ∧ r ≤ 3) ∧ w = [(y, .inr (4, [.int (iI ca), .ref mb, .ref ms, .ref mm, .ref mf, .ref mz, .int (iI my), .ref mt, .int (iI me), .int (iI mn), .ref mp, .int (iI mi), .ref mq, .int (iI aa), .int (iI uu), .ref mo, .int (iI wa)])), (mq, aE cA 600 IN), (mo, aE cA 256 OO)])) 0 0 [(y, .inr (4, [.int (iI ca), .ref mb, .ref ms, .ref mm, .ref mf, .ref mz, .int (iI my), .ref mt, .int (iI me), .int (iI mn), .ref mp, .int (iI mi), .ref mq, .int (iI a3), .int (iI u2), .ref mo, .int (iI mw)])), (mq, aE cA 600 IN), (mo, aE cA 256 G3)] [(0, .ref y), (3, .int (iI ln)), (5, .int (iI o1)), (6, .int (iI j))] 366 [] := by
                                      intro fu366
                                      induction fu366 with
                                      | zero => intro j G3 hj hG3 hmu366; exfalso; omega
                                      | succ fu366 ih366 =>
                                        intro j G3 hj hG3 hmu366
                                        refine g_iload E dX4_readAll_366 3 rfl ?_
                                        refine g_iload_n E dX4_readAll_368 rfl 1 rfl ?_
                                        refine g_icmp_ge (tgt := 405) E dX4_readAll_369 (by decide) ⟨(by omega), (by omega)⟩ ⟨(by omega), (by omega)⟩ (fun c_369 => ?_) (fun c_369 => ?_)
                                        · skip
                                          have hjj : j = ln := by omega
                                          rw [hjj] at hG3
                                          refine g_aload_n E dX4_readAll_405 rfl 0 rfl ?_
                                          refine g_dup E dX4_readAll_406 rfl ?_
                                          refine g_getfield E dX4_readAll_407 0 14 rfl rfl (by decide) iX4 wd_106 rfl rfl ?_
                                          refine g_iload_n E dX4_readAll_410 rfl 1 rfl ?_
                                          refine g_iadd E dX4_readAll_411 ?_
                                          refine g_putfield (ws' := [(y, .inr (4, [.int (iI ca), .ref mb, .ref ms, .ref mm, .ref mf, .ref mz, .int (iI my), .ref mt, .int (iI me), .int (iI mn), .ref mp, .int (iI mi), .ref mq, .int (iI a3), .int (iI (u2 + ln)), .ref mo, .int (iI mw)])), (mq, aE cA 600 IN), (mo, aE cA 256 G3)]) E dX4_readAll_412 0 14 rfl rfl (by decide) iX4 tyX4 tyX4_ok nmX4 wd_106 rfl rfl rfl rfl rfl (Nat.le_of_ble_eq_true rfl) rfl ?_
                                          refine g_goto (tgt := 10) E dX4_readAll_415 (by decide) ?_
                                          refine GG.lvs (lv' := [(0, .ref y)]) [0] rfl ?_
                                          exact ih10 a3 (u2 + ln) G3 (by omega) (by exact ⟨f1, by omega, by rw [hF, rdf_more hlt hlk (by omega) hmk, ← e_u2, ← hG2, ← hG3]⟩) (by omega)
                                        · skip
                                          refine g_aload_n E dX4_readAll_372 rfl 0 rfl ?_
                                          refine g_getfield E dX4_readAll_373 0 15 rfl rfl (by decide) iX4 wd_111 rfl rfl ?_
                                          refine g_aload_n E dX4_readAll_376 rfl 0 rfl ?_
                                          refine g_getfield E dX4_readAll_377 0 14 rfl rfl (by decide) iX4 wd_106 rfl rfl ?_
                                          refine g_iload E dX4_readAll_380 3 rfl ?_
                                          refine g_iadd E dX4_readAll_382 ?_
                                          refine g_aload_n E dX4_readAll_383 rfl 0 rfl ?_
                                          refine g_getfield E dX4_readAll_384 0 15 rfl rfl (by decide) iX4 wd_111 rfl rfl ?_
                                          refine g_aload_n E dX4_readAll_387 rfl 0 rfl ?_
                                          refine g_getfield E dX4_readAll_388 0 14 rfl rfl (by decide) iX4 wd_106 rfl rfl ?_
                                          refine g_iload E dX4_readAll_391 3 rfl ?_
                                          refine g_iadd E dX4_readAll_393 ?_
                                          refine g_iload E dX4_readAll_394 2 rfl ?_
                                          refine g_isub E dX4_readAll_396 ?_
                                          refine g_iaload E dX4_readAll_397 2 rfl (by omega) (by omega) (by omega) ?_
                                          refine g_iastore (ws' := [(y, .inr (4, [.int (iI ca), .ref mb, .ref ms, .ref mm, .ref mf, .ref mz, .int (iI my), .ref mt, .int (iI me), .int (iI mn), .ref mp, .int (iI mi), .ref mq, .int (iI a3), .int (iI u2), .ref mo, .int (iI mw)])), (mq, aE cA 600 IN), (mo, aE cA 256 (up G3 (u2 + j) (G3 ((u2 + j) - o1))))]) E dX4_readAll_398 2 rfl (by omega) (by omega) (by omega) rfl ?_
                                          refine g_iinc (lv' := [(6, .int (iI (j + 1))), (0, .ref y), (3, .int (iI ln)), (5, .int (iI o1))]) E dX4_readAll_399 3 rfl (by decide) rfl ?_
                                          refine g_goto (tgt := 366) E dX4_readAll_402 (by decide) ?_
                                          refine GG.lvs (lv' := [(0, .ref y), (3, .int (iI ln)), (5, .int (iI o1)), (6, .int (iI (j + 1)))]) [1, 2, 3, 0] rfl ?_
                                          exact ih366 (j + 1) (up G3 (u2 + j) (G3 ((u2 + j) - o1))) (by omega) (by exact rpk_s hj.1 hG3) (by omega)
                                    refine GG.lvs (lv' := [(0, .ref y), (3, .int (iI ln)), (5, .int (iI o1)), (6, .int (iI 0))]) [3, 1, 5, 0] rfl ?_
                                    exact L366 ((ln - 0 : Int).toNat + 1) 0 G2 (by omega) (by rfl) (by omega)
                                  · skip
                                    refine g_aload_n E dX4_readAll_356 rfl 2 rfl ?_
                                    refine g_iconst E dX4_readAll_357 ?_
                                    refine g_iload_n E dX4_readAll_358 rfl 3 rfl ?_
                                    refine g_callV (n := 2) (As := [.int (iI 3), .int (iI a)]) (rest := []) (wr := [(mq, aE cA 600 IN), (mo, aE cA 256 G2)]) E dX4_readAll_359 (c_X4_fails l D cA y mb ms mm mf mz mt mp mq mo ca my me mn mi a3 u2 mw 3 a ) wd_code_X4_fails wd_107 wd_108 wd_109 wd_110 (by decide +kernel) ⟨⟨rfl, rfl⟩, ⟨(Nat.le_of_ble_eq_true rfl), (Nat.le_of_ble_eq_true rfl)⟩, ⟨(Nat.le_of_ble_eq_true rfl), (Nat.le_of_ble_eq_true rfl)⟩⟩ [0] [1, 2] rfl rfl (by decide) 0 rfl rfl rfl rfl (Nat.le_of_ble_eq_true rfl) (fun z_359 w_359 hw_359 => ?_)
                                    obtain ⟨hr_359, rfl⟩ := hw_359
                                    subst hr_359
                                    refine GG.wss (ws' := [(y, .inr (4, [.int (iI ca), .ref mb, .ref ms, .ref mm, .ref mf, .ref mz, .int (iI my), .ref mt, .int (iI me), .int (iI mn), .ref mp, .int (iI mi), .ref mq, .int (iI a3), .int (iI u2), .ref mo, .int (iI a)])), (mq, aE cA 600 IN), (mo, aE cA 256 G2)]) [2, 0, 1] (by decide) rfl ?_
                                    refine g_ireturn E dX4_readAll_362 ?_
                                    have hmm : mtk IN mi (IN a % 16) (a1 + x0) a (u + x0) = (3, a, 0, 0, 0) := by rw [← e_a2, ← e_u2]; exact mtk_3 (by omega) (by omega) hnum2 (by omega)
                                    have hres := rdf_merr (O := G) (f := f1) hlt hlk (by omega) hmm (by decide)
                                    rw [← hF] at hres
                                    exact ⟨a, _, _, _, Or.inr ⟨by rw [hres]; first | exact (by decide : (1 : Int) ≠ 0) | exact (by decide : (2 : Int) ≠ 0) | exact (by decide : (3 : Int) ≠ 0), by rw [hres], by rw [hres]⟩, by omega, rfl⟩
                                · skip
                                  refine g_aload_n E dX4_readAll_327 rfl 1 rfl ?_
                                  refine g_iconst E dX4_readAll_328 ?_
                                  refine g_aload_n E dX4_readAll_329 rfl 1 rfl ?_
                                  refine g_getfield E dX4_readAll_330 0 11 rfl rfl (by decide) iX4 wd_104 rfl rfl ?_
                                  refine g_callV (n := 2) (As := [.int (iI 1), .int (iI mi)]) (rest := []) (wr := [(mq, aE cA 600 IN), (mo, aE cA 256 G2)]) E dX4_readAll_333 (c_X4_fails l D cA y mb ms mm mf mz mt mp mq mo ca my me mn mi a3 u2 mw 1 mi ) wd_code_X4_fails wd_107 wd_108 wd_109 wd_110 (by decide +kernel) ⟨⟨rfl, rfl⟩, ⟨(Nat.le_of_ble_eq_true rfl), (Nat.le_of_ble_eq_true rfl)⟩, ⟨(Nat.le_of_ble_eq_true rfl), (Nat.le_of_ble_eq_true rfl)⟩⟩ [0] [1, 2] rfl rfl (by decide) 0 rfl rfl rfl rfl (Nat.le_of_ble_eq_true rfl) (fun z_333 w_333 hw_333 => ?_)
                                  obtain ⟨hr_333, rfl⟩ := hw_333
                                  subst hr_333
                                  refine GG.wss (ws' := [(y, .inr (4, [.int (iI ca), .ref mb, .ref ms, .ref mm, .ref mf, .ref mz, .int (iI my), .ref mt, .int (iI me), .int (iI mn), .ref mp, .int (iI mi), .ref mq, .int (iI a3), .int (iI u2), .ref mo, .int (iI mi)])), (mq, aE cA 600 IN), (mo, aE cA 256 G2)]) [2, 0, 1] (by decide) rfl ?_
                                  refine g_ireturn E dX4_readAll_336 ?_
                                  have hmm : mtk IN mi (IN a % 16) (a1 + x0) a (u + x0) = (1, mi, 0, 0, 0) := by rw [← e_a2, ← e_u2]; exact mtk_n (by omega) (by omega) (hs2.elim (fun g => g.2) (fun g => absurd g.1 (by omega)))
                                  have hres := rdf_merr (O := G) (f := f1) hlt hlk (by omega) hmm (by decide)
                                  rw [← hF] at hres
                                  exact ⟨mi, _, _, _, Or.inr ⟨by rw [hres]; first | exact (by decide : (1 : Int) ≠ 0) | exact (by decide : (2 : Int) ≠ 0) | exact (by decide : (3 : Int) ≠ 0), by rw [hres], by rw [hres]⟩, by omega, rfl⟩
                              refine g_iload_n E dX4_readAll_306 rfl 4 rfl ?_
                              refine g_bipush E dX4_readAll_307 (by decide) ?_
                              refine g_icmp_ne (tgt := 319) E dX4_readAll_309 (by decide) ⟨(by omega), (by omega)⟩ ⟨(by omega), (by omega)⟩ (fun c_309 => ?_) (fun c_309 => ?_)
                              · skip
                                refine g_iconst E dX4_readAll_319 ?_
                                refine GG.lvs (lv' := [(0, .ref y), (1, .int (iI a)), (3, .int (iI (IN a % 16))), (5, .int (iI o1))]) [1, 2, 4, 0] rfl ?_
                                exact L320 0 (a2 + 2) (by omega) (by first | exact hA_313.elim (fun g => Or.inl ⟨g.2, by rw [numb, if_pos c_309, g.1]; rfl⟩) (fun g => Or.inr ⟨g.2, by rw [numb, if_pos c_309, g.1, c_309]; rfl⟩) | exact Or.inr ⟨by omega, by rw [numb, if_neg c_309, Int.add_zero]⟩)
                              · skip
                                refine g_aload_n E dX4_readAll_312 rfl 1 rfl ?_
                                refine g_callV (n := 0) (As := []) (rest := []) (wr := [(mo, aE cA 256 G2)]) E dX4_readAll_313 (c_X4_added l D cA y mb ms mm mf mz mt mp mq mo ca my me mn mi (a2 + 2) u2 mw IN (by omega) (by omega) (by omega)) wd_code_X4_added wd_112 wd_113 wd_114 wd_115 (by decide +kernel) ⟨⟨rfl, rfl⟩, ⟨(Nat.le_of_ble_eq_true rfl), (Nat.le_of_ble_eq_true rfl)⟩, ⟨(Nat.le_of_ble_eq_true rfl), (Nat.le_of_ble_eq_true rfl)⟩⟩ [0, 1] [2] rfl rfl (by decide) 0 rfl rfl rfl rfl (Nat.le_of_ble_eq_true rfl) (fun z_313 w_313 hw_313 => ?_)
                                obtain ⟨aa_313, hA_313, hb_313, rfl⟩ := hw_313
                                refine GG.wss (ws' := [(y, .inr (4, [.int (iI ca), .ref mb, .ref ms, .ref mm, .ref mf, .ref mz, .int (iI my), .ref mt, .int (iI me), .int (iI mn), .ref mp, .int (iI mi), .ref mq, .int (iI aa_313), .int (iI u2), .ref mo, .int (iI mw)])), (mq, aE cA 600 IN), (mo, aE cA 256 G2)]) [1, 2, 0] (by decide) rfl ?_
                                refine g_goto (tgt := 320) E dX4_readAll_316 (by decide) ?_
                                refine GG.lvs (lv' := [(0, .ref y), (1, .int (iI a)), (3, .int (iI (IN a % 16))), (5, .int (iI o1))]) [1, 2, 4, 0] rfl ?_
                                exact L320 z_313 aa_313 (by omega) (by first | exact hA_313.elim (fun g => Or.inl ⟨g.2, by rw [numb, if_pos c_309, g.1]; rfl⟩) (fun g => Or.inr ⟨g.2, by rw [numb, if_pos c_309, g.1, c_309]; rfl⟩) | exact Or.inr ⟨by omega, by rw [numb, if_neg c_309, Int.add_zero]⟩)
                            · skip
                              refine g_aload_n E dX4_readAll_286 rfl 1 rfl ?_
                              refine g_iconst E dX4_readAll_287 ?_
                              refine g_aload_n E dX4_readAll_288 rfl 1 rfl ?_
                              refine g_getfield E dX4_readAll_289 0 13 rfl rfl (by decide) iX4 wd_103 rfl rfl ?_
                              refine g_callV (n := 2) (As := [.int (iI 2), .int (iI a2)]) (rest := []) (wr := [(mq, aE cA 600 IN), (mo, aE cA 256 G2)]) E dX4_readAll_292 (c_X4_fails l D cA y mb ms mm mf mz mt mp mq mo ca my me mn mi a2 u2 mw 2 a2 ) wd_code_X4_fails wd_107 wd_108 wd_109 wd_110 (by decide +kernel) ⟨⟨rfl, rfl⟩, ⟨(Nat.le_of_ble_eq_true rfl), (Nat.le_of_ble_eq_true rfl)⟩, ⟨(Nat.le_of_ble_eq_true rfl), (Nat.le_of_ble_eq_true rfl)⟩⟩ [0] [1, 2] rfl rfl (by decide) 0 rfl rfl rfl rfl (Nat.le_of_ble_eq_true rfl) (fun z_292 w_292 hw_292 => ?_)
                              obtain ⟨hr_292, rfl⟩ := hw_292
                              subst hr_292
                              refine GG.wss (ws' := [(y, .inr (4, [.int (iI ca), .ref mb, .ref ms, .ref mm, .ref mf, .ref mz, .int (iI my), .ref mt, .int (iI me), .int (iI mn), .ref mp, .int (iI mi), .ref mq, .int (iI a2), .int (iI u2), .ref mo, .int (iI a2)])), (mq, aE cA 600 IN), (mo, aE cA 256 G2)]) [2, 0, 1] (by decide) rfl ?_
                              refine g_ireturn E dX4_readAll_295 ?_
                              have hmm : mtk IN mi (IN a % 16) (a1 + x0) a (u + x0) = (2, a2, 0, 0, 0) := by rw [← e_a2, ← e_u2]; exact mtk_2 (by omega) (by omega)
                              have hres := rdf_merr (O := G) (f := f1) hlt hlk (by omega) hmm (by decide)
                              rw [← hF] at hres
                              exact ⟨a2, _, _, _, Or.inr ⟨by rw [hres]; first | exact (by decide : (1 : Int) ≠ 0) | exact (by decide : (2 : Int) ≠ 0) | exact (by decide : (3 : Int) ≠ 0), by rw [hres], by rw [hres]⟩, by omega, rfl⟩
                        · skip
                          refine g_aload_n E dX4_readAll_235 rfl 0 rfl ?_
                          refine g_iconst E dX4_readAll_236 ?_
                          refine g_aload_n E dX4_readAll_237 rfl 0 rfl ?_
                          refine g_getfield E dX4_readAll_238 0 11 rfl rfl (by decide) iX4 wd_104 rfl rfl ?_
                          refine g_callV (n := 2) (As := [.int (iI 1), .int (iI mi)]) (rest := []) (wr := [(mq, aE cA 600 IN), (mo, aE cA 256 G2)]) E dX4_readAll_241 (c_X4_fails l D cA y mb ms mm mf mz mt mp mq mo ca my me mn mi a2 u2 mw 1 mi ) wd_code_X4_fails wd_107 wd_108 wd_109 wd_110 (by decide +kernel) ⟨⟨rfl, rfl⟩, ⟨(Nat.le_of_ble_eq_true rfl), (Nat.le_of_ble_eq_true rfl)⟩, ⟨(Nat.le_of_ble_eq_true rfl), (Nat.le_of_ble_eq_true rfl)⟩⟩ [0] [1, 2] rfl rfl (by decide) 0 rfl rfl rfl rfl (Nat.le_of_ble_eq_true rfl) (fun z_241 w_241 hw_241 => ?_)
                          obtain ⟨hr_241, rfl⟩ := hw_241
                          subst hr_241
                          refine GG.wss (ws' := [(y, .inr (4, [.int (iI ca), .ref mb, .ref ms, .ref mm, .ref mf, .ref mz, .int (iI my), .ref mt, .int (iI me), .int (iI mn), .ref mp, .int (iI mi), .ref mq, .int (iI a2), .int (iI u2), .ref mo, .int (iI mi)])), (mq, aE cA 600 IN), (mo, aE cA 256 G2)]) [2, 0, 1] (by decide) rfl ?_
                          refine g_ireturn E dX4_readAll_244 ?_
                          have hmm : mtk IN mi (IN a % 16) (a1 + x0) a (u + x0) = (1, mi, 0, 0, 0) := by rw [← e_a2, ← e_u2]; exact mtk_1 (by omega)
                          have hres := rdf_merr (O := G) (f := f1) hlt hlk (by omega) hmm (by decide)
                          rw [← hF] at hres
                          exact ⟨mi, _, _, _, Or.inr ⟨by rw [hres]; first | exact (by decide : (1 : Int) ≠ 0) | exact (by decide : (2 : Int) ≠ 0) | exact (by decide : (3 : Int) ≠ 0), by rw [hres], by rw [hres]⟩, by omega, rfl⟩
                      · skip
                        refine g_iconst E dX4_readAll_220 ?_
                        refine g_ireturn E dX4_readAll_221 ?_
                        have hres := rdf_fin (O := G) (f := f1) hlt hlk (by omega)
                        rw [← hF, ← hG2, ← e_u2] at hres
                        exact ⟨mw, _, _, _, Or.inl ⟨by rw [hres], rfl, by rw [hres], by rw [hres]⟩, by omega, rfl⟩
                    · skip
                      refine g_aload_n E dX4_readAll_159 rfl 0 rfl ?_
                      refine g_getfield E dX4_readAll_160 0 15 rfl rfl (by decide) iX4 wd_111 rfl rfl ?_
                      refine g_aload_n E dX4_readAll_163 rfl 0 rfl ?_
                      refine g_getfield E dX4_readAll_164 0 14 rfl rfl (by decide) iX4 wd_106 rfl rfl ?_
                      refine g_iload E dX4_readAll_167 4 rfl ?_
                      refine g_iadd E dX4_readAll_169 ?_
                      refine g_aload_n E dX4_readAll_170 rfl 0 rfl ?_
                      refine g_getfield E dX4_readAll_171 0 12 rfl rfl (by decide) iX4 wd_105 rfl rfl ?_
                      refine g_aload_n E dX4_readAll_174 rfl 0 rfl ?_
                      refine g_getfield E dX4_readAll_175 0 13 rfl rfl (by decide) iX4 wd_103 rfl rfl ?_
                      refine g_iload E dX4_readAll_178 4 rfl ?_
                      refine g_iadd E dX4_readAll_180 ?_
                      refine g_iaload E dX4_readAll_181 1 rfl (by omega) (by omega) (by omega) ?_
                      refine g_iastore (ws' := [(y, .inr (4, [.int (iI ca), .ref mb, .ref ms, .ref mm, .ref mf, .ref mz, .int (iI my), .ref mt, .int (iI me), .int (iI mn), .ref mp, .int (iI mi), .ref mq, .int (iI a1), .int (iI u), .ref mo, .int (iI mw)])), (mq, aE cA 600 IN), (mo, aE cA 256 (up G2 (u + k) (IN (a1 + k))))]) E dX4_readAll_182 2 rfl (by omega) (by omega) (by omega) rfl ?_
                      refine g_iinc (lv' := [(5, .int (iI (k + 1))), (0, .ref y), (1, .int (iI a)), (2, .int (iI x0)), (3, .int (iI (IN a % 16)))]) E dX4_readAll_183 4 rfl (by decide) rfl ?_
                      refine g_goto (tgt := 153) E dX4_readAll_186 (by decide) ?_
                      refine GG.lvs (lv' := [(0, .ref y), (1, .int (iI a)), (2, .int (iI x0)), (3, .int (iI (IN a % 16))), (5, .int (iI (k + 1)))]) [1, 2, 3, 4, 0] rfl ?_
                      exact ih153 (k + 1) (up G2 (u + k) (IN (a1 + k))) (by omega) (by exact cp_s hk.1 hG2 rfl) (by omega)
                refine GG.lvs (lv' := [(0, .ref y), (1, .int (iI a)), (2, .int (iI x0)), (3, .int (iI (IN a % 16))), (5, .int (iI 0))]) [3, 4, 1, 5, 0] rfl ?_
                exact L153 ((x0 - 0 : Int).toNat + 1) 0 G (by omega) (by exact (cp_0 ..).symm) (by omega)
              · skip
                refine g_aload_n E dX4_readAll_140 rfl 2 rfl ?_
                refine g_iconst E dX4_readAll_141 ?_
                refine g_aload_n E dX4_readAll_142 rfl 2 rfl ?_
                refine g_getfield E dX4_readAll_143 0 11 rfl rfl (by decide) iX4 wd_104 rfl rfl ?_
                refine g_callV (n := 2) (As := [.int (iI 1), .int (iI mi)]) (rest := []) (wr := [(mq, aE cA 600 IN), (mo, aE cA 256 G)]) E dX4_readAll_146 (c_X4_fails l D cA y mb ms mm mf mz mt mp mq mo ca my me mn mi a1 u mw 1 mi ) wd_code_X4_fails wd_107 wd_108 wd_109 wd_110 (by decide +kernel) ⟨⟨rfl, rfl⟩, ⟨(Nat.le_of_ble_eq_true rfl), (Nat.le_of_ble_eq_true rfl)⟩, ⟨(Nat.le_of_ble_eq_true rfl), (Nat.le_of_ble_eq_true rfl)⟩⟩ [0] [1, 2] rfl rfl (by decide) 0 rfl rfl rfl rfl (Nat.le_of_ble_eq_true rfl) (fun z_146 w_146 hw_146 => ?_)
                obtain ⟨hr_146, rfl⟩ := hw_146
                subst hr_146
                refine GG.wss (ws' := [(y, .inr (4, [.int (iI ca), .ref mb, .ref ms, .ref mm, .ref mf, .ref mz, .int (iI my), .ref mt, .int (iI me), .int (iI mn), .ref mp, .int (iI mi), .ref mq, .int (iI a1), .int (iI u), .ref mo, .int (iI mi)])), (mq, aE cA 600 IN), (mo, aE cA 256 G)]) [2, 0, 1] (by decide) rfl ?_
                refine g_ireturn E dX4_readAll_149 ?_
                have hres := rdf_lerr (O := G) (f := f1) hlt (ltk_1 (tok := a) (c := u) hnum (by omega) (by omega)) (by decide)
                rw [← hF] at hres
                exact ⟨mi, _, _, _, Or.inr ⟨by rw [hres]; first | exact (by decide : (1 : Int) ≠ 0) | exact (by decide : (2 : Int) ≠ 0) | exact (by decide : (3 : Int) ≠ 0), by rw [hres], by rw [hres]⟩, by omega, rfl⟩
            · skip
              refine g_aload_n E dX4_readAll_120 rfl 2 rfl ?_
              refine g_iconst E dX4_readAll_121 ?_
              refine g_iload_n E dX4_readAll_122 rfl 3 rfl ?_
              refine g_callV (n := 2) (As := [.int (iI 3), .int (iI a)]) (rest := []) (wr := [(mq, aE cA 600 IN), (mo, aE cA 256 G)]) E dX4_readAll_123 (c_X4_fails l D cA y mb ms mm mf mz mt mp mq mo ca my me mn mi a1 u mw 3 a ) wd_code_X4_fails wd_107 wd_108 wd_109 wd_110 (by decide +kernel) ⟨⟨rfl, rfl⟩, ⟨(Nat.le_of_ble_eq_true rfl), (Nat.le_of_ble_eq_true rfl)⟩, ⟨(Nat.le_of_ble_eq_true rfl), (Nat.le_of_ble_eq_true rfl)⟩⟩ [0] [1, 2] rfl rfl (by decide) 0 rfl rfl rfl rfl (Nat.le_of_ble_eq_true rfl) (fun z_123 w_123 hw_123 => ?_)
              obtain ⟨hr_123, rfl⟩ := hw_123
              subst hr_123
              refine GG.wss (ws' := [(y, .inr (4, [.int (iI ca), .ref mb, .ref ms, .ref mm, .ref mf, .ref mz, .int (iI my), .ref mt, .int (iI me), .int (iI mn), .ref mp, .int (iI mi), .ref mq, .int (iI a1), .int (iI u), .ref mo, .int (iI a)])), (mq, aE cA 600 IN), (mo, aE cA 256 G)]) [2, 0, 1] (by decide) rfl ?_
              refine g_ireturn E dX4_readAll_126 ?_
              have hres := rdf_lerr (O := G) (f := f1) hlt (ltk_3 (tok := a) (c := u) hnum (by omega)) (by decide)
              rw [← hF] at hres
              exact ⟨a, _, _, _, Or.inr ⟨by rw [hres]; first | exact (by decide : (1 : Int) ≠ 0) | exact (by decide : (2 : Int) ≠ 0) | exact (by decide : (3 : Int) ≠ 0), by rw [hres], by rw [hres]⟩, by omega, rfl⟩
          · skip
            refine g_aload_n E dX4_readAll_93 rfl 1 rfl ?_
            refine g_iconst E dX4_readAll_94 ?_
            refine g_aload_n E dX4_readAll_95 rfl 1 rfl ?_
            refine g_getfield E dX4_readAll_96 0 11 rfl rfl (by decide) iX4 wd_104 rfl rfl ?_
            refine g_callV (n := 2) (As := [.int (iI 1), .int (iI mi)]) (rest := []) (wr := [(mq, aE cA 600 IN), (mo, aE cA 256 G)]) E dX4_readAll_99 (c_X4_fails l D cA y mb ms mm mf mz mt mp mq mo ca my me mn mi a1 u mw 1 mi ) wd_code_X4_fails wd_107 wd_108 wd_109 wd_110 (by decide +kernel) ⟨⟨rfl, rfl⟩, ⟨(Nat.le_of_ble_eq_true rfl), (Nat.le_of_ble_eq_true rfl)⟩, ⟨(Nat.le_of_ble_eq_true rfl), (Nat.le_of_ble_eq_true rfl)⟩⟩ [0] [1, 2] rfl rfl (by decide) 0 rfl rfl rfl rfl (Nat.le_of_ble_eq_true rfl) (fun z_99 w_99 hw_99 => ?_)
            obtain ⟨hr_99, rfl⟩ := hw_99
            subst hr_99
            refine GG.wss (ws' := [(y, .inr (4, [.int (iI ca), .ref mb, .ref ms, .ref mm, .ref mf, .ref mz, .int (iI my), .ref mt, .int (iI me), .int (iI mn), .ref mp, .int (iI mi), .ref mq, .int (iI a1), .int (iI u), .ref mo, .int (iI mi)])), (mq, aE cA 600 IN), (mo, aE cA 256 G)]) [2, 0, 1] (by decide) rfl ?_
            refine g_ireturn E dX4_readAll_102 ?_
            have hres := rdf_lerr (O := G) (f := f1) hlt (ltk_n (tok := a) (c := u) (hsm.elim (fun g => g.2) (fun g => absurd g.1 (by omega)))) (by decide)
            rw [← hF] at hres
            exact ⟨mi, _, _, _, Or.inr ⟨by rw [hres]; first | exact (by decide : (1 : Int) ≠ 0) | exact (by decide : (2 : Int) ≠ 0) | exact (by decide : (3 : Int) ≠ 0), by rw [hres], by rw [hres]⟩, by omega, rfl⟩
        refine g_iload_n E dX4_readAll_72 rfl 1 rfl ?_
        refine g_bipush E dX4_readAll_73 (by decide) ?_
        refine g_icmp_ne (tgt := 85) E dX4_readAll_75 (by decide) ⟨(by omega), (by omega)⟩ ⟨(by omega), (by omega)⟩ (fun c_75 => ?_) (fun c_75 => ?_)
        · skip
          refine g_iconst E dX4_readAll_85 ?_
          refine GG.lvs (lv' := [(0, .ref y), (1, .int (iI a)), (2, .int (iI ((IN a) / 16))), (3, .int (iI ((IN a) % 16)))]) [3, 2, 1, 0] rfl ?_
          exact L86 0 (a + 1) (by omega) (by first | exact hA_79.elim (fun g => Or.inl ⟨g.2, by rw [numb, if_pos c_75, g.1]; rfl⟩) (fun g => Or.inr ⟨g.2, by rw [numb, if_pos c_75, g.1, c_75]; rfl⟩) | exact Or.inr ⟨by omega, by rw [numb, if_neg c_75, Int.add_zero]⟩)
        · skip
          refine g_aload_n E dX4_readAll_78 rfl 3 rfl ?_
          refine g_callV (n := 0) (As := []) (rest := []) (wr := [(mo, aE cA 256 G)]) E dX4_readAll_79 (c_X4_added l D cA y mb ms mm mf mz mt mp mq mo ca my me mn mi (a + 1) u mw IN (by omega) (by omega) (by omega)) wd_code_X4_added wd_112 wd_113 wd_114 wd_115 (by decide +kernel) ⟨⟨rfl, rfl⟩, ⟨(Nat.le_of_ble_eq_true rfl), (Nat.le_of_ble_eq_true rfl)⟩, ⟨(Nat.le_of_ble_eq_true rfl), (Nat.le_of_ble_eq_true rfl)⟩⟩ [0, 1] [2] rfl rfl (by decide) 0 rfl rfl rfl rfl (Nat.le_of_ble_eq_true rfl) (fun z_79 w_79 hw_79 => ?_)
          obtain ⟨aa_79, hA_79, hb_79, rfl⟩ := hw_79
          refine GG.wss (ws' := [(y, .inr (4, [.int (iI ca), .ref mb, .ref ms, .ref mm, .ref mf, .ref mz, .int (iI my), .ref mt, .int (iI me), .int (iI mn), .ref mp, .int (iI mi), .ref mq, .int (iI aa_79), .int (iI u), .ref mo, .int (iI mw)])), (mq, aE cA 600 IN), (mo, aE cA 256 G)]) [1, 2, 0] (by decide) rfl ?_
          refine g_goto (tgt := 86) E dX4_readAll_82 (by decide) ?_
          refine GG.lvs (lv' := [(0, .ref y), (1, .int (iI a)), (2, .int (iI ((IN a) / 16))), (3, .int (iI ((IN a) % 16)))]) [3, 2, 1, 0] rfl ?_
          exact L86 z_79 aa_79 (by omega) (by first | exact hA_79.elim (fun g => Or.inl ⟨g.2, by rw [numb, if_pos c_75, g.1]; rfl⟩) (fun g => Or.inr ⟨g.2, by rw [numb, if_pos c_75, g.1, c_75]; rfl⟩) | exact Or.inr ⟨by omega, by rw [numb, if_neg c_75, Int.add_zero]⟩)
      · skip
        refine g_aload_n E dX4_readAll_21 rfl 0 rfl ?_
        refine g_iconst E dX4_readAll_22 ?_
        refine g_aload_n E dX4_readAll_23 rfl 0 rfl ?_
        refine g_getfield E dX4_readAll_24 0 11 rfl rfl (by decide) iX4 wd_104 rfl rfl ?_
        refine g_callV (n := 2) (As := [.int (iI 1), .int (iI mi)]) (rest := []) (wr := [(mq, aE cA 600 IN), (mo, aE cA 256 G)]) E dX4_readAll_27 (c_X4_fails l D cA y mb ms mm mf mz mt mp mq mo ca my me mn mi a u mw 1 mi ) wd_code_X4_fails wd_107 wd_108 wd_109 wd_110 (by decide +kernel) ⟨⟨rfl, rfl⟩, ⟨(Nat.le_of_ble_eq_true rfl), (Nat.le_of_ble_eq_true rfl)⟩, ⟨(Nat.le_of_ble_eq_true rfl), (Nat.le_of_ble_eq_true rfl)⟩⟩ [0] [1, 2] rfl rfl (by decide) 0 rfl rfl rfl rfl (Nat.le_of_ble_eq_true rfl) (fun z_27 w_27 hw_27 => ?_)
        obtain ⟨hr_27, rfl⟩ := hw_27
        subst hr_27
        refine GG.wss (ws' := [(y, .inr (4, [.int (iI ca), .ref mb, .ref ms, .ref mm, .ref mf, .ref mz, .int (iI my), .ref mt, .int (iI me), .int (iI mn), .ref mp, .int (iI mi), .ref mq, .int (iI a), .int (iI u), .ref mo, .int (iI mi)])), (mq, aE cA 600 IN), (mo, aE cA 256 G)]) [2, 0, 1] (by decide) rfl ?_
        refine g_ireturn E dX4_readAll_30 ?_
        have hres := rdf_lack (S := IN) (c := u) (O := G) (f := f1) (show mi ≤ a by omega)
        rw [← hF] at hres
        exact ⟨mi, _, _, _, Or.inr ⟨by rw [hres]; first | exact (by decide : (1 : Int) ≠ 0) | exact (by decide : (2 : Int) ≠ 0) | exact (by decide : (3 : Int) ≠ 0), by rw [hres], by rw [hres]⟩, by omega, rfl⟩
  refine GG.lvs (lv' := [(0, .ref y)]) [0] rfl ?_
  exact L10 ((mi - 0 + 1 : Int).toNat + 1) 0 0 RO (by omega) (by exact ⟨5000, by omega, rfl⟩) (by omega)
