theorem wd_90 : Cond.methodLink RX1 45 yX1_readLiterals ∈ UW := uw (by decide +kernel) rfl
theorem wd_91 : Cond.instanceMethod yX1_readLiterals ∈ UW := uw (by decide +kernel) rfl
theorem wd_92 : Cond.selects RX1 yX1_readLiterals yX1_readLiterals ∈ UW := uw (by decide +kernel) rfl
theorem wd_93 : Cond.initialized yX1_readLiterals.cls ∈ UW := uw (by decide +kernel) rfl
theorem wd_94 : Cond.methodLink RX1 49 yX1_readMatch ∈ UW := uw (by decide +kernel) rfl
theorem wd_95 : Cond.instanceMethod yX1_readMatch ∈ UW := uw (by decide +kernel) rfl
theorem wd_96 : Cond.selects RX1 yX1_readMatch yX1_readMatch ∈ UW := uw (by decide +kernel) rfl
theorem wd_97 : Cond.initialized yX1_readMatch.cls ∈ UW := uw (by decide +kernel) rfl
theorem wd_98 : Cond.methodLink RX1 37 yX1_readSequence ∈ UW := uw (by decide +kernel) rfl
theorem wd_99 : Cond.instanceMethod yX1_readSequence ∈ UW := uw (by decide +kernel) rfl
theorem wd_100 : Cond.selects RX1 yX1_readSequence yX1_readSequence ∈ UW := uw (by decide +kernel) rfl
theorem wd_101 : Cond.initialized yX1_readSequence.cls ∈ UW := uw (by decide +kernel) rfl
theorem r03 (x : Int) (h : x = 0 ∨ x = 1 ∨ x = 2 ∨ x = 3) : 0 ≤ x ∧ x ≤ 3 := by omega
theorem ltk_rng (S : Int → Int) (n h a tok c : Int) : 0 ≤ (ltk S n h a tok c).1 ∧ (ltk S n h a tok c).1 ≤ 3 := by
  unfold ltk
  cases numb S n h a with
  | none => exact r03 _ (by first | exact Or.inl rfl | exact Or.inr (Or.inl rfl) | exact Or.inr (Or.inr (Or.inl rfl)) | exact Or.inr (Or.inr (Or.inr rfl)))
  | some q =>
    show 0 ≤ (if _ then _ else _ : Int × Int × Int × Int).1 ∧ (if _ then _ else _ : Int × Int × Int × Int).1 ≤ 3
    split
    · exact r03 _ (by first | exact Or.inl rfl | exact Or.inr (Or.inl rfl) | exact Or.inr (Or.inr (Or.inl rfl)) | exact Or.inr (Or.inr (Or.inr rfl)))
    · split
      · exact r03 _ (by first | exact Or.inl rfl | exact Or.inr (Or.inl rfl) | exact Or.inr (Or.inr (Or.inl rfl)) | exact Or.inr (Or.inr (Or.inr rfl)))
      · exact r03 _ (by first | exact Or.inl rfl | exact Or.inr (Or.inl rfl) | exact Or.inr (Or.inr (Or.inl rfl)) | exact Or.inr (Or.inr (Or.inr rfl)))
theorem mtk_rng (S : Int → Int) (n h a tok c : Int) : 0 ≤ (mtk S n h a tok c).1 ∧ (mtk S n h a tok c).1 ≤ 3 := by
  unfold mtk
  split
  · exact r03 _ (by first | exact Or.inl rfl | exact Or.inr (Or.inl rfl) | exact Or.inr (Or.inr (Or.inl rfl)) | exact Or.inr (Or.inr (Or.inr rfl)))
  · split
    · exact r03 _ (by first | exact Or.inl rfl | exact Or.inr (Or.inl rfl) | exact Or.inr (Or.inr (Or.inl rfl)) | exact Or.inr (Or.inr (Or.inr rfl)))
    · cases numb S n h (a + 2) with
      | none => exact r03 _ (by first | exact Or.inl rfl | exact Or.inr (Or.inl rfl) | exact Or.inr (Or.inr (Or.inl rfl)) | exact Or.inr (Or.inr (Or.inr rfl)))
      | some q =>
        show 0 ≤ (if _ then _ else _ : Int × Int × Int × Int × Int).1 ∧ (if _ then _ else _ : Int × Int × Int × Int × Int).1 ≤ 3
        split
        · exact r03 _ (by first | exact Or.inl rfl | exact Or.inr (Or.inl rfl) | exact Or.inr (Or.inr (Or.inl rfl)) | exact Or.inr (Or.inr (Or.inr rfl)))
        · exact r03 _ (by first | exact Or.inl rfl | exact Or.inr (Or.inl rfl) | exact Or.inr (Or.inr (Or.inl rfl)) | exact Or.inr (Or.inr (Or.inr rfl)))
theorem rdf_rng (S : Int → Int) (n : Int) : ∀ (f : Nat) (a c : Int) (O : Int → Int), 0 ≤ (rdf S n f a c O).1 ∧ (rdf S n f a c O).1 ≤ 3 := by
  intro f
  induction f with
  | zero => intro a c O; exact ⟨by show (0 : Int) ≤ 0; omega, by show (0 : Int) ≤ 3; omega⟩
  | succ f ih =>
    intro a c O
    rw [rdf]
    split
    · exact r03 _ (by first | exact Or.inl rfl | exact Or.inr (Or.inl rfl) | exact Or.inr (Or.inr (Or.inl rfl)) | exact Or.inr (Or.inr (Or.inr rfl)))
    · split
      · exact ltk_rng ..
      · split
        · exact r03 _ (by first | exact Or.inl rfl | exact Or.inr (Or.inl rfl) | exact Or.inr (Or.inr (Or.inl rfl)) | exact Or.inr (Or.inr (Or.inr rfl)))
        · split
          · exact mtk_rng ..
          · exact ih _ _ _
set_option maxHeartbeats 4000000 in
set_option maxRecDepth 100000 in
theorem c_X1_readSequence (l : Launch) (D : va_G) (cA : ClassId) (rd : Nat) (ro : Nat) (src : Nat) (re : Int) (rx : Int) (rs : Int) (rl : Int) (ra : Int) (rc : Int) (N : Nat) (F : Int → Int) (RO : Int → Int) (hR : 0 ≤ rs ∧ rs + rl ≤ N ∧ 0 ≤ rl) (hN : N ≤ 4096) (ha : 0 ≤ ra ∧ ra ≤ rl) (hS : byR rl (sh F rs)) (hrx : rx = 0) (hrc : 0 ≤ rc ∧ rc ≤ 256) : Ci l D vwCl cA yX1_readSequence (.code yX1_readSequence cX1_readSequence 3 (some .boolean) :: UW) ({ frames := 4, cells := 0, slots := 0, locals := 93 }) 0 0 [.ref rd] [(rd, .inr (1, [.ref ro, .int (iI re), .int (iI rx), .ref src, .int (iI rs), .int (iI rl), .int (iI ra), .int (iI rc)])), (src, aE cA N F), (ro, aE cA 256 RO)] (fun (r : Int) (w : va_W) => ∃ (se : Int) (sx : Int) (sa : Int) (sc : Int) (SO : Int → Int), ((r = 1 ∧ sx = 0 ∧ se = re ∧ ra < sa ∧ (∀ f : Nat, rdf (sh F rs) rl (f + 1) ra rc RO = rdf (sh F rs) rl f sa sc SO)) ∨ (r = 0 ∧ sx ≠ 0 ∧ (∀ f : Nat, (rdf (sh F rs) rl (f + 1) ra rc RO).1 = sx ∧ (rdf (sh F rs) rl (f + 1) ra rc RO).2.1 = se)) ∨ (r = 0 ∧ sx = 0 ∧ se = re ∧ (∀ f : Nat, rdf (sh F rs) rl (f + 1) ra rc RO = (0, -1, sc, SO)))) ∧ (ra ≤ sa ∧ sa ≤ rl ∧ 0 ≤ sc ∧ sc ≤ 256) ∧ iB sx ∧ w = [(rd, .inr (1, [.ref ro, .int (iI se), .int (iI sx), .ref src, .int (iI rs), .int (iI rl), .int (iI sa), .int (iI sc)])), (src, aE cA N F), (ro, aE cA 256 SO)]) := by
  refine Ci.mk (by decide) (Nat.le_of_ble_eq_true rfl) ?_
  intro p e s m args below meth c A E
  refine GG.lvs (lv' := [(0, .ref rd)]) [0] rfl ?_
  refine g_aload_n E dX1_readSequence_0 rfl 0 rfl ?_
  refine g_getfield E dX1_readSequence_1 0 6 rfl rfl (by decide) iX1 wd_68 rfl rfl ?_
  refine g_istore_n (lv' := [(1, .int (iI ra)), (0, .ref rd)]) E dX1_readSequence_4 rfl (by decide) rfl ?_
  refine g_aload_n E dX1_readSequence_5 rfl 1 rfl ?_
  refine g_callV (n := 0) (As := []) (rest := []) (wr := [(ro, aE cA 256 RO)]) E dX1_readSequence_6 (c_X1_next l D cA rd ro src re rx rs rl ra rc N F (by omega) (by omega) (by omega) (by omega)) wd_code_X1_next wd_78 wd_79 wd_80 wd_81 (by decide +kernel) ⟨⟨rfl, rfl⟩, ⟨(Nat.le_of_ble_eq_true rfl), (Nat.le_of_ble_eq_true rfl)⟩, ⟨(Nat.le_of_ble_eq_true rfl), (Nat.le_of_ble_eq_true rfl)⟩⟩ [0, 1] [2] rfl rfl (by decide) 0 rfl rfl rfl rfl (Nat.le_of_ble_eq_true rfl) (fun z_6 w_6 hw_6 => ?_)
  obtain ⟨fe_6, fx_6, fa_6, hf_6, rfl⟩ := hw_6
  refine GG.wss (ws' := [(rd, .inr (1, [.ref ro, .int (iI fe_6), .int (iI fx_6), .ref src, .int (iI rs), .int (iI rl), .int (iI fa_6), .int (iI rc)])), (src, aE cA N F), (ro, aE cA 256 RO)]) [1, 2, 0] (by decide) rfl ?_
  have hz : 0 ≤ z_6 ∧ z_6 < 256 := hf_6.elim (fun q => by have h1 : 0 ≤ F (rs + ra) ∧ F (rs + ra) < 256 := hS ra (by omega) (by omega); omega) (fun q => by omega)
  have hlt : ra < rl → z_6 = sh F rs ra ∧ fa_6 = ra + 1 ∧ fx_6 = 0 ∧ fe_6 = re := fun q => by show z_6 = F (rs + ra) ∧ _; omega
  have hge : rl ≤ ra → fx_6 = 1 ∧ fe_6 = rl := fun q => by omega
  have hfx : iB fx_6 := ⟨by omega, by omega⟩
  have hfa : 0 ≤ fa_6 ∧ fa_6 ≤ rl := by omega
  refine g_istore_n (lv' := [(2, .int (iI z_6)), (1, .int (iI ra)), (0, .ref rd)]) E dX1_readSequence_9 rfl (by decide) rfl ?_
  refine g_aload_n E dX1_readSequence_10 rfl 2 rfl ?_
  refine g_iload_n E dX1_readSequence_11 rfl 0 rfl ?_
  refine g_bipush E dX1_readSequence_12 (by decide) ?_
  refine g_idiv E dX1_readSequence_14 (by omega) (by omega) (by omega) (by omega) ?_
  refine g_iload_n E dX1_readSequence_15 rfl 1 rfl ?_
  refine g_callVv (n := 2) (As := [.int (iI (z_6 / 16)), .int (iI ra)]) (rest := []) (wr := []) E dX1_readSequence_16 (c_X1_readLiterals l D cA rd ro src fe_6 fx_6 rs rl fa_6 rc N F RO (z_6 / 16) ra (by omega) (by omega) (by omega) (by omega) (by omega) (by omega) (by omega) (by omega)) wd_code_X1_readLiterals wd_90 wd_91 wd_92 wd_93 (by decide +kernel) ⟨⟨rfl, rfl⟩, ⟨(Nat.le_of_ble_eq_true rfl), (Nat.le_of_ble_eq_true rfl)⟩, ⟨(Nat.le_of_ble_eq_true rfl), (Nat.le_of_ble_eq_true rfl)⟩⟩ [0, 1, 2] [] rfl rfl (by decide) 0 rfl rfl rfl rfl (Nat.le_of_ble_eq_true rfl) (fun w_16 hw_16 => ?_)
  obtain ⟨le_16, lx_16, la_16, lc_16, LO_16, hL_16, hb_16, hx_16, rfl⟩ := hw_16
  refine GG.wss (ws' := [(rd, .inr (1, [.ref ro, .int (iI le_16), .int (iI lx_16), .ref src, .int (iI rs), .int (iI rl), .int (iI la_16), .int (iI lc_16)])), (src, aE cA N F), (ro, aE cA 256 LO_16)]) [0, 1, 2] (by decide) rfl ?_
  have hLt : ra < rl → ∃ e pl x b : Int, ltk (sh F rs) rl (sh F rs ra / 16) (ra + 1) ra rc = (e, pl, x, b) ∧ ((e ≠ 0 ∧ lx_16 = e ∧ le_16 = pl) ∨ (e = 0 ∧ lx_16 = 0 ∧ le_16 = re ∧ lc_16 = rc + x ∧ la_16 = b + x ∧ LO_16 = cp (sh F rs) RO b rc x)) := by
    intro q
    obtain ⟨q1, q2, q3, q4⟩ := hlt q
    rw [q1, q2, q3, q4] at hL_16
    exact (hL_16.resolve_left (fun g => g.1 rfl)).2
  have hLg : rl ≤ ra → lx_16 = 1 ∧ le_16 = rl := by
    intro q
    have q1 := hge q
    exact hL_16.elim (fun g => by omega) (fun g => absurd g.1 (by omega))
  clear hL_16
  refine g_aload_n E dX1_readSequence_19 rfl 2 rfl ?_
  refine g_getfield E dX1_readSequence_20 0 2 rfl rfl (by decide) iX1 wd_66 rfl rfl ?_
  refine g_if_ne (tgt := 37) E dX1_readSequence_23 (by decide) ⟨(by omega), (by omega)⟩ (fun c_23 => ?_) (fun c_23 => ?_)
  · skip
    refine g_iconst E dX1_readSequence_37 ?_
    refine g_zreturn E dX1_readSequence_38 (by omega) ?_
    by_cases q : ra < rl
    · obtain ⟨e0, pl, x0, b0, hlk, hcase⟩ := hLt q
      clear hLt hLg
      rcases hcase with ⟨g1, g2, g3⟩ | ⟨g1, g2, g3, g4, g5, g6⟩
      · exact ⟨le_16, lx_16, la_16, lc_16, LO_16, Or.inr (Or.inl ⟨rfl, by omega, fun f => by rw [rdf_lerr q hlk g1]; exact ⟨g2.symm, g3.symm⟩⟩), by omega, hx_16, rfl⟩
      · subst g1
        exact ⟨le_16, lx_16, la_16, lc_16, LO_16, Or.inr (Or.inr ⟨rfl, g2, g3, fun f => by rw [rdf_fin q hlk (by omega), g4, g6]⟩), by omega, hx_16, rfl⟩
    · clear hLt
      have g := hLg (by omega)
      exact ⟨le_16, lx_16, la_16, lc_16, LO_16, Or.inr (Or.inl ⟨rfl, by omega, fun f => by rw [rdf_lack (by omega)]; exact ⟨g.1.symm, g.2.symm⟩⟩), by omega, hx_16, rfl⟩
  · skip
    refine g_aload_n E dX1_readSequence_26 rfl 2 rfl ?_
    refine g_getfield E dX1_readSequence_27 0 6 rfl rfl (by decide) iX1 wd_68 rfl rfl ?_
    refine g_aload_n E dX1_readSequence_30 rfl 2 rfl ?_
    refine g_getfield E dX1_readSequence_31 0 5 rfl rfl (by decide) iX1 wd_69 rfl rfl ?_
    refine g_icmp_lt (tgt := 39) E dX1_readSequence_34 (by decide) ⟨(by omega), (by omega)⟩ ⟨(by omega), (by omega)⟩ (fun c_34 => ?_) (fun c_34 => ?_)
    · skip
      have hlt2 : ra < rl := (Int.lt_or_le ra rl).elim id (fun q => absurd (hLg q).1 (by omega))
      obtain ⟨e0, pl, x0, b0, hlk, hcase⟩ := hLt hlt2
      clear hLt hLg
      obtain ⟨y1, y2, y3, y4, y5, y6⟩ := hcase.resolve_left (fun g => g.1 (by omega))
      refine g_aload_n E dX1_readSequence_39 rfl 2 rfl ?_
      refine g_iload_n E dX1_readSequence_40 rfl 0 rfl ?_
      refine g_bipush E dX1_readSequence_41 (by decide) ?_
      refine g_irem E dX1_readSequence_43 (by omega) (by omega) (by omega) (by omega) ?_
      refine g_iload_n E dX1_readSequence_44 rfl 1 rfl ?_
      refine g_callVv (n := 2) (As := [.int (iI (z_6 % 16)), .int (iI ra)]) (rest := []) (wr := []) E dX1_readSequence_45 (c_X1_readMatch l D cA rd ro src le_16 lx_16 rs rl la_16 lc_16 N F LO_16 (z_6 % 16) ra (by omega) (by omega) (by omega) (by omega) (by omega) (by omega) (by omega) (by omega)) wd_code_X1_readMatch wd_94 wd_95 wd_96 wd_97 (by decide +kernel) ⟨⟨rfl, rfl⟩, ⟨(Nat.le_of_ble_eq_true rfl), (Nat.le_of_ble_eq_true rfl)⟩, ⟨(Nat.le_of_ble_eq_true rfl), (Nat.le_of_ble_eq_true rfl)⟩⟩ [0, 1, 2] [] rfl rfl (by decide) 0 rfl rfl rfl rfl (Nat.le_of_ble_eq_true rfl) (fun w_45 hw_45 => ?_)
      obtain ⟨de_45, dx_45, da_45, dc_45, DO_45, hM_45, hb_45, hx_45, rfl⟩ := hw_45
      refine GG.wss (ws' := [(rd, .inr (1, [.ref ro, .int (iI de_45), .int (iI dx_45), .ref src, .int (iI rs), .int (iI rl), .int (iI da_45), .int (iI dc_45)])), (src, aE cA N F), (ro, aE cA 256 DO_45)]) [0, 1, 2] (by decide) rfl ?_
      obtain ⟨e1, pm, o1, l1, d1, hmk, hm⟩ := hM_45
      refine g_aload_n E dX1_readSequence_48 rfl 2 rfl ?_
      refine g_getfield E dX1_readSequence_49 0 2 rfl rfl (by decide) iX1 wd_66 rfl rfl ?_
      refine g_if_ne (tgt := 59) E dX1_readSequence_52 (by decide) ⟨(by omega), (by omega)⟩ (fun c_52 => ?_) (fun c_52 => ?_)
      · skip
        refine g_iconst E dX1_readSequence_59 ?_
        refine g_zreturn E dX1_readSequence_60 (by omega) ?_
        subst y1
        rw [show z_6 = sh F rs ra from (hlt hlt2).1, y5, y4] at hmk
        rcases hm with ⟨g1, g2, g3⟩ | ⟨g1, g2, g3, g4, g5, g6⟩
        · first | (exfalso; omega) | exact ⟨de_45, dx_45, da_45, dc_45, DO_45, Or.inr (Or.inl ⟨rfl, by omega, fun f => by rw [rdf_merr hlt2 hlk (by omega) hmk g1]; exact ⟨g2.symm, g3.symm⟩⟩), by omega, hx_45, rfl⟩
        · first | (exfalso; omega) | (subst g1; exact ⟨de_45, dx_45, da_45, dc_45, DO_45, Or.inl ⟨rfl, g2, by omega, by omega, fun f => by rw [rdf_more hlt2 hlk (by omega) hmk, g4, g5, g6, y4, y6]⟩, by omega, hx_45, rfl⟩)
      · skip
        refine g_iconst E dX1_readSequence_55 ?_
        refine g_goto (tgt := 60) E dX1_readSequence_56 (by decide) ?_
        refine g_zreturn E dX1_readSequence_60 (by omega) ?_
        subst y1
        rw [show z_6 = sh F rs ra from (hlt hlt2).1, y5, y4] at hmk
        rcases hm with ⟨g1, g2, g3⟩ | ⟨g1, g2, g3, g4, g5, g6⟩
        · first | (exfalso; omega) | exact ⟨de_45, dx_45, da_45, dc_45, DO_45, Or.inr (Or.inl ⟨rfl, by omega, fun f => by rw [rdf_merr hlt2 hlk (by omega) hmk g1]; exact ⟨g2.symm, g3.symm⟩⟩), by omega, hx_45, rfl⟩
        · first | (exfalso; omega) | (subst g1; exact ⟨de_45, dx_45, da_45, dc_45, DO_45, Or.inl ⟨rfl, g2, by omega, by omega, fun f => by rw [rdf_more hlt2 hlk (by omega) hmk, g4, g5, g6, y4, y6]⟩, by omega, hx_45, rfl⟩)
    · skip
      refine g_iconst E dX1_readSequence_37 ?_
      refine g_zreturn E dX1_readSequence_38 (by omega) ?_
      by_cases q : ra < rl
      · obtain ⟨e0, pl, x0, b0, hlk, hcase⟩ := hLt q
        clear hLt hLg
        rcases hcase with ⟨g1, g2, g3⟩ | ⟨g1, g2, g3, g4, g5, g6⟩
        · exact ⟨le_16, lx_16, la_16, lc_16, LO_16, Or.inr (Or.inl ⟨rfl, by omega, fun f => by rw [rdf_lerr q hlk g1]; exact ⟨g2.symm, g3.symm⟩⟩), by omega, hx_16, rfl⟩
        · subst g1
          exact ⟨le_16, lx_16, la_16, lc_16, LO_16, Or.inr (Or.inr ⟨rfl, g2, g3, fun f => by rw [rdf_fin q hlk (by omega), g4, g6]⟩), by omega, hx_16, rfl⟩
      · clear hLt
        have g := hLg (by omega)
        exact ⟨le_16, lx_16, la_16, lc_16, LO_16, Or.inr (Or.inl ⟨rfl, by omega, fun f => by rw [rdf_lack (by omega)]; exact ⟨g.1.symm, g.2.symm⟩⟩), by omega, hx_16, rfl⟩
set_option maxHeartbeats 4000000 in
set_option maxRecDepth 100000 in
theorem c_X1_unpack (l : Launch) (D : va_G) (cA : ClassId) (rd : Nat) (ro : Nat) (src : Nat) (os : Nat) (re : Int) (rx : Int) (os0 : Int) (ol : Int) (ra : Int) (rc : Int) (N : Nat) (F : Int → Int) (RO : Int → Int) (rs : Int) (rl : Int) (hR : 0 ≤ rs ∧ rs + rl ≤ N ∧ 0 ≤ rl) (hN : N ≤ 4096) (hS : byR rl (sh F rs)) : Ci l D vwCl cA yX1_unpack (.code yX1_unpack cX1_unpack 6 (some .int) :: UW) ({ frames := 5, cells := 0, slots := 0, locals := 115 }) 0 0 [.ref rd, .ref src, .int (iI rs), .int (iI rl)] [(rd, .inr (1, [.ref ro, .int (iI re), .int (iI rx), .ref os, .int (iI os0), .int (iI ol), .int (iI ra), .int (iI rc)])), (src, aE cA N F), (ro, aE cA 256 RO)] (fun (r : Int) (w : va_W) => ∃ (ue : Int) (ux : Int) (ua : Int) (uc : Int) (UO : Int → Int), (((rdf (sh F rs) rl 5000 0 0 RO).1 = 0 ∧ r = (rdf (sh F rs) rl 5000 0 0 RO).2.2.1 ∧ ue = -1 ∧ UO = (rdf (sh F rs) rl 5000 0 0 RO).2.2.2 ∧ 0 ≤ r ∧ r ≤ 256) ∨ ((rdf (sh F rs) rl 5000 0 0 RO).1 ≠ 0 ∧ r = -(rdf (sh F rs) rl 5000 0 0 RO).1 ∧ ue = (rdf (sh F rs) rl 5000 0 0 RO).2.1 ∧ r < 0 ∧ -10 ≤ r)) ∧ w = [(rd, .inr (1, [.ref ro, .int (iI ue), .int (iI ux), .ref src, .int (iI rs), .int (iI rl), .int (iI ua), .int (iI uc)])), (src, aE cA N F), (ro, aE cA 256 UO)]) := by
  refine Ci.mk (by decide) (Nat.le_of_ble_eq_true rfl) ?_
  intro p e s m args below meth c A E
  refine GG.lvs (lv' := [(0, .ref rd), (1, .ref src), (2, .int (iI rs)), (3, .int (iI rl))]) [0, 1, 2, 3] rfl ?_
  refine g_aload_n E dX1_unpack_0 rfl 0 rfl ?_
  refine g_aload_n E dX1_unpack_1 rfl 1 rfl ?_
  refine g_putfield (ws' := [(rd, .inr (1, [.ref ro, .int (iI re), .int (iI rx), .ref src, .int (iI os0), .int (iI ol), .int (iI ra), .int (iI rc)])), (src, aE cA N F), (ro, aE cA 256 RO)]) E dX1_unpack_2 0 3 rfl rfl (by decide) iX1 tyX1 tyX1_ok nmX1 wd_70 rfl rfl rfl rfl rfl (Nat.le_of_ble_eq_true rfl) rfl ?_
  refine g_aload_n E dX1_unpack_5 rfl 0 rfl ?_
  refine g_iload_n E dX1_unpack_6 rfl 2 rfl ?_
  refine g_putfield (ws' := [(rd, .inr (1, [.ref ro, .int (iI re), .int (iI rx), .ref src, .int (iI rs), .int (iI ol), .int (iI ra), .int (iI rc)])), (src, aE cA N F), (ro, aE cA 256 RO)]) E dX1_unpack_7 0 4 rfl rfl (by decide) iX1 tyX1 tyX1_ok nmX1 wd_71 rfl rfl rfl rfl rfl (Nat.le_of_ble_eq_true rfl) rfl ?_
  refine g_aload_n E dX1_unpack_10 rfl 0 rfl ?_
  refine g_iload_n E dX1_unpack_11 rfl 3 rfl ?_
  refine g_putfield (ws' := [(rd, .inr (1, [.ref ro, .int (iI re), .int (iI rx), .ref src, .int (iI rs), .int (iI rl), .int (iI ra), .int (iI rc)])), (src, aE cA N F), (ro, aE cA 256 RO)]) E dX1_unpack_12 0 5 rfl rfl (by decide) iX1 tyX1 tyX1_ok nmX1 wd_69 rfl rfl rfl rfl rfl (Nat.le_of_ble_eq_true rfl) rfl ?_
  refine g_aload_n E dX1_unpack_15 rfl 0 rfl ?_
  refine g_iconst E dX1_unpack_16 ?_
  refine g_putfield (ws' := [(rd, .inr (1, [.ref ro, .int (iI re), .int (iI rx), .ref src, .int (iI rs), .int (iI rl), .int (iI 0), .int (iI rc)])), (src, aE cA N F), (ro, aE cA 256 RO)]) E dX1_unpack_17 0 6 rfl rfl (by decide) iX1 tyX1 tyX1_ok nmX1 wd_68 rfl rfl rfl rfl rfl (Nat.le_of_ble_eq_true rfl) rfl ?_
  refine g_aload_n E dX1_unpack_20 rfl 0 rfl ?_
  refine g_iconst E dX1_unpack_21 ?_
  refine g_putfield (ws' := [(rd, .inr (1, [.ref ro, .int (iI re), .int (iI rx), .ref src, .int (iI rs), .int (iI rl), .int (iI 0), .int (iI 0)])), (src, aE cA N F), (ro, aE cA 256 RO)]) E dX1_unpack_22 0 7 rfl rfl (by decide) iX1 tyX1 tyX1_ok nmX1 wd_77 rfl rfl rfl rfl rfl (Nat.le_of_ble_eq_true rfl) rfl ?_
  refine g_aload_n E dX1_unpack_25 rfl 0 rfl ?_
  refine g_iconst E dX1_unpack_26 ?_
  refine g_putfield (ws' := [(rd, .inr (1, [.ref ro, .int (iI re), .int (iI 0), .ref src, .int (iI rs), .int (iI rl), .int (iI 0), .int (iI 0)])), (src, aE cA N F), (ro, aE cA 256 RO)]) E dX1_unpack_27 0 2 rfl rfl (by decide) iX1 tyX1 tyX1_ok nmX1 wd_66 rfl rfl rfl rfl rfl (Nat.le_of_ble_eq_true rfl) rfl ?_
  refine g_aload_n E dX1_unpack_30 rfl 0 rfl ?_
  refine g_iconst E dX1_unpack_31 ?_
  refine g_putfield (ws' := [(rd, .inr (1, [.ref ro, .int (iI (-1)), .int (iI 0), .ref src, .int (iI rs), .int (iI rl), .int (iI 0), .int (iI 0)])), (src, aE cA N F), (ro, aE cA 256 RO)]) E dX1_unpack_32 0 1 rfl rfl (by decide) iX1 tyX1 tyX1_ok nmX1 wd_67 rfl rfl rfl rfl rfl (Nat.le_of_ble_eq_true rfl) rfl ?_
  refine g_iconst E dX1_unpack_35 ?_
  refine g_istore (lv' := [(4, .int (iI 1)), (0, .ref rd), (1, .ref src), (2, .int (iI rs)), (3, .int (iI rl))]) E dX1_unpack_36 (by decide) rfl ?_
  refine g_iconst E dX1_unpack_38 ?_
  refine g_istore (lv' := [(5, .int (iI 0)), (4, .int (iI 1)), (0, .ref rd), (1, .ref src), (2, .int (iI rs)), (3, .int (iI rl))]) E dX1_unpack_39 (by decide) rfl ?_
  have L41 : ∀ (fu41 : Nat) (mo : Int) (k : Int) (xe : Int) (xx : Int) (a : Int) (ct : Int) (G : Int → Int), 0 ≤ a ∧ a ≤ rl ∧ 0 ≤ ct ∧ ct ≤ 256 ∧ 0 ≤ k ∧ k ≤ 5000 → iB xx → ((mo = 1 ∧ k ≤ a ∧ xx = 0 ∧ xe = -1 ∧ ∃ f : Nat, rl - a + 1 ≤ (f : Int) ∧ rdf (sh F rs) rl 5000 0 0 RO = rdf (sh F rs) rl f a ct G) ∨ (mo = 0 ∧ xx ≠ 0 ∧ (rdf (sh F rs) rl 5000 0 0 RO).1 = xx ∧ (rdf (sh F rs) rl 5000 0 0 RO).2.1 = xe) ∨ (mo = 0 ∧ xx = 0 ∧ xe = -1 ∧ rdf (sh F rs) rl 5000 0 0 RO = (0, -1, ct, G))) → (2 * (rl - a) + 1 + mo) < (fu41 : Int) → GG p l e ({ frames := 5, cells := 0, slots := 0, locals := 115 }) s m args below meth c D vwCl A 6 (QI D vwCl cA A below args s 0 0 (fun (r : Int) (w : va_W) => ∃ (ue : Int) (ux : Int) (ua : Int) (uc : Int) (UO : Int → Int), (((rdf (sh F rs) rl 5000 0 0 RO).1 = 0 ∧ r = (rdf (sh F rs) rl 5000 0 0 RO).2.2.1 ∧ ue = -1 ∧ UO = (rdf (sh F rs) rl 5000 0 0 RO).2.2.2 ∧ 0 ≤ r ∧ r ≤ 256) ∨ ((rdf (sh F rs) rl 5000 0 0 RO).1 ≠ 0 ∧ r = -(rdf (sh F rs) rl 5000 0 0 RO).1 ∧ ue = (rdf (sh F rs) rl 5000 0 0 RO).2.1 ∧ r < 0 ∧ -10 ≤ r)) ∧ w = [(rd, .inr (1, [.ref ro, .int (iI ue), .int (iI ux), .ref src, .int (iI rs), .int (iI rl), .int (iI ua), .int (iI uc)])), (src, aE cA N F), (ro, aE cA 256 UO)])) 0 0 [(rd, .inr (1, [.ref ro, .int (iI xe), .int (iI xx), .ref src, .int (iI rs), .int (iI rl), .int (iI a), .int (iI ct)])), (src, aE cA N F), (ro, aE cA 256 G)] [(0, .ref rd), (1, .ref src), (2, .int (iI rs)), (3, .int (iI rl)), (4, .int (iI mo)), (5, .int (iI k))] 41 [] := by
    intro fu41
    induction fu41 with
    | zero => intro mo k xe xx a ct G hb hxx hI hmu41; exfalso; omega
    | succ fu41 ih41 =>
      intro mo k xe xx a ct G hb hxx hI hmu41
      refine g_iload E dX1_unpack_41 5 rfl ?_
      refine g_aload_n E dX1_unpack_43 rfl 0 rfl ?_
      refine g_getfield E dX1_unpack_44 0 5 rfl rfl (by decide) iX1 wd_69 rfl rfl ?_
      refine g_icmp_gt (tgt := 67) E dX1_unpack_47 (by decide) ⟨(by omega), (by omega)⟩ ⟨(by omega), (by omega)⟩ (fun c_47 => ?_) (fun c_47 => ?_)
      · skip
        refine g_aload_n E dX1_unpack_67 rfl 0 rfl ?_
        refine g_getfield E dX1_unpack_68 0 2 rfl rfl (by decide) iX1 wd_66 rfl rfl ?_
        refine g_if_ne (tgt := 81) E dX1_unpack_71 (by decide) ⟨(by omega), (by omega)⟩ (fun c_71 => ?_) (fun c_71 => ?_)
        · skip
          refine g_aload_n E dX1_unpack_81 rfl 0 rfl ?_
          refine g_getfield E dX1_unpack_82 0 2 rfl rfl (by decide) iX1 wd_66 rfl rfl ?_
          refine g_ineg E dX1_unpack_85 ?_
          refine g_ireturn E dX1_unpack_86 ?_
          have hI2 := hI.resolve_left (fun g => by omega)
          have hrg := rdf_rng (sh F rs) rl 5000 0 0 RO
          rcases hI2 with ⟨g1, g2, g3, g4⟩ | ⟨g1, g2, g3, g4⟩
          · first | (exfalso; omega) | exact ⟨xe, xx, a, ct, G, Or.inr ⟨by omega, by omega, g4.symm, by omega, by omega⟩, rfl⟩
          · first | (exfalso; omega) | exact ⟨xe, xx, a, ct, G, Or.inl ⟨by rw [g4], by rw [g4], g3, by rw [g4], by omega, by omega⟩, rfl⟩
        · skip
          refine g_aload_n E dX1_unpack_74 rfl 0 rfl ?_
          refine g_getfield E dX1_unpack_75 0 7 rfl rfl (by decide) iX1 wd_77 rfl rfl ?_
          refine g_goto (tgt := 86) E dX1_unpack_78 (by decide) ?_
          refine g_ireturn E dX1_unpack_86 ?_
          have hI2 := hI.resolve_left (fun g => by omega)
          have hrg := rdf_rng (sh F rs) rl 5000 0 0 RO
          rcases hI2 with ⟨g1, g2, g3, g4⟩ | ⟨g1, g2, g3, g4⟩
          · first | (exfalso; omega) | exact ⟨xe, xx, a, ct, G, Or.inr ⟨by omega, by omega, g4.symm, by omega, by omega⟩, rfl⟩
          · first | (exfalso; omega) | exact ⟨xe, xx, a, ct, G, Or.inl ⟨by rw [g4], by rw [g4], g3, by rw [g4], by omega, by omega⟩, rfl⟩
      · skip
        refine g_iload E dX1_unpack_50 4 rfl ?_
        refine g_if_eq (tgt := 67) E dX1_unpack_52 (by decide) ⟨(by omega), (by omega)⟩ (fun c_52 => ?_) (fun c_52 => ?_)
        · skip
          refine g_aload_n E dX1_unpack_67 rfl 0 rfl ?_
          refine g_getfield E dX1_unpack_68 0 2 rfl rfl (by decide) iX1 wd_66 rfl rfl ?_
          refine g_if_ne (tgt := 81) E dX1_unpack_71 (by decide) ⟨(by omega), (by omega)⟩ (fun c_71 => ?_) (fun c_71 => ?_)
          · skip
            refine g_aload_n E dX1_unpack_81 rfl 0 rfl ?_
            refine g_getfield E dX1_unpack_82 0 2 rfl rfl (by decide) iX1 wd_66 rfl rfl ?_
            refine g_ineg E dX1_unpack_85 ?_
            refine g_ireturn E dX1_unpack_86 ?_
            have hI2 := hI.resolve_left (fun g => by omega)
            have hrg := rdf_rng (sh F rs) rl 5000 0 0 RO
            rcases hI2 with ⟨g1, g2, g3, g4⟩ | ⟨g1, g2, g3, g4⟩
            · first | (exfalso; omega) | exact ⟨xe, xx, a, ct, G, Or.inr ⟨by omega, by omega, g4.symm, by omega, by omega⟩, rfl⟩
            · first | (exfalso; omega) | exact ⟨xe, xx, a, ct, G, Or.inl ⟨by rw [g4], by rw [g4], g3, by rw [g4], by omega, by omega⟩, rfl⟩
          · skip
            refine g_aload_n E dX1_unpack_74 rfl 0 rfl ?_
            refine g_getfield E dX1_unpack_75 0 7 rfl rfl (by decide) iX1 wd_77 rfl rfl ?_
            refine g_goto (tgt := 86) E dX1_unpack_78 (by decide) ?_
            refine g_ireturn E dX1_unpack_86 ?_
            have hI2 := hI.resolve_left (fun g => by omega)
            have hrg := rdf_rng (sh F rs) rl 5000 0 0 RO
            rcases hI2 with ⟨g1, g2, g3, g4⟩ | ⟨g1, g2, g3, g4⟩
            · first | (exfalso; omega) | exact ⟨xe, xx, a, ct, G, Or.inr ⟨by omega, by omega, g4.symm, by omega, by omega⟩, rfl⟩
            · first | (exfalso; omega) | exact ⟨xe, xx, a, ct, G, Or.inl ⟨by rw [g4], by rw [g4], g3, by rw [g4], by omega, by omega⟩, rfl⟩
        · skip
          obtain ⟨i1, i2, i3, i4, f0, i5, i6⟩ := hI.resolve_right (fun g => by omega)
          obtain ⟨f1, rfl⟩ : ∃ q : Nat, f0 = q + 1 := ⟨f0 - 1, by omega⟩
          refine g_aload_n E dX1_unpack_55 rfl 0 rfl ?_
          refine g_callV (n := 0) (As := []) (rest := []) (wr := []) E dX1_unpack_56 (c_X1_readSequence l D cA rd ro src xe xx rs rl a ct N F G (by omega) (by omega) (by omega) (by omega) (by omega) (by omega)) wd_code_X1_readSequence wd_98 wd_99 wd_100 wd_101 (by decide +kernel) ⟨⟨rfl, rfl⟩, ⟨(Nat.le_of_ble_eq_true rfl), (Nat.le_of_ble_eq_true rfl)⟩, ⟨(Nat.le_of_ble_eq_true rfl), (Nat.le_of_ble_eq_true rfl)⟩⟩ [0, 1, 2] [] rfl rfl (by decide) 0 rfl rfl rfl rfl (Nat.le_of_ble_eq_true rfl) (fun z_56 w_56 hw_56 => ?_)
          obtain ⟨se_56, sx_56, sa_56, sc_56, SO_56, hQ_56, hb_56, hx_56, rfl⟩ := hw_56
          refine GG.wss (ws' := [(rd, .inr (1, [.ref ro, .int (iI se_56), .int (iI sx_56), .ref src, .int (iI rs), .int (iI rl), .int (iI sa_56), .int (iI sc_56)])), (src, aE cA N F), (ro, aE cA 256 SO_56)]) [0, 1, 2] (by decide) rfl ?_
          have hnx : (z_56 = 1 ∧ k + 1 ≤ sa_56 ∧ sx_56 = 0 ∧ se_56 = -1 ∧ ∃ f : Nat, rl - sa_56 + 1 ≤ (f : Int) ∧ rdf (sh F rs) rl 5000 0 0 RO = rdf (sh F rs) rl f sa_56 sc_56 SO_56) ∨ (z_56 = 0 ∧ sx_56 ≠ 0 ∧ (rdf (sh F rs) rl 5000 0 0 RO).1 = sx_56 ∧ (rdf (sh F rs) rl 5000 0 0 RO).2.1 = se_56) ∨ (z_56 = 0 ∧ sx_56 = 0 ∧ se_56 = -1 ∧ rdf (sh F rs) rl 5000 0 0 RO = (0, -1, sc_56, SO_56)) := by
            rcases hQ_56 with ⟨g1, g2, g3, g4, g5⟩ | ⟨g1, g2, g3⟩ | ⟨g1, g2, g3, g4⟩
            · exact Or.inl ⟨g1, by omega, g2, by omega, f1, by omega, by rw [i6, g5 f1]⟩
            · exact Or.inr (Or.inl ⟨g1, g2, by rw [i6]; exact (g3 f1).1, by rw [i6]; exact (g3 f1).2⟩)
            · exact Or.inr (Or.inr ⟨g1, g2, by omega, by rw [i6, g4 f1]⟩)
          refine g_istore (lv' := [(4, .int (iI z_56)), (0, .ref rd), (1, .ref src), (2, .int (iI rs)), (3, .int (iI rl)), (5, .int (iI k))]) E dX1_unpack_59 (by decide) rfl ?_
          refine g_iinc (lv' := [(5, .int (iI (k + 1))), (4, .int (iI z_56)), (0, .ref rd), (1, .ref src), (2, .int (iI rs)), (3, .int (iI rl))]) E dX1_unpack_61 5 rfl (by decide) rfl ?_
          refine g_goto (tgt := 41) E dX1_unpack_64 (by decide) ?_
          refine GG.lvs (lv' := [(0, .ref rd), (1, .ref src), (2, .int (iI rs)), (3, .int (iI rl)), (4, .int (iI z_56)), (5, .int (iI (k + 1)))]) [2, 3, 4, 5, 1, 0] rfl ?_
          exact ih41 z_56 (k + 1) se_56 sx_56 sa_56 sc_56 SO_56 (by omega) (by omega) (by exact hnx) (by omega)
  refine GG.lvs (lv' := [(0, .ref rd), (1, .ref src), (2, .int (iI rs)), (3, .int (iI rl)), (4, .int (iI 1)), (5, .int (iI 0))]) [2, 3, 4, 5, 1, 0] rfl ?_
  exact L41 ((2 * (rl - 0) + 1 + 1 : Int).toNat + 1) 1 0 (-1) 0 0 0 RO (by omega) (by omega) (by exact Or.inl ⟨rfl, by omega, rfl, rfl, 5000, by omega, rfl⟩) (by omega)
