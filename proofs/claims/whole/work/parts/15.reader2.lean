theorem wd_82 : Cond.methodLink RX1 52 yX1_readNumber ∈ UW := uw (by decide +kernel) rfl
theorem wd_83 : Cond.instanceMethod yX1_readNumber ∈ UW := uw (by decide +kernel) rfl
theorem wd_84 : Cond.selects RX1 yX1_readNumber yX1_readNumber ∈ UW := uw (by decide +kernel) rfl
theorem wd_85 : Cond.initialized yX1_readNumber.cls ∈ UW := uw (by decide +kernel) rfl
theorem wd_86 : Cond.methodLink RX1 59 yX1_putOut ∈ UW := uw (by decide +kernel) rfl
theorem wd_87 : Cond.instanceMethod yX1_putOut ∈ UW := uw (by decide +kernel) rfl
theorem wd_88 : Cond.selects RX1 yX1_putOut yX1_putOut ∈ UW := uw (by decide +kernel) rfl
theorem wd_89 : Cond.initialized yX1_putOut.cls ∈ UW := uw (by decide +kernel) rfl
set_option maxHeartbeats 4000000 in
set_option maxRecDepth 100000 in
theorem c_X1_readLiterals (l : Launch) (D : va_G) (cA : ClassId) (rd : Nat) (ro : Nat) (src : Nat) (re : Int) (rx : Int) (rs : Int) (rl : Int) (ra : Int) (rc : Int) (N : Nat) (F : Int → Int) (RO : Int → Int) (h : Int) (tok : Int) (hR : 0 ≤ rs ∧ rs + rl ≤ N ∧ 0 ≤ rl) (hN : N ≤ 4096) (ha : 0 ≤ ra ∧ ra ≤ rl) (hS : byR rl (sh F rs)) (hrx : iB rx) (hrc : 0 ≤ rc ∧ rc ≤ 256) (hh : 0 ≤ h ∧ h ≤ 15) (htok : iB tok) : Cv l D vwCl cA yX1_readLiterals (.code yX1_readLiterals cX1_readLiterals 5 none :: UW) ({ frames := 3, cells := 0, slots := 0, locals := 67 }) 0 0 [.ref rd, .int (iI h), .int (iI tok)] [(rd, .inr (1, [.ref ro, .int (iI re), .int (iI rx), .ref src, .int (iI rs), .int (iI rl), .int (iI ra), .int (iI rc)])), (src, aE cA N F), (ro, aE cA 256 RO)] (fun (w : va_W) => ∃ (le : Int) (lx : Int) (la : Int) (lc : Int) (LO : Int → Int), ((rx ≠ 0 ∧ lx = rx ∧ le = re) ∨ (rx = 0 ∧ ∃ e pl x b : Int, ltk (sh F rs) rl h ra tok rc = (e, pl, x, b) ∧ ((e ≠ 0 ∧ lx = e ∧ le = pl) ∨ (e = 0 ∧ lx = 0 ∧ le = re ∧ lc = rc + x ∧ la = b + x ∧ LO = cp (sh F rs) RO b rc x)))) ∧ (ra ≤ la ∧ la ≤ rl ∧ 0 ≤ lc ∧ lc ≤ 256) ∧ iB lx ∧ w = [(rd, .inr (1, [.ref ro, .int (iI le), .int (iI lx), .ref src, .int (iI rs), .int (iI rl), .int (iI la), .int (iI lc)])), (src, aE cA N F), (ro, aE cA 256 LO)]) := by
  refine Cv.mk (by decide) (Nat.le_of_ble_eq_true rfl) ?_
  intro p e s m args below meth c A E hin
  refine GG.lvs (lv' := [(0, .ref rd), (1, .int (iI h)), (2, .int (iI tok))]) [0, 1, 2] rfl ?_
  refine g_aload_n E dX1_readLiterals_0 rfl 0 rfl ?_
  refine g_iload_n E dX1_readLiterals_1 rfl 1 rfl ?_
  refine g_callV (n := 1) (As := [.int (iI h)]) (rest := []) (wr := [(ro, aE cA 256 RO)]) E dX1_readLiterals_2 (c_X1_readNumber l D cA rd ro src re rx rs rl ra rc N F h (by omega) (by omega) (by omega) (by omega) (by omega) (by omega)) wd_code_X1_readNumber wd_82 wd_83 wd_84 wd_85 (by decide +kernel) ⟨⟨rfl, rfl⟩, ⟨(Nat.le_of_ble_eq_true rfl), (Nat.le_of_ble_eq_true rfl)⟩, ⟨(Nat.le_of_ble_eq_true rfl), (Nat.le_of_ble_eq_true rfl)⟩⟩ [0, 1] [2] rfl rfl (by decide) 0 rfl rfl rfl rfl (Nat.le_of_ble_eq_true rfl) (fun z_2 w_2 hw_2 => ?_)
  obtain ⟨ne_2, nx_2, na_2, hp_2, hb_2, hx_2, rfl⟩ := hw_2
  refine GG.wss (ws' := [(rd, .inr (1, [.ref ro, .int (iI ne_2), .int (iI nx_2), .ref src, .int (iI rs), .int (iI rl), .int (iI na_2), .int (iI rc)])), (src, aE cA N F), (ro, aE cA 256 RO)]) [1, 2, 0] (by decide) rfl ?_
  refine g_istore_n (lv' := [(3, .int (iI z_2)), (0, .ref rd), (1, .int (iI h)), (2, .int (iI tok))]) E dX1_readLiterals_5 rfl (by decide) rfl ?_
  refine g_aload_n E dX1_readLiterals_6 rfl 1 rfl ?_
  refine g_getfield E dX1_readLiterals_7 0 2 rfl rfl (by decide) iX1 wd_66 rfl rfl ?_
  refine g_if_eq (tgt := 14) E dX1_readLiterals_10 (by decide) ⟨(by omega), (by omega)⟩ (fun c_10 => ?_) (fun c_10 => ?_)
  · skip
    have hrx0 : rx = 0 := by omega
    have hnum : numb (sh F rs) rl h ra = some (z_2, na_2) := hp_2.elim (fun q => q.1) (fun q => absurd q.2 (by omega))
    refine g_iload_n E dX1_readLiterals_14 rfl 0 rfl ?_
    refine g_sipush E dX1_readLiterals_15 (by decide) ?_
    refine g_aload_n E dX1_readLiterals_18 rfl 1 rfl ?_
    refine g_getfield E dX1_readLiterals_19 0 7 rfl rfl (by decide) iX1 wd_77 rfl rfl ?_
    refine g_isub E dX1_readLiterals_22 ?_
    refine g_icmp_le (tgt := 35) E dX1_readLiterals_23 (by decide) ⟨(by omega), (by omega)⟩ ⟨(by omega), (by omega)⟩ (fun c_23 => ?_) (fun c_23 => ?_)
    · skip
      refine g_iload_n E dX1_readLiterals_35 rfl 0 rfl ?_
      refine g_aload_n E dX1_readLiterals_36 rfl 1 rfl ?_
      refine g_getfield E dX1_readLiterals_37 0 5 rfl rfl (by decide) iX1 wd_69 rfl rfl ?_
      refine g_aload_n E dX1_readLiterals_40 rfl 1 rfl ?_
      refine g_getfield E dX1_readLiterals_41 0 6 rfl rfl (by decide) iX1 wd_68 rfl rfl ?_
      refine g_isub E dX1_readLiterals_44 ?_
      refine g_icmp_le (tgt := 60) E dX1_readLiterals_45 (by decide) ⟨(by omega), (by omega)⟩ ⟨(by omega), (by omega)⟩ (fun c_45 => ?_) (fun c_45 => ?_)
      · skip
        refine g_iconst E dX1_readLiterals_60 ?_
        refine g_istore (lv' := [(4, .int (iI 0)), (3, .int (iI z_2)), (0, .ref rd), (1, .int (iI h)), (2, .int (iI tok))]) E dX1_readLiterals_61 (by decide) rfl ?_
        have L63 : ∀ (fu63 : Nat) (k : Int) (a : Int) (ct : Int) (xe : Int) (xx : Int) (G : Int → Int), 0 ≤ k ∧ k ≤ z_2 → a = na_2 + k ∧ ct = rc + k ∧ xe = ne_2 ∧ xx = nx_2 → G = cp (sh F rs) RO na_2 rc k → (z_2 - k) < (fu63 : Int) → GG p l e ({ frames := 3, cells := 0, slots := 0, locals := 67 }) s m args below meth c D vwCl A 5 (QV D vwCl cA A below args s 0 0 (fun (w : va_W) => ∃ (le : Int) (lx : Int) (la : Int) (lc : Int) (LO : Int → Int), ((rx ≠ 0 ∧ lx = rx ∧ le = re) ∨ (rx = 0 ∧ ∃ e pl x b : Int, ltk (sh F rs) rl h ra tok rc = (e, pl, x, b) ∧ ((e ≠ 0 ∧ lx = e ∧ le = pl) ∨ (e = 0 ∧ lx = 0 ∧ le = re ∧ lc = rc + x ∧ la = b + x ∧ LO = cp (sh F rs) RO b rc x)))) ∧ (ra ≤ la ∧ la ≤ rl ∧ 0 ≤ lc ∧ lc ≤ 256) ∧ iB lx ∧ w = [(rd, .inr (1, [.ref ro, .int (iI le), .int (iI lx), .ref src, .int (iI rs), .int (iI rl), .int (iI la), .int (iI lc)])), (src, aE cA N F), (ro, aE cA 256 LO)])) 0 0 [(rd, .inr (1, [.ref ro, .int (iI xe), .int (iI xx), .ref src, .int (iI rs), .int (iI rl), .int (iI a), .int (iI ct)])), (src, aE cA N F), (ro, aE cA 256 G)] [(0, .ref rd), (2, .int (iI tok)), (3, .int (iI z_2)), (4, .int (iI k))] 63 [] := by
          intro fu63
          induction fu63 with
          | zero => intro k a ct xe xx G hk hac hG hmu63; exfalso; omega
          | succ fu63 ih63 =>
            intro k a ct xe xx G hk hac hG hmu63
            refine g_iload E dX1_readLiterals_63 3 rfl ?_
            refine g_iload_n E dX1_readLiterals_65 rfl 2 rfl ?_
            refine g_icmp_ge (tgt := 83) E dX1_readLiterals_66 (by decide) ⟨(by omega), (by omega)⟩ ⟨(by omega), (by omega)⟩ (fun c_66 => ?_) (fun c_66 => ?_)
            · skip
              refine g_return E dX1_readLiterals_83 ?_
              first
              | exact ⟨fe_29, fx_29, na_2, rc, RO, Or.inr ⟨hrx0, 3, tok, 0, 0, ltk_3 hnum (by omega), Or.inl ⟨by decide, by omega, by omega⟩⟩, by omega, ⟨by omega, by omega⟩, rfl⟩
              | exact ⟨fe_54, fx_54, na_2, rc, RO, Or.inr ⟨hrx0, 1, rl, 0, 0, ltk_1 hnum (by omega) (by omega), Or.inl ⟨by decide, by omega, by omega⟩⟩, by omega, ⟨by omega, by omega⟩, rfl⟩
              | exact ⟨xe, xx, a, ct, G, Or.inr ⟨hrx0, 0, -1, z_2, na_2, ltk_0 hnum (by omega) (by omega), Or.inr ⟨rfl, by omega, by omega, by omega, by omega, by rw [hG, show k = z_2 by omega]⟩⟩, by omega, ⟨by omega, by omega⟩, rfl⟩
            · skip
              refine g_aload_n E dX1_readLiterals_69 rfl 0 rfl ?_
              refine g_aload_n E dX1_readLiterals_70 rfl 0 rfl ?_
              refine g_callV (n := 0) (As := []) (rest := [.ref rd]) (wr := [(ro, aE cA 256 G)]) E dX1_readLiterals_71 (c_X1_next l D cA rd ro src xe xx rs rl a ct N F (by omega) (by omega) (by omega) (by omega)) wd_code_X1_next wd_78 wd_79 wd_80 wd_81 (by decide +kernel) ⟨⟨rfl, rfl⟩, ⟨(Nat.le_of_ble_eq_true rfl), (Nat.le_of_ble_eq_true rfl)⟩, ⟨(Nat.le_of_ble_eq_true rfl), (Nat.le_of_ble_eq_true rfl)⟩⟩ [0, 1] [2] rfl rfl (by decide) 0 rfl rfl rfl rfl (Nat.le_of_ble_eq_true rfl) (fun z_71 w_71 hw_71 => ?_)
              obtain ⟨fe_71, fx_71, fa_71, hf_71, rfl⟩ := hw_71
              refine GG.wss (ws' := [(rd, .inr (1, [.ref ro, .int (iI fe_71), .int (iI fx_71), .ref src, .int (iI rs), .int (iI rl), .int (iI fa_71), .int (iI ct)])), (src, aE cA N F), (ro, aE cA 256 G)]) [1, 2, 0] (by decide) rfl ?_
              refine g_callVv (n := 1) (As := [.int (iI z_71)]) (rest := []) (wr := [(src, aE cA N F)]) E dX1_readLiterals_74 (c_X1_putOut l D cA rd ro src fe_71 fx_71 rs rl fa_71 ct G z_71 (by omega)) wd_code_X1_putOut wd_86 wd_87 wd_88 wd_89 (by decide +kernel) ⟨⟨rfl, rfl⟩, ⟨(Nat.le_of_ble_eq_true rfl), (Nat.le_of_ble_eq_true rfl)⟩, ⟨(Nat.le_of_ble_eq_true rfl), (Nat.le_of_ble_eq_true rfl)⟩⟩ [0, 2] [1] rfl rfl (by decide) 0 rfl rfl rfl rfl (Nat.le_of_ble_eq_true rfl) (fun w_74 hw_74 => ?_)
              subst hw_74
              refine GG.wss (ws' := [(rd, .inr (1, [.ref ro, .int (iI fe_71), .int (iI fx_71), .ref src, .int (iI rs), .int (iI rl), .int (iI fa_71), .int (iI (ct + 1))])), (src, aE cA N F), (ro, aE cA 256 (up G ct z_71))]) [1, 0, 2] (by decide) rfl ?_
              refine g_iinc (lv' := [(4, .int (iI (k + 1))), (0, .ref rd), (2, .int (iI tok)), (3, .int (iI z_2))]) E dX1_readLiterals_77 3 rfl (by decide) rfl ?_
              refine g_goto (tgt := 63) E dX1_readLiterals_80 (by decide) ?_
              refine GG.lvs (lv' := [(0, .ref rd), (2, .int (iI tok)), (3, .int (iI z_2)), (4, .int (iI (k + 1)))]) [1, 2, 3, 0] rfl ?_
              exact ih63 (k + 1) fa_71 (ct + 1) fe_71 fx_71 (up G ct z_71) (by omega) (by omega) (by rw [hac.2.1]; exact cp_s hk.1 hG (by show z_71 = F (rs + (na_2 + k)); rw [← hac.1]; omega)) (by omega)
        refine GG.lvs (lv' := [(0, .ref rd), (2, .int (iI tok)), (3, .int (iI z_2)), (4, .int (iI 0))]) [2, 4, 1, 0] rfl ?_
        exact L63 ((z_2 - 0 : Int).toNat + 1) 0 na_2 rc ne_2 nx_2 RO (by omega) (by omega) (by exact (cp_0 ..).symm) (by omega)
      · skip
        refine g_aload_n E dX1_readLiterals_48 rfl 1 rfl ?_
        refine g_iconst E dX1_readLiterals_49 ?_
        refine g_aload_n E dX1_readLiterals_50 rfl 1 rfl ?_
        refine g_getfield E dX1_readLiterals_51 0 5 rfl rfl (by decide) iX1 wd_69 rfl rfl ?_
        refine g_callVv (n := 2) (As := [.int (iI 1), .int (iI rl)]) (rest := []) (wr := [(src, aE cA N F), (ro, aE cA 256 RO)]) E dX1_readLiterals_54 (c_X1_fail l D cA rd ro src ne_2 nx_2 rs rl na_2 rc 1 rl (by omega)) wd_code_X1_fail wd_72 wd_73 wd_74 wd_75 (by decide +kernel) ⟨⟨rfl, rfl⟩, ⟨(Nat.le_of_ble_eq_true rfl), (Nat.le_of_ble_eq_true rfl)⟩, ⟨(Nat.le_of_ble_eq_true rfl), (Nat.le_of_ble_eq_true rfl)⟩⟩ [0] [1, 2] rfl rfl (by decide) 0 rfl rfl rfl rfl (Nat.le_of_ble_eq_true rfl) (fun w_54 hw_54 => ?_)
        obtain ⟨fe_54, fx_54, hf_54, rfl⟩ := hw_54
        refine GG.wss (ws' := [(rd, .inr (1, [.ref ro, .int (iI fe_54), .int (iI fx_54), .ref src, .int (iI rs), .int (iI rl), .int (iI na_2), .int (iI rc)])), (src, aE cA N F), (ro, aE cA 256 RO)]) [2, 0, 1] (by decide) rfl ?_
        refine g_goto (tgt := 83) E dX1_readLiterals_57 (by decide) ?_
        refine g_return E dX1_readLiterals_83 ?_
        first
        | exact ⟨fe_29, fx_29, na_2, rc, RO, Or.inr ⟨hrx0, 3, tok, 0, 0, ltk_3 hnum (by omega), Or.inl ⟨by decide, by omega, by omega⟩⟩, by omega, ⟨by omega, by omega⟩, rfl⟩
        | exact ⟨fe_54, fx_54, na_2, rc, RO, Or.inr ⟨hrx0, 1, rl, 0, 0, ltk_1 hnum (by omega) (by omega), Or.inl ⟨by decide, by omega, by omega⟩⟩, by omega, ⟨by omega, by omega⟩, rfl⟩
        | exact ⟨xe, xx, a, ct, G, Or.inr ⟨hrx0, 0, -1, z_2, na_2, ltk_0 hnum (by omega) (by omega), Or.inr ⟨rfl, by omega, by omega, by omega, by omega, by rw [hG, show k = z_2 by omega]⟩⟩, by omega, ⟨by omega, by omega⟩, rfl⟩
    · skip
      refine g_aload_n E dX1_readLiterals_26 rfl 1 rfl ?_
      refine g_iconst E dX1_readLiterals_27 ?_
      refine g_iload_n E dX1_readLiterals_28 rfl 3 rfl ?_
      refine g_callVv (n := 2) (As := [.int (iI 3), .int (iI tok)]) (rest := []) (wr := [(src, aE cA N F), (ro, aE cA 256 RO)]) E dX1_readLiterals_29 (c_X1_fail l D cA rd ro src ne_2 nx_2 rs rl na_2 rc 3 tok (by omega)) wd_code_X1_fail wd_72 wd_73 wd_74 wd_75 (by decide +kernel) ⟨⟨rfl, rfl⟩, ⟨(Nat.le_of_ble_eq_true rfl), (Nat.le_of_ble_eq_true rfl)⟩, ⟨(Nat.le_of_ble_eq_true rfl), (Nat.le_of_ble_eq_true rfl)⟩⟩ [0] [1, 2] rfl rfl (by decide) 0 rfl rfl rfl rfl (Nat.le_of_ble_eq_true rfl) (fun w_29 hw_29 => ?_)
      obtain ⟨fe_29, fx_29, hf_29, rfl⟩ := hw_29
      refine GG.wss (ws' := [(rd, .inr (1, [.ref ro, .int (iI fe_29), .int (iI fx_29), .ref src, .int (iI rs), .int (iI rl), .int (iI na_2), .int (iI rc)])), (src, aE cA N F), (ro, aE cA 256 RO)]) [2, 0, 1] (by decide) rfl ?_
      refine g_goto (tgt := 83) E dX1_readLiterals_32 (by decide) ?_
      refine g_return E dX1_readLiterals_83 ?_
      first
      | exact ⟨fe_29, fx_29, na_2, rc, RO, Or.inr ⟨hrx0, 3, tok, 0, 0, ltk_3 hnum (by omega), Or.inl ⟨by decide, by omega, by omega⟩⟩, by omega, ⟨by omega, by omega⟩, rfl⟩
      | exact ⟨fe_54, fx_54, na_2, rc, RO, Or.inr ⟨hrx0, 1, rl, 0, 0, ltk_1 hnum (by omega) (by omega), Or.inl ⟨by decide, by omega, by omega⟩⟩, by omega, ⟨by omega, by omega⟩, rfl⟩
      | exact ⟨xe, xx, a, ct, G, Or.inr ⟨hrx0, 0, -1, z_2, na_2, ltk_0 hnum (by omega) (by omega), Or.inr ⟨rfl, by omega, by omega, by omega, by omega, by rw [hG, show k = z_2 by omega]⟩⟩, by omega, ⟨by omega, by omega⟩, rfl⟩
  · skip
    refine g_return E dX1_readLiterals_13 ?_
    refine ⟨ne_2, nx_2, na_2, rc, RO, ?_, by omega, hx_2, rfl⟩
    by_cases q0 : rx = 0
    · refine Or.inr ⟨q0, 1, rl, 0, 0, ?_, Or.inl ⟨by decide, by omega, by omega⟩⟩
      exact hp_2.elim (fun q => absurd q.2.1 (by omega)) (fun q => ltk_n q.1)
    · exact Or.inl ⟨q0, by omega, by omega⟩
set_option maxHeartbeats 4000000 in
set_option maxRecDepth 100000 in
theorem c_X1_readMatch (l : Launch) (D : va_G) (cA : ClassId) (rd : Nat) (ro : Nat) (src : Nat) (re : Int) (rx : Int) (rs : Int) (rl : Int) (ra : Int) (rc : Int) (N : Nat) (F : Int → Int) (RO : Int → Int) (h : Int) (tok : Int) (hR : 0 ≤ rs ∧ rs + rl ≤ N ∧ 0 ≤ rl) (hN : N ≤ 4096) (ha : 0 ≤ ra ∧ ra < rl) (hS : byR rl (sh F rs)) (hrx : rx = 0) (hrc : 0 ≤ rc ∧ rc ≤ 256) (hh : 0 ≤ h ∧ h ≤ 15) (htok : iB tok) : Cv l D vwCl cA yX1_readMatch (.code yX1_readMatch cX1_readMatch 7 none :: UW) ({ frames := 3, cells := 0, slots := 0, locals := 67 }) 0 0 [.ref rd, .int (iI h), .int (iI tok)] [(rd, .inr (1, [.ref ro, .int (iI re), .int (iI rx), .ref src, .int (iI rs), .int (iI rl), .int (iI ra), .int (iI rc)])), (src, aE cA N F), (ro, aE cA 256 RO)] (fun (w : va_W) => ∃ (de : Int) (dx : Int) (da : Int) (dc : Int) (DO : Int → Int), (∃ e pm o ln d : Int, mtk (sh F rs) rl h ra tok rc = (e, pm, o, ln, d) ∧ ((e ≠ 0 ∧ dx = e ∧ de = pm) ∨ (e = 0 ∧ dx = 0 ∧ de = re ∧ dc = rc + ln ∧ da = d ∧ DO = rpk RO rc o ln.toNat))) ∧ (ra < da ∧ da ≤ rl ∧ 0 ≤ dc ∧ dc ≤ 256) ∧ iB dx ∧ w = [(rd, .inr (1, [.ref ro, .int (iI de), .int (iI dx), .ref src, .int (iI rs), .int (iI rl), .int (iI da), .int (iI dc)])), (src, aE cA N F), (ro, aE cA 256 DO)]) := by
  refine Cv.mk (by decide) (Nat.le_of_ble_eq_true rfl) ?_
  intro p e s m args below meth c A E hin
  refine GG.lvs (lv' := [(0, .ref rd), (1, .int (iI h)), (2, .int (iI tok))]) [0, 1, 2] rfl ?_
  refine g_aload_n E dX1_readMatch_0 rfl 0 rfl ?_
  refine g_getfield E dX1_readMatch_1 0 6 rfl rfl (by decide) iX1 wd_68 rfl rfl ?_
  refine g_istore_n (lv' := [(3, .int (iI ra)), (0, .ref rd), (1, .int (iI h)), (2, .int (iI tok))]) E dX1_readMatch_4 rfl (by decide) rfl ?_
  refine g_aload_n E dX1_readMatch_5 rfl 1 rfl ?_
  refine g_callV (n := 0) (As := []) (rest := []) (wr := [(ro, aE cA 256 RO)]) E dX1_readMatch_6 (c_X1_next l D cA rd ro src re rx rs rl ra rc N F (by omega) (by omega) (by omega) (by omega)) wd_code_X1_next wd_78 wd_79 wd_80 wd_81 (by decide +kernel) ⟨⟨rfl, rfl⟩, ⟨(Nat.le_of_ble_eq_true rfl), (Nat.le_of_ble_eq_true rfl)⟩, ⟨(Nat.le_of_ble_eq_true rfl), (Nat.le_of_ble_eq_true rfl)⟩⟩ [0, 1] [2] rfl rfl (by decide) 0 rfl rfl rfl rfl (Nat.le_of_ble_eq_true rfl) (fun z_6 w_6 hw_6 => ?_)
  obtain ⟨fe_6, fx_6, fa_6, hf_6, rfl⟩ := hw_6
  refine GG.wss (ws' := [(rd, .inr (1, [.ref ro, .int (iI fe_6), .int (iI fx_6), .ref src, .int (iI rs), .int (iI rl), .int (iI fa_6), .int (iI rc)])), (src, aE cA N F), (ro, aE cA 256 RO)]) [1, 2, 0] (by decide) rfl ?_
  refine g_sipush E dX1_readMatch_9 (by decide) ?_
  refine g_aload_n E dX1_readMatch_12 rfl 1 rfl ?_
  refine g_callV (n := 0) (As := []) (rest := [.int (iI 256), .int (iI z_6)]) (wr := [(ro, aE cA 256 RO)]) E dX1_readMatch_13 (c_X1_next l D cA rd ro src fe_6 fx_6 rs rl fa_6 rc N F (by omega) (by omega) (by omega) (by omega)) wd_code_X1_next wd_78 wd_79 wd_80 wd_81 (by decide +kernel) ⟨⟨rfl, rfl⟩, ⟨(Nat.le_of_ble_eq_true rfl), (Nat.le_of_ble_eq_true rfl)⟩, ⟨(Nat.le_of_ble_eq_true rfl), (Nat.le_of_ble_eq_true rfl)⟩⟩ [0, 1] [2] rfl rfl (by decide) 0 rfl rfl rfl rfl (Nat.le_of_ble_eq_true rfl) (fun z_13 w_13 hw_13 => ?_)
  obtain ⟨fe_13, fx_13, fa_13, hf_13, rfl⟩ := hw_13
  refine GG.wss (ws' := [(rd, .inr (1, [.ref ro, .int (iI fe_13), .int (iI fx_13), .ref src, .int (iI rs), .int (iI rl), .int (iI fa_13), .int (iI rc)])), (src, aE cA N F), (ro, aE cA 256 RO)]) [1, 2, 0] (by decide) rfl ?_
  have hs6 : z_6 = sh F rs ra := by show z_6 = F (rs + ra); omega
  have hs13 : ra + 2 ≤ rl → z_13 = sh F rs (ra + 1) := fun q => by show z_13 = F (rs + (ra + 1)); rw [show fa_6 = ra + 1 by omega] at hf_13; omega
  have hz6 : 0 ≤ z_6 ∧ z_6 < 256 := by have := hS ra (by omega) (by omega); omega
  have hz13 : 0 ≤ z_13 ∧ z_13 < 256 := by
      by_cases q : ra + 2 ≤ rl
      · have := hS (ra + 1) (by omega) (by omega); have := hs13 q; omega
      · omega
  refine g_imul E dX1_readMatch_16 ?_
  refine g_iadd E dX1_readMatch_17 ?_
  refine g_istore (lv' := [(4, .int (iI (z_6 + (256 * z_13)))), (3, .int (iI ra)), (0, .ref rd), (1, .int (iI h)), (2, .int (iI tok))]) E dX1_readMatch_18 (by decide) rfl ?_
  have L47 : ∀ (xe : Int) (xx : Int), iB xx → (xx = 0 ∧ xe = re ∧ ra + 2 ≤ rl ∧ z_6 + (256 * z_13) ≠ 0 ∧ z_6 + (256 * z_13) ≤ rc) ∨ (xx ≠ 0 ∧ mtk (sh F rs) rl h ra tok rc = (xx, xe, 0, 0, 0)) → GG p l e ({ frames := 3, cells := 0, slots := 0, locals := 67 }) s m args below meth c D vwCl A 7 (QV D vwCl cA A below args s 0 0 (fun (w : va_W) => ∃ (de : Int) (dx : Int) (da : Int) (dc : Int) (DO : Int → Int), (∃ e pm o ln d : Int, mtk (sh F rs) rl h ra tok rc = (e, pm, o, ln, d) ∧ ((e ≠ 0 ∧ dx = e ∧ de = pm) ∨ (e = 0 ∧ dx = 0 ∧ de = re ∧ dc = rc + ln ∧ da = d ∧ DO = rpk RO rc o ln.toNat))) ∧ (ra < da ∧ da ≤ rl ∧ 0 ≤ dc ∧ dc ≤ 256) ∧ iB dx ∧ w = [(rd, .inr (1, [.ref ro, .int (iI de), .int (iI dx), .ref src, .int (iI rs), .int (iI rl), .int (iI da), .int (iI dc)])), (src, aE cA N F), (ro, aE cA 256 DO)])) 0 0 [(rd, .inr (1, [.ref ro, .int (iI xe), .int (iI xx), .ref src, .int (iI rs), .int (iI rl), .int (iI fa_13), .int (iI rc)])), (src, aE cA N F), (ro, aE cA 256 RO)] [(0, .ref rd), (1, .int (iI h)), (2, .int (iI tok)), (4, .int (iI (z_6 + (256 * z_13))))] 47 [] := by
    intro xe xx hxx hE
    refine g_iconst E dX1_readMatch_47 ?_
    refine g_aload_n E dX1_readMatch_48 rfl 0 rfl ?_
    refine g_iload_n E dX1_readMatch_49 rfl 1 rfl ?_
    refine g_callV (n := 1) (As := [.int (iI h)]) (rest := [.int (iI 4)]) (wr := [(ro, aE cA 256 RO)]) E dX1_readMatch_50 (c_X1_readNumber l D cA rd ro src xe xx rs rl fa_13 rc N F h (by omega) (by omega) (by omega) (by omega) (by omega) (by omega)) wd_code_X1_readNumber wd_82 wd_83 wd_84 wd_85 (by decide +kernel) ⟨⟨rfl, rfl⟩, ⟨(Nat.le_of_ble_eq_true rfl), (Nat.le_of_ble_eq_true rfl)⟩, ⟨(Nat.le_of_ble_eq_true rfl), (Nat.le_of_ble_eq_true rfl)⟩⟩ [0, 1] [2] rfl rfl (by decide) 0 rfl rfl rfl rfl (Nat.le_of_ble_eq_true rfl) (fun z_50 w_50 hw_50 => ?_)
    obtain ⟨ne_50, nx_50, na_50, hp_50, hb_50, hx_50, rfl⟩ := hw_50
    refine GG.wss (ws' := [(rd, .inr (1, [.ref ro, .int (iI ne_50), .int (iI nx_50), .ref src, .int (iI rs), .int (iI rl), .int (iI na_50), .int (iI rc)])), (src, aE cA N F), (ro, aE cA 256 RO)]) [1, 2, 0] (by decide) rfl ?_
    have hxa : xx = 0 → fa_13 = ra + 2 := fun q => by omega
    refine g_iadd E dX1_readMatch_53 ?_
    refine g_istore (lv' := [(5, .int (iI (4 + z_50))), (0, .ref rd), (1, .int (iI h)), (2, .int (iI tok)), (4, .int (iI (z_6 + (256 * z_13))))]) E dX1_readMatch_54 (by decide) rfl ?_
    have L82 : ∀ (ye : Int) (yx : Int), iB yx → (yx = 0 ∧ ye = re ∧ xx = 0 ∧ numb (sh F rs) rl h (ra + 2) = some (z_50, na_50) ∧ rc + (4 + z_50) ≤ 256) ∨ (yx ≠ 0 ∧ mtk (sh F rs) rl h ra tok rc = (yx, ye, 0, 0, 0)) → GG p l e ({ frames := 3, cells := 0, slots := 0, locals := 67 }) s m args below meth c D vwCl A 7 (QV D vwCl cA A below args s 0 0 (fun (w : va_W) => ∃ (de : Int) (dx : Int) (da : Int) (dc : Int) (DO : Int → Int), (∃ e pm o ln d : Int, mtk (sh F rs) rl h ra tok rc = (e, pm, o, ln, d) ∧ ((e ≠ 0 ∧ dx = e ∧ de = pm) ∨ (e = 0 ∧ dx = 0 ∧ de = re ∧ dc = rc + ln ∧ da = d ∧ DO = rpk RO rc o ln.toNat))) ∧ (ra < da ∧ da ≤ rl ∧ 0 ≤ dc ∧ dc ≤ 256) ∧ iB dx ∧ w = [(rd, .inr (1, [.ref ro, .int (iI de), .int (iI dx), .ref src, .int (iI rs), .int (iI rl), .int (iI da), .int (iI dc)])), (src, aE cA N F), (ro, aE cA 256 DO)])) 0 0 [(rd, .inr (1, [.ref ro, .int (iI ye), .int (iI yx), .ref src, .int (iI rs), .int (iI rl), .int (iI na_50), .int (iI rc)])), (src, aE cA N F), (ro, aE cA 256 RO)] [(0, .ref rd), (4, .int (iI (z_6 + (256 * z_13)))), (5, .int (iI (4 + z_50)))] 82 [] := by
      intro ye yx hyx hE2
      refine g_aload_n E dX1_readMatch_82 rfl 0 rfl ?_
      refine g_getfield E dX1_readMatch_83 0 2 rfl rfl (by decide) iX1 wd_66 rfl rfl ?_
      refine g_if_eq (tgt := 90) E dX1_readMatch_86 (by decide) ⟨(by omega), (by omega)⟩ (fun c_86 => ?_) (fun c_86 => ?_)
      · skip
        obtain ⟨w1, w2, w3, w4, w5⟩ := hE2.resolve_right (fun g => g.1 c_86)
        have hE3 : xe = re ∧ ra + 2 ≤ rl ∧ z_6 + (256 * z_13) ≠ 0 ∧ z_6 + (256 * z_13) ≤ rc := by omega
        refine g_iconst E dX1_readMatch_90 ?_
        refine g_istore (lv' := [(6, .int (iI 0)), (0, .ref rd), (4, .int (iI (z_6 + (256 * z_13)))), (5, .int (iI (4 + z_50)))]) E dX1_readMatch_91 (by decide) rfl ?_
        have L93 : ∀ (fu93 : Nat) (k : Int) (ct : Int) (G : Int → Int), 0 ≤ k ∧ k ≤ 4 + z_50 → ct = rc + k → G = rpk RO rc (z_6 + (256 * z_13)) k.toNat → (4 + z_50 - k) < (fu93 : Int) → GG p l e ({ frames := 3, cells := 0, slots := 0, locals := 67 }) s m args below meth c D vwCl A 7 (QV D vwCl cA A below args s 0 0 (fun (w : va_W) => ∃ (de : Int) (dx : Int) (da : Int) (dc : Int) (DO : Int → Int), (∃ e pm o ln d : Int, mtk (sh F rs) rl h ra tok rc = (e, pm, o, ln, d) ∧ ((e ≠ 0 ∧ dx = e ∧ de = pm) ∨ (e = 0 ∧ dx = 0 ∧ de = re ∧ dc = rc + ln ∧ da = d ∧ DO = rpk RO rc o ln.toNat))) ∧ (ra < da ∧ da ≤ rl ∧ 0 ≤ dc ∧ dc ≤ 256) ∧ iB dx ∧ w = [(rd, .inr (1, [.ref ro, .int (iI de), .int (iI dx), .ref src, .int (iI rs), .int (iI rl), .int (iI da), .int (iI dc)])), (src, aE cA N F), (ro, aE cA 256 DO)])) 0 0 [(rd, .inr (1, [.ref ro, .int (iI ye), .int (iI yx), .ref src, .int (iI rs), .int (iI rl), .int (iI na_50), .int (iI ct)])), (src, aE cA N F), (ro, aE cA 256 G)] [(0, .ref rd), (4, .int (iI (z_6 + (256 * z_13)))), (5, .int (iI (4 + z_50))), (6, .int (iI k))] 93 [] := by
          intro fu93
          induction fu93 with
          | zero => intro k ct G hk hct hG hmu93; exfalso; omega
          | succ fu93 ih93 =>
            intro k ct G hk hct hG hmu93
            refine g_iload E dX1_readMatch_93 3 rfl ?_
            refine g_iload E dX1_readMatch_95 2 rfl ?_
            refine g_icmp_ge (tgt := 122) E dX1_readMatch_97 (by decide) ⟨(by omega), (by omega)⟩ ⟨(by omega), (by omega)⟩ (fun c_97 => ?_) (fun c_97 => ?_)
            · skip
              refine g_return E dX1_readMatch_122 ?_
              exact ⟨ye, yx, na_50, ct, G, ⟨0, -1, z_6 + (256 * z_13), 4 + z_50, na_50, by rw [mtk_0 (by omega) (by rw [← hs6, ← hs13 (by omega)]; omega) w4 w5, ← hs6, ← hs13 (by omega)], Or.inr ⟨rfl, c_86, w2, by omega, rfl, by rw [hG, show k = 4 + z_50 by omega]⟩⟩, by omega, hyx, rfl⟩
            · skip
              refine g_aload_n E dX1_readMatch_100 rfl 0 rfl ?_
              refine g_aload_n E dX1_readMatch_101 rfl 0 rfl ?_
              refine g_getfield E dX1_readMatch_102 0 0 rfl rfl (by decide) iX1 wd_76 rfl rfl ?_
              refine g_aload_n E dX1_readMatch_105 rfl 0 rfl ?_
              refine g_getfield E dX1_readMatch_106 0 7 rfl rfl (by decide) iX1 wd_77 rfl rfl ?_
              refine g_iload E dX1_readMatch_109 1 rfl ?_
              refine g_isub E dX1_readMatch_111 ?_
              refine g_iaload E dX1_readMatch_112 2 rfl (by omega) (by omega) (by omega) ?_
              refine g_callVv (n := 1) (As := [.int (iI (G (ct - (z_6 + (256 * z_13)))))]) (rest := []) (wr := [(src, aE cA N F)]) E dX1_readMatch_113 (c_X1_putOut l D cA rd ro src ye yx rs rl na_50 ct G (G (ct - (z_6 + (256 * z_13)))) (by omega)) wd_code_X1_putOut wd_86 wd_87 wd_88 wd_89 (by decide +kernel) ⟨⟨rfl, rfl⟩, ⟨(Nat.le_of_ble_eq_true rfl), (Nat.le_of_ble_eq_true rfl)⟩, ⟨(Nat.le_of_ble_eq_true rfl), (Nat.le_of_ble_eq_true rfl)⟩⟩ [0, 2] [1] rfl rfl (by decide) 0 rfl rfl rfl rfl (Nat.le_of_ble_eq_true rfl) (fun w_113 hw_113 => ?_)
              subst hw_113
              refine GG.wss (ws' := [(rd, .inr (1, [.ref ro, .int (iI ye), .int (iI yx), .ref src, .int (iI rs), .int (iI rl), .int (iI na_50), .int (iI (ct + 1))])), (src, aE cA N F), (ro, aE cA 256 (up G ct (G (ct - (z_6 + (256 * z_13))))))]) [1, 0, 2] (by decide) rfl ?_
              refine g_iinc (lv' := [(6, .int (iI (k + 1))), (0, .ref rd), (4, .int (iI (z_6 + (256 * z_13)))), (5, .int (iI (4 + z_50)))]) E dX1_readMatch_116 3 rfl (by decide) rfl ?_
              refine g_goto (tgt := 93) E dX1_readMatch_119 (by decide) ?_
              refine GG.lvs (lv' := [(0, .ref rd), (4, .int (iI (z_6 + (256 * z_13)))), (5, .int (iI (4 + z_50))), (6, .int (iI (k + 1)))]) [1, 2, 3, 0] rfl ?_
              exact ih93 (k + 1) (ct + 1) (up G ct (G (ct - (z_6 + (256 * z_13))))) (by omega) (by omega) (by rw [hct]; exact rpk_s hk.1 hG) (by omega)
        refine GG.lvs (lv' := [(0, .ref rd), (4, .int (iI (z_6 + (256 * z_13)))), (5, .int (iI (4 + z_50))), (6, .int (iI 0))]) [1, 2, 3, 0] rfl ?_
        exact L93 ((4 + z_50 - 0 : Int).toNat + 1) 0 rc RO (by omega) (by omega) (by rfl) (by omega)
      · skip
        refine g_return E dX1_readMatch_89 ?_
        exact ⟨ye, yx, na_50, rc, RO, ⟨yx, ye, 0, 0, 0, hE2.elim (fun g => absurd g.1 c_86) (fun g => g.2), Or.inl ⟨c_86, rfl, rfl⟩⟩, by omega, hyx, rfl⟩
    refine g_aload_n E dX1_readMatch_56 rfl 1 rfl ?_
    refine g_getfield E dX1_readMatch_57 0 2 rfl rfl (by decide) iX1 wd_66 rfl rfl ?_
    refine g_if_ne (tgt := 82) E dX1_readMatch_60 (by decide) ⟨(by omega), (by omega)⟩ (fun c_60 => ?_) (fun c_60 => ?_)
    · skip
      refine GG.lvs (lv' := [(0, .ref rd), (4, .int (iI (z_6 + (256 * z_13)))), (5, .int (iI (4 + z_50)))]) [1, 4, 0] rfl ?_
      have hj : (nx_50 = 0 ∧ ne_50 = re ∧ xx = 0 ∧ numb (sh F rs) rl h (ra + 2) = some (z_50, na_50) ∧ rc + (4 + z_50) ≤ 256) ∨ (nx_50 ≠ 0 ∧ mtk (sh F rs) rl h ra tok rc = (nx_50, ne_50, 0, 0, 0)) := by
        refine Or.inr ⟨c_60, ?_⟩
        by_cases q : xx = 0
        · rw [hxa q] at hp_50
          obtain ⟨g1, g2⟩ : numb (sh F rs) rl h (ra + 2) = none ∧ (nx_50 = 1 ∧ ne_50 = rl) := hp_50.elim (fun g => absurd g.2.1 (by omega)) (fun g => ⟨g.1, by omega⟩)
          rw [mtk_n (by omega) (by rw [← hs6, ← hs13 (by omega)]; omega) g1, g2.1, g2.2]
        · rw [show nx_50 = xx by omega, show ne_50 = xe by omega]
          exact hE.elim (fun g => absurd g.1 q) (fun g => g.2)
      exact L82 ne_50 nx_50 (by exact ⟨by omega, by omega⟩) (by exact hj)
    · skip
      refine g_iload E dX1_readMatch_63 0 rfl ?_
      refine g_sipush E dX1_readMatch_65 (by decide) ?_
      refine g_aload_n E dX1_readMatch_68 rfl 1 rfl ?_
      refine g_getfield E dX1_readMatch_69 0 7 rfl rfl (by decide) iX1 wd_77 rfl rfl ?_
      refine g_isub E dX1_readMatch_72 ?_
      refine g_icmp_le (tgt := 82) E dX1_readMatch_73 (by decide) ⟨(by omega), (by omega)⟩ ⟨(by omega), (by omega)⟩ (fun c_73 => ?_) (fun c_73 => ?_)
      · skip
        refine GG.lvs (lv' := [(0, .ref rd), (4, .int (iI (z_6 + (256 * z_13)))), (5, .int (iI (4 + z_50)))]) [1, 4, 0] rfl ?_
        have hj : (nx_50 = 0 ∧ ne_50 = re ∧ xx = 0 ∧ numb (sh F rs) rl h (ra + 2) = some (z_50, na_50) ∧ rc + (4 + z_50) ≤ 256) ∨ (nx_50 ≠ 0 ∧ mtk (sh F rs) rl h ra tok rc = (nx_50, ne_50, 0, 0, 0)) := by
          have q : xx = 0 := by omega
          rw [hxa q] at hp_50
          exact Or.inl ⟨c_60, by omega, q, hp_50.elim (fun g => g.1) (fun g => absurd g.2 (by omega)), by omega⟩
        exact L82 ne_50 nx_50 (by exact ⟨by omega, by omega⟩) (by exact hj)
      · skip
        refine g_aload_n E dX1_readMatch_76 rfl 1 rfl ?_
        refine g_iconst E dX1_readMatch_77 ?_
        refine g_iload_n E dX1_readMatch_78 rfl 3 rfl ?_
        refine g_callVv (n := 2) (As := [.int (iI 3), .int (iI tok)]) (rest := []) (wr := [(src, aE cA N F), (ro, aE cA 256 RO)]) E dX1_readMatch_79 (c_X1_fail l D cA rd ro src ne_50 nx_50 rs rl na_50 rc 3 tok (by omega)) wd_code_X1_fail wd_72 wd_73 wd_74 wd_75 (by decide +kernel) ⟨⟨rfl, rfl⟩, ⟨(Nat.le_of_ble_eq_true rfl), (Nat.le_of_ble_eq_true rfl)⟩, ⟨(Nat.le_of_ble_eq_true rfl), (Nat.le_of_ble_eq_true rfl)⟩⟩ [0] [1, 2] rfl rfl (by decide) 0 rfl rfl rfl rfl (Nat.le_of_ble_eq_true rfl) (fun w_79 hw_79 => ?_)
        obtain ⟨fe_79, fx_79, hf_79, rfl⟩ := hw_79
        refine GG.wss (ws' := [(rd, .inr (1, [.ref ro, .int (iI fe_79), .int (iI fx_79), .ref src, .int (iI rs), .int (iI rl), .int (iI na_50), .int (iI rc)])), (src, aE cA N F), (ro, aE cA 256 RO)]) [2, 0, 1] (by decide) rfl ?_
        refine GG.lvs (lv' := [(0, .ref rd), (4, .int (iI (z_6 + (256 * z_13)))), (5, .int (iI (4 + z_50)))]) [1, 4, 0] rfl ?_
        have hj : (fx_79 = 0 ∧ fe_79 = re ∧ xx = 0 ∧ numb (sh F rs) rl h (ra + 2) = some (z_50, na_50) ∧ rc + (4 + z_50) ≤ 256) ∨ (fx_79 ≠ 0 ∧ mtk (sh F rs) rl h ra tok rc = (fx_79, fe_79, 0, 0, 0)) := by
          have q : xx = 0 := by omega
          rw [hxa q] at hp_50
          have g1 : numb (sh F rs) rl h (ra + 2) = some (z_50, na_50) := hp_50.elim (fun g => g.1) (fun g => absurd g.2 (by omega))
          exact Or.inr ⟨by omega, by rw [mtk_3 (by omega) (by rw [← hs6, ← hs13 (by omega)]; omega) g1 (by omega), show fx_79 = 3 by omega, show fe_79 = tok by omega]⟩
        exact L82 fe_79 fx_79 (by exact ⟨by omega, by omega⟩) (by exact hj)
  refine g_aload_n E dX1_readMatch_20 rfl 2 rfl ?_
  refine g_getfield E dX1_readMatch_21 0 2 rfl rfl (by decide) iX1 wd_66 rfl rfl ?_
  refine g_if_ne (tgt := 47) E dX1_readMatch_24 (by decide) ⟨(by omega), (by omega)⟩ (fun c_24 => ?_) (fun c_24 => ?_)
  · skip
    refine GG.lvs (lv' := [(0, .ref rd), (1, .int (iI h)), (2, .int (iI tok)), (4, .int (iI (z_6 + (256 * z_13))))]) [2, 3, 4, 0] rfl ?_
    exact L47 fe_13 fx_13 (by exact ⟨by omega, by omega⟩) (by first | exact Or.inl ⟨by omega, by omega, by omega, by omega, by omega⟩ | exact Or.inr ⟨by omega, by rw [mtk_1 (by omega), show fx_13 = 1 by omega, show fe_13 = rl by omega]⟩ | exact Or.inr ⟨by omega, by rw [mtk_2 (by omega) (by rw [← hs6, ← hs13 (by omega)]; omega), show fx_44 = 2 by omega, show fe_44 = ra by omega]⟩)
  · skip
    refine g_iload E dX1_readMatch_27 0 rfl ?_
    refine g_if_eq (tgt := 41) E dX1_readMatch_29 (by decide) ⟨(by omega), (by omega)⟩ (fun c_29 => ?_) (fun c_29 => ?_)
    · skip
      refine g_aload_n E dX1_readMatch_41 rfl 2 rfl ?_
      refine g_iconst E dX1_readMatch_42 ?_
      refine g_iload_n E dX1_readMatch_43 rfl 1 rfl ?_
      refine g_callVv (n := 2) (As := [.int (iI 2), .int (iI ra)]) (rest := []) (wr := [(src, aE cA N F), (ro, aE cA 256 RO)]) E dX1_readMatch_44 (c_X1_fail l D cA rd ro src fe_13 fx_13 rs rl fa_13 rc 2 ra (by omega)) wd_code_X1_fail wd_72 wd_73 wd_74 wd_75 (by decide +kernel) ⟨⟨rfl, rfl⟩, ⟨(Nat.le_of_ble_eq_true rfl), (Nat.le_of_ble_eq_true rfl)⟩, ⟨(Nat.le_of_ble_eq_true rfl), (Nat.le_of_ble_eq_true rfl)⟩⟩ [0] [1, 2] rfl rfl (by decide) 0 rfl rfl rfl rfl (Nat.le_of_ble_eq_true rfl) (fun w_44 hw_44 => ?_)
      obtain ⟨fe_44, fx_44, hf_44, rfl⟩ := hw_44
      refine GG.wss (ws' := [(rd, .inr (1, [.ref ro, .int (iI fe_44), .int (iI fx_44), .ref src, .int (iI rs), .int (iI rl), .int (iI fa_13), .int (iI rc)])), (src, aE cA N F), (ro, aE cA 256 RO)]) [2, 0, 1] (by decide) rfl ?_
      refine GG.lvs (lv' := [(0, .ref rd), (1, .int (iI h)), (2, .int (iI tok)), (4, .int (iI (z_6 + (256 * z_13))))]) [2, 3, 4, 0] rfl ?_
      exact L47 fe_44 fx_44 (by exact ⟨by omega, by omega⟩) (by first | exact Or.inl ⟨by omega, by omega, by omega, by omega, by omega⟩ | exact Or.inr ⟨by omega, by rw [mtk_1 (by omega), show fx_13 = 1 by omega, show fe_13 = rl by omega]⟩ | exact Or.inr ⟨by omega, by rw [mtk_2 (by omega) (by rw [← hs6, ← hs13 (by omega)]; omega), show fx_44 = 2 by omega, show fe_44 = ra by omega]⟩)
    · skip
      refine g_iload E dX1_readMatch_32 0 rfl ?_
      refine g_aload_n E dX1_readMatch_34 rfl 2 rfl ?_
      refine g_getfield E dX1_readMatch_35 0 7 rfl rfl (by decide) iX1 wd_77 rfl rfl ?_
      refine g_icmp_le (tgt := 47) E dX1_readMatch_38 (by decide) ⟨(by omega), (by omega)⟩ ⟨(by omega), (by omega)⟩ (fun c_38 => ?_) (fun c_38 => ?_)
      · skip
        refine GG.lvs (lv' := [(0, .ref rd), (1, .int (iI h)), (2, .int (iI tok)), (4, .int (iI (z_6 + (256 * z_13))))]) [2, 3, 4, 0] rfl ?_
        exact L47 fe_13 fx_13 (by exact ⟨by omega, by omega⟩) (by first | exact Or.inl ⟨by omega, by omega, by omega, by omega, by omega⟩ | exact Or.inr ⟨by omega, by rw [mtk_1 (by omega), show fx_13 = 1 by omega, show fe_13 = rl by omega]⟩ | exact Or.inr ⟨by omega, by rw [mtk_2 (by omega) (by rw [← hs6, ← hs13 (by omega)]; omega), show fx_44 = 2 by omega, show fe_44 = ra by omega]⟩)
      · skip
        refine g_aload_n E dX1_readMatch_41 rfl 2 rfl ?_
        refine g_iconst E dX1_readMatch_42 ?_
        refine g_iload_n E dX1_readMatch_43 rfl 1 rfl ?_
        refine g_callVv (n := 2) (As := [.int (iI 2), .int (iI ra)]) (rest := []) (wr := [(src, aE cA N F), (ro, aE cA 256 RO)]) E dX1_readMatch_44 (c_X1_fail l D cA rd ro src fe_13 fx_13 rs rl fa_13 rc 2 ra (by omega)) wd_code_X1_fail wd_72 wd_73 wd_74 wd_75 (by decide +kernel) ⟨⟨rfl, rfl⟩, ⟨(Nat.le_of_ble_eq_true rfl), (Nat.le_of_ble_eq_true rfl)⟩, ⟨(Nat.le_of_ble_eq_true rfl), (Nat.le_of_ble_eq_true rfl)⟩⟩ [0] [1, 2] rfl rfl (by decide) 0 rfl rfl rfl rfl (Nat.le_of_ble_eq_true rfl) (fun w_44 hw_44 => ?_)
        obtain ⟨fe_44, fx_44, hf_44, rfl⟩ := hw_44
        refine GG.wss (ws' := [(rd, .inr (1, [.ref ro, .int (iI fe_44), .int (iI fx_44), .ref src, .int (iI rs), .int (iI rl), .int (iI fa_13), .int (iI rc)])), (src, aE cA N F), (ro, aE cA 256 RO)]) [2, 0, 1] (by decide) rfl ?_
        refine GG.lvs (lv' := [(0, .ref rd), (1, .int (iI h)), (2, .int (iI tok)), (4, .int (iI (z_6 + (256 * z_13))))]) [2, 3, 4, 0] rfl ?_
        exact L47 fe_44 fx_44 (by exact ⟨by omega, by omega⟩) (by first | exact Or.inl ⟨by omega, by omega, by omega, by omega, by omega⟩ | exact Or.inr ⟨by omega, by rw [mtk_1 (by omega), show fx_13 = 1 by omega, show fe_13 = rl by omega]⟩ | exact Or.inr ⟨by omega, by rw [mtk_2 (by omega) (by rw [← hs6, ← hs13 (by omega)]; omega), show fx_44 = 2 by omega, show fe_44 = ra by omega]⟩)
