theorem wd_400 : Cond.classLink RL 7 RX3 ∈ UW := uw (by decide +kernel) rfl
theorem wd_401 : Cond.instantiable RX3 9 ∈ UW := uw (by decide +kernel) rfl
theorem wd_402 : Cond.initialized RX3 ∈ UW := uw (by decide +kernel) rfl
theorem wd_403 : Cond.methodLink RL 9 yL_cell ∈ UW := uw (by decide +kernel) rfl
theorem wd_404 : Cond.static yL_cell ∈ UW := uw (by decide +kernel) rfl
theorem wd_405 : Cond.initialized yL_cell.cls ∈ UW := uw (by decide +kernel) rfl
theorem wd_406 : Cond.methodLink RL 15 yX3_init ∈ UW := uw (by decide +kernel) rfl
theorem wd_407 : Cond.instanceMethod yX3_init ∈ UW := uw (by decide +kernel) rfl
theorem wd_408 : Cond.initialized yX3_init.cls ∈ UW := uw (by decide +kernel) rfl
theorem wd_409 : Cond.classLink RL 18 RX4 ∈ UW := uw (by decide +kernel) rfl
theorem wd_410 : Cond.instantiable RX4 17 ∈ UW := uw (by decide +kernel) rfl
theorem wd_411 : Cond.initialized RX4 ∈ UW := uw (by decide +kernel) rfl
theorem wd_412 : Cond.methodLink RL 20 yX4_init ∈ UW := uw (by decide +kernel) rfl
theorem wd_413 : Cond.instanceMethod yX4_init ∈ UW := uw (by decide +kernel) rfl
theorem wd_414 : Cond.initialized yX4_init.cls ∈ UW := uw (by decide +kernel) rfl
set_option maxHeartbeats 8000000 in
set_option maxRecDepth 100000 in
/-- THE LAW'S LOOP -/
theorem law_loop {p : Program} {l : Launch} {e : Env} {s : State} {m : MethodId} {below : List Frame} {meth : Method} {c : Code} {D : va_G} {cA : ClassId} {b L : Nat} {xs : Nat → Int32} (hL : L ≤ 2049) (E : Am p m meth c code 4 ret s #[Value.ref b] RL D vwCl cA (fun q : Nat => s.heap.size ≤ q)) (X : ScX b L xs (fun q : Nat => s.heap.size ≤ q) s) {x bu ki sa sto pk rd ta bya ss zz od po ro y mb ms mm mf mz mt mp mq mo cap : Nat} (hcap : cap ≤ 4096) : ∀ (fu : Nat) (i : Int) (tn : Int) (tp : Int) (ns : Int) (B : Int → Int) (K : Int → Int) (Sm : Int → Int) (St : Int → Int) (S : Int → Int) (Z : Int → Int) (O : Int → Int) (Mk : Int → Int) (TA : Int → Int) (pn : Int) (pb : Int) (pl : Int) (PO : Int → Int) (re : Int) (rx : Int) (rs : Int) (rl : Int) (ra : Int) (rc : Int) (src : Nat) (RO : Int → Int) (mn : Int) (mi : Int) (ma : Int) (mu : Int) (mw : Int) (PM : Int → Int) (IN : Int → Int) (RM : Int → Int), 1 ≤ i → i ≤ (L : Int) + 4 → (L : Int) + 8 - i < (fu : Int) → Inv (cap : Int) ns tn S Z O Mk K B St Sm TA → GG p l e room_1 s m #[Value.ref b] below meth c D vwCl (fun q : Nat => s.heap.size ≤ q) 4 (lw_Z below #[Value.ref b] s) 600000 7302250 [(x, .inr (3, [.ref bu, .ref ki, .ref sa, .ref sto, .ref pk, .ref rd, .ref ta, .int (iI tn), .int (iI tp)])), (bu, aE cA 256 B), (ki, aE cA 32 K), (sa, aE cA 32 Sm), (pk, .inr (0, [.ref po, .int (iI pn), .int (iI pb), .int (iI pl)])), (po, aE cA 258 PO), (rd, .inr (1, [.ref ro, .int (iI re), .int (iI rx), .ref src, .int (iI rs), .int (iI rl), .int (iI ra), .int (iI rc)])), (ro, aE cA 256 RO), (ta, aE cA 600 TA), (sto, .inr (2, [.ref bya, .ref ss, .ref zz, .ref od, .int (iI ns)])), (ss, aE cA 32 S), (zz, aE cA 32 Z), (od, aE cA 32 O), (bya, aE cA cap St), (y, .inr (4, [.int (iI (cap : Int)), .ref mb, .ref ms, .ref mm, .ref mf, .ref mz, .int (iI tn), .ref mt, .int (iI tp), .int (iI mn), .ref mp, .int (iI mi), .ref mq, .int (iI ma), .int (iI mu), .ref mo, .int (iI mw)])), (mb, aE cA 256 B), (ms, aE cA 4096 St), (mm, aE cA 4096 Mk), (mf, aE cA 32 K), (mz, aE cA 32 Sm), (mt, aE cA 600 TA), (mp, aE cA 600 PM), (mq, aE cA 600 IN), (mo, aE cA 256 RM)] [(0, .ref b), (1, .ref x), (2, .ref y), (3, .int (iI i))] 28 [] := by
  intro fu
  induction fu with
  | zero => intro i tn tp ns B K Sm St S Z O Mk TA pn pb pl PO re rx rs rl ra rc src RO mn mi ma mu mw PM IN RM h1 h2 h3; exfalso; omega
  | succ fu ih =>
    intro i tn tp ns B K Sm St S Z O Mk TA pn pb pl PO re rx rs rl ra rc src RO mn mi ma mu mw PM IN RM h1 h2 h3 hI
    refine g_iload_n E dL_law_28 rfl 3 rfl ?_
    refine g_aload_n E dL_law_29 rfl 0 rfl ?_
    refine g_slen E X dL_law_30 ?_
    refine g_iconst E dL_law_31 ?_
    refine g_isub E dL_law_32 ?_
    refine g_icmp_gt (tgt := 517) E dL_law_33 (by decide) ⟨by omega, by omega⟩ ⟨by omega, by omega⟩ (fun c_33 => ?_) (fun c_33 => ?_)
    · refine g_iconst E dL_law_517 ?_
      exact g_lawend E dL_law_518
    · have hi : 1 ≤ i ∧ i + 4 ≤ (L : Int) := by omega
      have K511 : ∀ (tn : Int) (tp : Int) (ns : Int) (B : Int → Int) (K : Int → Int) (Sm : Int → Int) (St : Int → Int) (S : Int → Int) (Z : Int → Int) (O : Int → Int) (Mk : Int → Int) (TA : Int → Int) (pn : Int) (pb : Int) (pl : Int) (PO : Int → Int) (re : Int) (rx : Int) (rs : Int) (rl : Int) (ra : Int) (rc : Int) (src : Nat) (RO : Int → Int) (mn : Int) (mi : Int) (ma : Int) (mu : Int) (mw : Int) (PM : Int → Int) (IN : Int → Int) (RM : Int → Int), Inv (cap : Int) ns tn S Z O Mk K B St Sm TA → GG p l e room_1 s m #[Value.ref b] below meth c D vwCl (fun q : Nat => s.heap.size ≤ q) 4 (lw_Z below #[Value.ref b] s) 600000 7302250 [(x, .inr (3, [.ref bu, .ref ki, .ref sa, .ref sto, .ref pk, .ref rd, .ref ta, .int (iI tn), .int (iI tp)])), (bu, aE cA 256 B), (ki, aE cA 32 K), (sa, aE cA 32 Sm), (pk, .inr (0, [.ref po, .int (iI pn), .int (iI pb), .int (iI pl)])), (po, aE cA 258 PO), (rd, .inr (1, [.ref ro, .int (iI re), .int (iI rx), .ref src, .int (iI rs), .int (iI rl), .int (iI ra), .int (iI rc)])), (ro, aE cA 256 RO), (ta, aE cA 600 TA), (sto, .inr (2, [.ref bya, .ref ss, .ref zz, .ref od, .int (iI ns)])), (ss, aE cA 32 S), (zz, aE cA 32 Z), (od, aE cA 32 O), (bya, aE cA cap St), (y, .inr (4, [.int (iI (cap : Int)), .ref mb, .ref ms, .ref mm, .ref mf, .ref mz, .int (iI tn), .ref mt, .int (iI tp), .int (iI mn), .ref mp, .int (iI mi), .ref mq, .int (iI ma), .int (iI mu), .ref mo, .int (iI mw)])), (mb, aE cA 256 B), (ms, aE cA 4096 St), (mm, aE cA 4096 Mk), (mf, aE cA 32 K), (mz, aE cA 32 Sm), (mt, aE cA 600 TA), (mp, aE cA 600 PM), (mq, aE cA 600 IN), (mo, aE cA 256 RM)] [(0, .ref b), (1, .ref x), (2, .ref y), (3, .int (iI i))] 511 [] := by
        intro tn tp ns B K Sm St S Z O Mk TA pn pb pl PO re rx rs rl ra rc src RO mn mi ma mu mw PM IN RM hI
        refine g_iinc (lv' := [(3, .int (iI (i + 4))), (0, .ref b), (1, .ref x), (2, .ref y)]) E dL_law_511 3 rfl (by decide) rfl ?_
        refine g_goto (tgt := 28) E dL_law_514 (by decide) ?_
        refine GG.lvs (lv' := [(0, .ref b), (1, .ref x), (2, .ref y), (3, .int (iI (i + 4)))]) [1, 2, 3, 0] rfl ?_
        exact ih (i + 4) tn tp ns B K Sm St S Z O Mk TA pn pb pl PO re rx rs rl ra rc src RO mn mi ma mu mw PM IN RM (by omega) (by omega) (by omega) hI
      refine g_aload_n E dL_law_36 rfl 0 rfl ?_
      refine g_iload_n E dL_law_37 rfl 3 rfl ?_
      refine g_sld E X dL_law_38 (by omega) (by omega) (by omega) ?_
      refine g_bipush E dL_law_39 (by decide) ?_
      refine g_iand15 E dL_law_41 ?_
      by_cases sw0 : xz xs i % 16 = 0
      · refine g_tsIn (tgt := 116) E dL_law_42 ⟨by omega, by omega⟩ (by omega) (by omega) (by rw [sw0]; rfl) (by decide) ?_
        exact lc_fill hL E X hcap i hi K511 tn tp ns B K Sm St S Z O Mk TA pn pb pl PO re rx rs rl ra rc src RO mn mi ma mu mw PM IN RM hI
      by_cases sw1 : xz xs i % 16 = 1
      · refine g_tsIn (tgt := 149) E dL_law_42 ⟨by omega, by omega⟩ (by omega) (by omega) (by rw [sw1]; rfl) (by decide) ?_
        exact lc_run hL E X hcap i hi K511 tn tp ns B K Sm St S Z O Mk TA pn pb pl PO re rx rs rl ra rc src RO mn mi ma mu mw PM IN RM hI
      by_cases sw2 : xz xs i % 16 = 2
      · refine g_tsIn (tgt := 192) E dL_law_42 ⟨by omega, by omega⟩ (by omega) (by omega) (by rw [sw2]; rfl) (by decide) ?_
        exact lc_copy hL E X hcap i hi K511 tn tp ns B K Sm St S Z O Mk TA pn pb pl PO re rx rs rl ra rc src RO mn mi ma mu mw PM IN RM hI
      by_cases sw3 : xz xs i % 16 = 3
      · refine g_tsIn (tgt := 235) E dL_law_42 ⟨by omega, by omega⟩ (by omega) (by omega) (by rw [sw3]; rfl) (by decide) ?_
        exact lc_octet hL E X hcap i hi K511 tn tp ns B K Sm St S Z O Mk TA pn pb pl PO re rx rs rl ra rc src RO mn mi ma mu mw PM IN RM hI
      by_cases sw4 : xz xs i % 16 = 4
      · refine g_tsIn (tgt := 258) E dL_law_42 ⟨by omega, by omega⟩ (by omega) (by omega) (by rw [sw4]; rfl) (by decide) ?_
        exact lc_write hL E X hcap i hi K511 tn tp ns B K Sm St S Z O Mk TA pn pb pl PO re rx rs rl ra rc src RO mn mi ma mu mw PM IN RM hI
      by_cases sw5 : xz xs i % 16 = 5
      · refine g_tsIn (tgt := 281) E dL_law_42 ⟨by omega, by omega⟩ (by omega) (by omega) (by rw [sw5]; rfl) (by decide) ?_
        exact lc_read hL E X hcap i hi K511 tn tp ns B K Sm St S Z O Mk TA pn pb pl PO re rx rs rl ra rc src RO mn mi ma mu mw PM IN RM hI
      by_cases sw6 : xz xs i % 16 = 6
      · refine g_tsIn (tgt := 304) E dL_law_42 ⟨by omega, by omega⟩ (by omega) (by omega) (by rw [sw6]; rfl) (by decide) ?_
        exact lc_trim hL E X hcap i hi K511 tn tp ns B K Sm St S Z O Mk TA pn pb pl PO re rx rs rl ra rc src RO mn mi ma mu mw PM IN RM hI
      by_cases sw7 : xz xs i % 16 = 7
      · refine g_tsIn (tgt := 327) E dL_law_42 ⟨by omega, by omega⟩ (by omega) (by omega) (by rw [sw7]; rfl) (by decide) ?_
        exact lc_slot hL E X hcap i hi K511 tn tp ns B K Sm St S Z O Mk TA pn pb pl PO re rx rs rl ra rc src RO mn mi ma mu mw PM IN RM hI
      by_cases sw8 : xz xs i % 16 = 8
      · refine g_tsIn (tgt := 360) E dL_law_42 ⟨by omega, by omega⟩ (by omega) (by omega) (by rw [sw8]; rfl) (by decide) ?_
        exact lc_stored hL E X hcap i hi K511 tn tp ns B K Sm St S Z O Mk TA pn pb pl PO re rx rs rl ra rc src RO mn mi ma mu mw PM IN RM hI
      by_cases sw9 : xz xs i % 16 = 9
      · refine g_tsIn (tgt := 383) E dL_law_42 ⟨by omega, by omega⟩ (by omega) (by omega) (by rw [sw9]; rfl) (by decide) ?_
        exact lc_alter hL E X hcap i hi K511 tn tp ns B K Sm St S Z O Mk TA pn pb pl PO re rx rs rl ra rc src RO mn mi ma mu mw PM IN RM hI
      by_cases sw10 : xz xs i % 16 = 10
      · refine g_tsIn (tgt := 416) E dL_law_42 ⟨by omega, by omega⟩ (by omega) (by omega) (by rw [sw10]; rfl) (by decide) ?_
        exact lc_compact hL E X hcap i hi K511 tn tp ns B K Sm St S Z O Mk TA pn pb pl PO re rx rs rl ra rc src RO mn mi ma mu mw PM IN RM hI
      by_cases sw11 : xz xs i % 16 = 11
      · refine g_tsIn (tgt := 429) E dL_law_42 ⟨by omega, by omega⟩ (by omega) (by omega) (by rw [sw11]; rfl) (by decide) ?_
        exact lc_free hL E X hcap i hi K511 tn tp ns B K Sm St S Z O Mk TA pn pb pl PO re rx rs rl ra rc src RO mn mi ma mu mw PM IN RM hI
      by_cases sw12 : xz xs i % 16 = 12
      · refine g_tsIn (tgt := 452) E dL_law_42 ⟨by omega, by omega⟩ (by omega) (by omega) (by rw [sw12]; rfl) (by decide) ?_
        exact lc_type hL E X hcap i hi K511 tn tp ns B K Sm St S Z O Mk TA pn pb pl PO re rx rs rl ra rc src RO mn mi ma mu mw PM IN RM hI
      by_cases sw13 : xz xs i % 16 = 13
      · refine g_tsIn (tgt := 485) E dL_law_42 ⟨by omega, by omega⟩ (by omega) (by omega) (by rw [sw13]; rfl) (by decide) ?_
        exact lc_decode hL E X hcap i hi K511 tn tp ns B K Sm St S Z O Mk TA pn pb pl PO re rx rs rl ra rc src RO mn mi ma mu mw PM IN RM hI
      by_cases sw14 : xz xs i % 16 = 14
      · refine g_tsIn (tgt := 498) E dL_law_42 ⟨by omega, by omega⟩ (by omega) (by omega) (by rw [sw14]; rfl) (by decide) ?_
        exact lc_place hL E X hcap i hi K511 tn tp ns B K Sm St S Z O Mk TA pn pb pl PO re rx rs rl ra rc src RO mn mi ma mu mw PM IN RM hI
      refine g_tsOut (tgt := 511) E dL_law_42 ⟨by omega, by omega⟩ (by omega) (by decide) ?_
      exact K511 tn tp ns B K Sm St S Z O Mk TA pn pb pl PO re rx rs rl ra rc src RO mn mi ma mu mw PM IN RM hI
set_option maxHeartbeats 8000000 in
set_option maxRecDepth 100000 in
/-- THE LAW, from its entry -/
theorem whole_start {p : Program} {e : Env} {s : State} {m : MethodId} {below : List Frame} {meth : Method} {c : Code} (l : Launch) {b L : Nat} {xs : Nat → Int32} (hL : L ≤ 2049) (C0 : lw_At p s m meth c b L xs) : W p l e room_1 s m #[Value.ref b] below meth c s.heap [] 0 0 (lw_Z below #[Value.ref b] s) (entryFrame m ([Value.ref b] : List Value).toArray 4) := by
  obtain ⟨hx, hb, hr, hml, hown, hts, hX, hbl, hlocks, hgv⟩ := id C0
  have hUW : ∀ w ∈ UW, w.before #[Value.ref b] s = true := fun w h => hts w (uw_lw w h)
  obtain ⟨c0, iS0, hKn0⟩ := u_known (C := RX0) (T := TX0) (N := 4) (n := 4) hUW iX0 (hts (.instantiable RX0 4) (by decide +kernel))
  obtain ⟨c1, iS1, hKn1⟩ := u_known (C := RX1) (T := TX1) (N := 8) (n := 8) hUW iX1 (hts (.instantiable RX1 8) (by decide +kernel))
  obtain ⟨c2, iS2, hKn2⟩ := u_known (C := RX2) (T := TX2) (N := 5) (n := 5) hUW iX2 (hts (.instantiable RX2 5) (by decide +kernel))
  obtain ⟨c3, iS3, hKn3⟩ := u_known (C := RX3) (T := TX3) (N := 9) (n := 9) hUW iX3 (hts (.instantiable RX3 9) (by decide +kernel))
  obtain ⟨c4, iS4, hKn4⟩ := u_known (C := RX4) (T := TX4) (N := 17) (n := 17) hUW iX4 (hts (.instantiable RX4 17) (by decide +kernel))
  obtain ⟨dC, dI, hKc⟩ : ∃ (dC : Nat → ClassId) (dI : Nat → Nat → Nat), ∀ (k : Nat) (q : vw_C), vwCl[k]? = some q → u_Kn s q.1 q.2.1 q.2.2 (dC k) (dI k) := by
    refine ⟨fun k => if k = 0 then c0 else if k = 1 then c1 else if k = 2 then c2 else if k = 3 then c3 else c4, fun k => if k = 0 then iS0 else if k = 1 then iS1 else if k = 2 then iS2 else if k = 3 then iS3 else iS4, ?_⟩
    intro k q hq
    match k, hq with
    | 0, hq => cases hq; exact hKn0
    | 1, hq => cases hq; exact hKn1
    | 2, hq => cases hq; exact hKn2
    | 3, hq => cases hq; exact hKn3
    | 4, hq => cases hq; exact hKn4
    | k + 5, hq => simp [vwCl] at hq
  obtain ⟨cA, kA, comp, f1, f2, f3⟩ := Cond.arrayClass_spec (hts (.arrayClass .int) (by decide +kernel))
  have hK : va_K (dC, dI) vwCl [(cA, .int)] s := ⟨hKc, fun k q h => by
    match k, h with
    | 0, h => cases h; exact ⟨fun n z => ⟨fun k h => (by cases h), kA, f2, comp, f3⟩, f1⟩
    | k + 1, h => simp at h⟩
  have E : Am p m meth c code 4 ret s #[Value.ref b] RL (dC, dI) vwCl cA (fun q : Nat => s.heap.size ≤ q) := ⟨hx, hb, hml, hown, hUW, hK, fun _ h => h, hr, hlocks⟩
  have X : ScX b L xs (fun q : Nat => s.heap.size ≤ q) s := ⟨hX, hbl, Nat.not_le.mpr hbl⟩
  have hNw : nwX s := ⟨va_Nw.of rfl (hts (.methodLinkNest RX3 21 yX0_init "PackedSlots") (by decide +kernel)), va_Nw.of rfl (hts (.methodLinkNest RX3 28 yX1_init "PackedSlots") (by decide +kernel))⟩
  have hl := lv_entry ([.ref b]) (n := 4) (Nat.le_of_ble_eq_true rfl)
  rw [lg_entry_eq]
  have G : GG p l e room_1 s m #[Value.ref b] below meth c (dC, dI) vwCl (fun q : Nat => s.heap.size ≤ q) 4 (lw_Z below #[Value.ref b] s) 0 0 [] (lv_args 0 [.ref b]) 0 [] := by
    refine GG.lvs (lv' := [(0, .ref b)]) [0] rfl ?_
    refine g_new (ci := 3) (fs := [.null, .null, .null, .null, .null, .null, .null, .int (iI 0), .int (iI 0)]) E dL_law_0 rfl iX3 tyX3 tyX3_ok wd_400 wd_401 wd_402 (by decide +kernel) (Nat.le_of_ble_eq_true rfl) (Nat.le_of_ble_eq_true rfl) (fun x => ?_)
    refine GG.wss (ws' := [(x, .inr (3, [.null, .null, .null, .null, .null, .null, .null, .int (iI 0), .int (iI 0)]))]) [0] (by decide) rfl ?_
    refine g_dup E dL_law_3 rfl ?_
    refine g_aload_n E dL_law_4 rfl 0 rfl ?_
    refine g_iconst E dL_law_5 ?_
    refine g_callX (n := 2) (As := [.ref b, .int (iI 0)]) (rest := [.ref x, .ref x]) E X dL_law_6 (c_L_cell l (dC, dI) cA b L xs hL 0 (by omega)) wd_code_L_cell wd_403 wd_404 wd_405 (by decide +kernel) ⟨⟨rfl, rfl⟩, ⟨(Nat.le_of_ble_eq_true rfl), (Nat.le_of_ble_eq_true rfl)⟩, ⟨(Nat.le_of_ble_eq_true rfl), (Nat.le_of_ble_eq_true rfl)⟩⟩ rfl rfl (Nat.le_of_ble_eq_true rfl) (fun z_6 hz_6 => ?_) (fun _ _ h => h.2)
    have hzb_6 : iB z_6 := by
      rw [hz_6.1]
      split
      · exact xz_b xs 0
      · exact ⟨by omega, by omega⟩
    refine g_callNI (n := 1) (As := [.int (iI z_6)]) (rest := [.ref x]) (wr := []) E dL_law_9 hNw (c_X3_init l (dC, dI) cA x z_6 hzb_6) wd_code_X3_init wd_406 wd_407 rfl wd_408 (by decide +kernel) ⟨⟨rfl, rfl⟩, ⟨(Nat.le_of_ble_eq_true rfl), (Nat.le_of_ble_eq_true rfl)⟩, ⟨(Nat.le_of_ble_eq_true rfl), (Nat.le_of_ble_eq_true rfl)⟩⟩ [0] [] rfl rfl (by decide) rfl rfl (Nat.le_of_ble_eq_true rfl) (fun w_9 hw_9 => ?_)
    obtain ⟨bu, ki, sa, sto, pk, rd, ta, bya, ss, zz, od, po, ro, rfl⟩ := hw_9
    refine GG.wss (ws' := [(x, .inr (3, [.ref bu, .ref ki, .ref sa, .ref sto, .ref pk, .ref rd, .ref ta, .int (iI 0), .int (iI (-1))])), (bu, aE cA 256 zf), (ki, aE cA 32 zf), (sa, aE cA 32 zf), (pk, .inr (0, [.ref po, .int (iI 0), .int (iI 0), .int (iI 0)])), (po, aE cA 258 zf), (rd, .inr (1, [.ref ro, .int (iI (-1)), .int (iI 0), .ref ro, .int (iI 0), .int (iI 0), .int (iI 0), .int (iI 0)])), (ro, aE cA 256 zf), (ta, aE cA 600 zf), (sto, .inr (2, [.ref bya, .ref ss, .ref zz, .ref od, .int (iI 0)])), (ss, aE cA 32 (rnf zf 0 (32 : Nat) (-1))), (zz, aE cA 32 zf), (od, aE cA 32 zf), (bya, aE cA ((max 0 (min 4096 z_6)).toNat) zf)]) [0, 1, 2, 3, 4, 5, 6, 7, 8, 9, 10, 11, 12, 13] (by decide) rfl ?_
    refine g_astore_n (lv' := [(1, .ref x), (0, .ref b)]) E dL_law_12 rfl (by decide) rfl ?_
    refine g_new (ci := 4) (fs := [.int (iI 0), .null, .null, .null, .null, .null, .int (iI 0), .null, .int (iI 0), .int (iI 0), .null, .int (iI 0), .null, .int (iI 0), .int (iI 0), .null, .int (iI 0)]) E dL_law_13 rfl iX4 tyX4 tyX4_ok wd_409 wd_410 wd_411 (by decide +kernel) (Nat.le_of_ble_eq_true rfl) (Nat.le_of_ble_eq_true rfl) (fun y => ?_)
    refine GG.wss (ws' := [(x, .inr (3, [.ref bu, .ref ki, .ref sa, .ref sto, .ref pk, .ref rd, .ref ta, .int (iI 0), .int (iI (-1))])), (bu, aE cA 256 zf), (ki, aE cA 32 zf), (sa, aE cA 32 zf), (pk, .inr (0, [.ref po, .int (iI 0), .int (iI 0), .int (iI 0)])), (po, aE cA 258 zf), (rd, .inr (1, [.ref ro, .int (iI (-1)), .int (iI 0), .ref ro, .int (iI 0), .int (iI 0), .int (iI 0), .int (iI 0)])), (ro, aE cA 256 zf), (ta, aE cA 600 zf), (sto, .inr (2, [.ref bya, .ref ss, .ref zz, .ref od, .int (iI 0)])), (ss, aE cA 32 (rnf zf 0 (32 : Nat) (-1))), (zz, aE cA 32 zf), (od, aE cA 32 zf), (bya, aE cA ((max 0 (min 4096 z_6)).toNat) zf), (y, .inr (4, [.int (iI 0), .null, .null, .null, .null, .null, .int (iI 0), .null, .int (iI 0), .int (iI 0), .null, .int (iI 0), .null, .int (iI 0), .int (iI 0), .null, .int (iI 0)]))]) [0, 1, 2, 3, 4, 5, 6, 7, 8, 9, 10, 11, 12, 13, 14] (by decide) rfl ?_
    refine g_dup E dL_law_16 rfl ?_
    refine g_aload_n E dL_law_17 rfl 1 rfl ?_
    refine g_iconst E dL_law_18 ?_
    refine g_callX (n := 2) (As := [.ref b, .int (iI 0)]) (rest := [.ref y, .ref y]) E X dL_law_19 (c_L_cell l (dC, dI) cA b L xs hL 0 (by omega)) wd_code_L_cell wd_403 wd_404 wd_405 (by decide +kernel) ⟨⟨rfl, rfl⟩, ⟨(Nat.le_of_ble_eq_true rfl), (Nat.le_of_ble_eq_true rfl)⟩, ⟨(Nat.le_of_ble_eq_true rfl), (Nat.le_of_ble_eq_true rfl)⟩⟩ rfl rfl (Nat.le_of_ble_eq_true rfl) (fun z_19 hz_19 => ?_) (fun _ _ h => h.2)
    have hzb_19 : iB z_19 := by
      rw [hz_19.1]
      split
      · exact xz_b xs 0
      · exact ⟨by omega, by omega⟩
    refine g_callI (n := 1) (As := [.int (iI z_19)]) (rest := [.ref y]) (wr := [(x, .inr (3, [.ref bu, .ref ki, .ref sa, .ref sto, .ref pk, .ref rd, .ref ta, .int (iI 0), .int (iI (-1))])), (bu, aE cA 256 zf), (ki, aE cA 32 zf), (sa, aE cA 32 zf), (pk, .inr (0, [.ref po, .int (iI 0), .int (iI 0), .int (iI 0)])), (po, aE cA 258 zf), (rd, .inr (1, [.ref ro, .int (iI (-1)), .int (iI 0), .ref ro, .int (iI 0), .int (iI 0), .int (iI 0), .int (iI 0)])), (ro, aE cA 256 zf), (ta, aE cA 600 zf), (sto, .inr (2, [.ref bya, .ref ss, .ref zz, .ref od, .int (iI 0)])), (ss, aE cA 32 (rnf zf 0 (32 : Nat) (-1))), (zz, aE cA 32 zf), (od, aE cA 32 zf), (bya, aE cA ((max 0 (min 4096 z_6)).toNat) zf)]) E dL_law_22 (c_X4_init l (dC, dI) cA y z_19 hzb_19) wd_code_X4_init wd_412 wd_413 rfl wd_414 (by decide +kernel) ⟨⟨rfl, rfl⟩, ⟨(Nat.le_of_ble_eq_true rfl), (Nat.le_of_ble_eq_true rfl)⟩, ⟨(Nat.le_of_ble_eq_true rfl), (Nat.le_of_ble_eq_true rfl)⟩⟩ [14] [0, 1, 2, 3, 4, 5, 6, 7, 8, 9, 10, 11, 12, 13] rfl rfl (by decide) rfl rfl (Nat.le_of_ble_eq_true rfl) (fun w_22 hw_22 => ?_)
    obtain ⟨mb, ms, mm, mf, mz, mt, mp, mq, mo, ca, hca, rfl⟩ := hw_22
    have hzz : z_19 = z_6 := by rw [hz_6.1, hz_19.1]
    obtain ⟨cap, hcapE⟩ : ∃ q : Nat, q = (max 0 (min 4096 z_6)).toNat := ⟨_, rfl⟩
    have hcap : cap ≤ 4096 := by omega
    have hcaI : ca = (cap : Int) := by omega
    rw [hcaI, ← hcapE]
    refine GG.wss (ws' := [(x, .inr (3, [.ref bu, .ref ki, .ref sa, .ref sto, .ref pk, .ref rd, .ref ta, .int (iI 0), .int (iI (-1))])), (bu, aE cA 256 zf), (ki, aE cA 32 zf), (sa, aE cA 32 zf), (pk, .inr (0, [.ref po, .int (iI 0), .int (iI 0), .int (iI 0)])), (po, aE cA 258 zf), (rd, .inr (1, [.ref ro, .int (iI (-1)), .int (iI 0), .ref ro, .int (iI 0), .int (iI 0), .int (iI 0), .int (iI 0)])), (ro, aE cA 256 zf), (ta, aE cA 600 zf), (sto, .inr (2, [.ref bya, .ref ss, .ref zz, .ref od, .int (iI 0)])), (ss, aE cA 32 (rnf zf 0 (32 : Nat) (-1))), (zz, aE cA 32 zf), (od, aE cA 32 zf), (bya, aE cA cap zf), (y, .inr (4, [.int (iI (cap : Int)), .ref mb, .ref ms, .ref mm, .ref mf, .ref mz, .int (iI 0), .ref mt, .int (iI (-1)), .int (iI 0), .ref mp, .int (iI 0), .ref mq, .int (iI 0), .int (iI 0), .ref mo, .int (iI 0)])), (mb, aE cA 256 zf), (ms, aE cA 4096 zf), (mm, aE cA 4096 zf), (mf, aE cA 32 zf), (mz, aE cA 32 zf), (mt, aE cA 600 zf), (mp, aE cA 600 zf), (mq, aE cA 600 zf), (mo, aE cA 256 zf)]) [0, 1, 2, 3, 4, 5, 6, 7, 8, 9, 10, 11, 12, 13, 14, 15, 16, 17, 18, 19, 20, 21, 22, 23] (by decide) rfl ?_
    refine g_astore_n (lv' := [(2, .ref y), (1, .ref x), (0, .ref b)]) E dL_law_25 rfl (by decide) rfl ?_
    refine g_iconst E dL_law_26 ?_
    refine g_istore_n (lv' := [(3, .int (iI 1)), (2, .ref y), (1, .ref x), (0, .ref b)]) E dL_law_27 rfl (by decide) rfl ?_
    refine GG.lvs (lv' := [(0, .ref b), (1, .ref x), (2, .ref y), (3, .int (iI 1))]) [3, 2, 1, 0] rfl ?_
    refine GG.widen (k := 600000) (n := 7302250) (Nat.le_of_ble_eq_true rfl) (Nat.le_of_ble_eq_true rfl) ?_
    exact law_loop hL E X hcap (L + 9) 1 _ _ _ _ _ _ _ _ _ _ _ _ _ _ _ _ _ _ _ _ _ _ _ _ _ _ _ _ _ _ _ _ (by omega) (by omega) (by push_cast; omega) (Inv_0 (cap : Int))
  exact G s.heap [] _ (fun k q h => by simp at h) ⟨fun i j p q h => by simp at h, fun k q h => by simp at h⟩ va_S.rf hl
