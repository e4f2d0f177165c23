theorem wd_257 : Cond.methodLink RX0 3 Lib.objectInit ∈ UW := uw (by decide +kernel) rfl
theorem wd_258 : Cond.instanceMethod Lib.objectInit ∈ UW := uw (by decide +kernel) rfl
theorem wd_259 : Cond.arrayClass .int ∈ UW := uw (by decide +kernel) rfl
theorem wd_260 : Cond.methodLink RX1 3 Lib.objectInit ∈ UW := uw (by decide +kernel) rfl
theorem wd_261 : Cond.methodLink RX2 3 Lib.objectInit ∈ UW := uw (by decide +kernel) rfl
theorem wd_262 : Cond.methodLink RX2 28 yJ7_fill_53178 ∈ UW := uw (by decide +kernel) rfl
-- a constructor that a nest mate calls: the link is a word of the state, not of the tables alone
section GGn
variable {p : Program} {l : Launch} {e : Env} {R : Room} {s : State} {m : MethodId} {args : Array Value} {below : List Frame} {meth : Method} {c : Code} {cells slots : Nat} {Q : State → Prop} {cc : ByteArray} {nL : Nat} {ret : Option FieldType} {own : String} {D : va_G} {cl : List vw_C} {cA : ClassId} {A : Nat → Prop} {ws ws' : va_W} {lv lv' : List (Nat × Value)} {pc : Nat} {st rest : List Value}
variable {y : MethodName} {bytes : ByteArray} {maxL n index mc ms b : Nat} {rm : Room} {As : List Value} {WS wr : va_W} {host : String}
theorem g_callIN (E : Am p m meth c cc nL ret s args own D cl cA A) {post : va_W → Prop} (hd : decode cc pc = .ok (.invokespecial index, 3)) (M : Cv l D cl cA y (.code y bytes maxL none :: UW) rm mc ms (.ref b :: As) WS post) (hcode : Cond.code y bytes maxL none ∈ UW) (hlink : va_Nw (.methodLinkNest own index y host) s) (hinst : Cond.instanceMethod y ∈ UW) (hnm : y.name = "<init>") (hini : Cond.initialized y.cls ∈ UW) (hdd : y.cls ≠ "java/lang/invoke/MethodHandle" ∧ y.cls ≠ "java/lang/invoke/VarHandle" ∧ (parseMethodDescriptor y.desc).map (fun d => d.parameters.length) = some n) (hR : (rm.cells = mc ∧ rm.slots = ms) ∧ (rm.frames + 1 ≤ R.frames ∧ 8 + (maxL + 11) + rm.locals ≤ R.locals) ∧ (cells + mc ≤ R.cells ∧ slots + ms ≤ R.slots)) (isC isR : List Nat) (hC : isC.map (fun i => ws[i]?) = WS.map some) (hRr : isR.map (fun i => ws[i]?) = wr.map some) (hn : va_nd isC = true ∧ va_nd isR = true ∧ ∀ i ∈ isR, i ∉ isC) (hlen : As.length = n) (hst : st = As.reverse ++ .ref b :: rest) (hcat : (rest.map fun v => v.category).sum ≤ 8) (K : ∀ ws1 : va_W, post ws1 → GG p l e R s m args below meth c D cl A nL Q (cells + mc) (slots + ms) (wr ++ ws1) lv (pc + 3) rest) : GG p l e R s m args below meth c D cl A nL Q cells slots ws lv pc st := by
  intro H locs ls hP hD hS hl
  subst hst
  have hPc := hP.sub isC (wmap hC)
  have hDc := hD.sub isC hn.1 hC
  have hFc := va_free hD hS E.2.2.2.2.2.2.1 isC hC
  have hK := E.2.2.2.2.2.1
  have hts := E.2.2.2.2.1
  refine va_callv (va_runIN (As := As) (rest := rest) (Ts := UW) ⟨E.1, E.2.1, E.2.2.1, E.2.2.2.1, hts⟩ (M H.size) ⟨va_cnB n hts (uw_goodC hcode (fun _ h => h)) rfl hR.1.1 hR.1.2 hlink (hts _ hini) hdd hR.2.1, hnm, hts _ hinst⟩ ⟨pre_blind, fun U hU hW => ⟨rfl, by rw [hU], by rw [hU]; exact hPc, va_K.moved hW.alike hK, hDc.weaken (fun _ _ _ _ => trivial)⟩⟩ rfl hlen hl.1 rfl (lv_room hcat) hd hR.2.2) hS (fun q _ h => hFc q h) hFc (fun u t H1 locs1 ht hvm hw hB hz1 hk1 hS1 => ?_)
  obtain ⟨hP1, hK1, hD1⟩ := hB
  rw [ht] at hP1
  obtain ⟨hP2, hD2⟩ := va_join hP hD isC isR hC hRr hn.2.1 hn.2.2 hk1 hFc hP1 hD1
  exact K u hw H1 locs1 ls hP2 hD2 hS1 hl
end GGn
set_option maxHeartbeats 4000000 in
set_option maxRecDepth 100000 in
theorem c_X0_init (l : Launch) (D : va_G) (cA : ClassId) (pk : Nat) : Cv l D vwCl cA yX0_init (.code yX0_init cX0_init 1 none :: UW) ({ frames := 1, cells := 1, slots := 258, locals := 12 }) 1 258 [.ref pk] [(pk, .inr (0, [.null, .int (iI 0), .int (iI 0), .int (iI 0)]))] (fun (w : va_W) => ∃ (po : Nat), w = [(pk, .inr (0, [.ref po, .int (iI 0), .int (iI 0), .int (iI 0)])), (po, aE cA 258 zf)]) := by
  refine Cv.mk (by decide) (Nat.le_of_ble_eq_true rfl) ?_
  intro p e s m args below meth c A E hin
  refine GG.lvs (lv' := [(0, .ref pk)]) [0] rfl ?_
  refine g_aload_n E dX0_init_0 rfl 0 rfl ?_
  refine g_objInit E dX0_init_1 wd_257 wd_258 wd_objcode (Nat.le_of_ble_eq_true rfl) (Nat.le_of_ble_eq_true rfl) ?_
  refine g_aload_n E dX0_init_4 rfl 0 rfl ?_
  refine g_sipush E dX0_init_5 (by decide) ?_
  refine g_newarray (n := 258) E dX0_init_8 wd_259 (by decide) rfl (by decide) (Nat.le_of_ble_eq_true rfl) (Nat.le_of_ble_eq_true rfl) (fun q8 => ?_)
  refine GG.wss (ws' := [(pk, .inr (0, [.null, .int (iI 0), .int (iI 0), .int (iI 0)])), (q8, aE cA 258 zf)]) [0, 1] (by decide) rfl ?_
  refine GG.widen (k := 1) (n := 258) (Nat.le_of_ble_eq_true rfl) (Nat.le_of_ble_eq_true rfl) ?_
  refine g_putfinal (ws' := [(pk, .inr (0, [.ref q8, .int (iI 0), .int (iI 0), .int (iI 0)])), (q8, aE cA 258 zf)]) E hin dX0_init_10 0 0 rfl rfl (by decide) iX0 tyX0 tyX0_ok nmX0 wd_24 rfl rfl rfl rfl rfl rfl (Nat.le_of_ble_eq_true rfl) rfl ?_
  refine g_return E dX0_init_13 ?_
  exact ⟨q8, rfl⟩
set_option maxHeartbeats 4000000 in
set_option maxRecDepth 100000 in
theorem c_X1_init (l : Launch) (D : va_G) (cA : ClassId) (rd : Nat) : Cv l D vwCl cA yX1_init (.code yX1_init cX1_init 1 none :: UW) ({ frames := 1, cells := 1, slots := 256, locals := 12 }) 1 256 [.ref rd] [(rd, .inr (1, [.null, .int (iI 0), .int (iI 0), .null, .int (iI 0), .int (iI 0), .int (iI 0), .int (iI 0)]))] (fun (w : va_W) => ∃ (ro : Nat), w = [(rd, .inr (1, [.ref ro, .int (iI (-1)), .int (iI 0), .ref ro, .int (iI 0), .int (iI 0), .int (iI 0), .int (iI 0)])), (ro, aE cA 256 zf)]) := by
  refine Cv.mk (by decide) (Nat.le_of_ble_eq_true rfl) ?_
  intro p e s m args below meth c A E hin
  refine GG.lvs (lv' := [(0, .ref rd)]) [0] rfl ?_
  refine g_aload_n E dX1_init_0 rfl 0 rfl ?_
  refine g_objInit E dX1_init_1 wd_260 wd_258 wd_objcode (Nat.le_of_ble_eq_true rfl) (Nat.le_of_ble_eq_true rfl) ?_
  refine g_aload_n E dX1_init_4 rfl 0 rfl ?_
  refine g_sipush E dX1_init_5 (by decide) ?_
  refine g_newarray (n := 256) E dX1_init_8 wd_259 (by decide) rfl (by decide) (Nat.le_of_ble_eq_true rfl) (Nat.le_of_ble_eq_true rfl) (fun q8 => ?_)
  refine GG.wss (ws' := [(rd, .inr (1, [.null, .int (iI 0), .int (iI 0), .null, .int (iI 0), .int (iI 0), .int (iI 0), .int (iI 0)])), (q8, aE cA 256 zf)]) [0, 1] (by decide) rfl ?_
  refine GG.widen (k := 1) (n := 256) (Nat.le_of_ble_eq_true rfl) (Nat.le_of_ble_eq_true rfl) ?_
  refine g_putfinal (ws' := [(rd, .inr (1, [.ref q8, .int (iI 0), .int (iI 0), .null, .int (iI 0), .int (iI 0), .int (iI 0), .int (iI 0)])), (q8, aE cA 256 zf)]) E hin dX1_init_10 0 0 rfl rfl (by decide) iX1 tyX1 tyX1_ok nmX1 wd_76 rfl rfl rfl rfl rfl rfl (Nat.le_of_ble_eq_true rfl) rfl ?_
  refine g_aload_n E dX1_init_13 rfl 0 rfl ?_
  refine g_iconst E dX1_init_14 ?_
  refine g_putfield (ws' := [(rd, .inr (1, [.ref q8, .int (iI (-1)), .int (iI 0), .null, .int (iI 0), .int (iI 0), .int (iI 0), .int (iI 0)])), (q8, aE cA 256 zf)]) E dX1_init_15 0 1 rfl rfl (by decide) iX1 tyX1 tyX1_ok nmX1 wd_67 rfl rfl rfl rfl rfl (Nat.le_of_ble_eq_true rfl) rfl ?_
  refine g_aload_n E dX1_init_18 rfl 0 rfl ?_
  refine g_iconst E dX1_init_19 ?_
  refine g_putfield (ws' := [(rd, .inr (1, [.ref q8, .int (iI (-1)), .int (iI 0), .null, .int (iI 0), .int (iI 0), .int (iI 0), .int (iI 0)])), (q8, aE cA 256 zf)]) E dX1_init_20 0 2 rfl rfl (by decide) iX1 tyX1 tyX1_ok nmX1 wd_66 rfl rfl rfl rfl rfl (Nat.le_of_ble_eq_true rfl) rfl ?_
  refine g_aload_n E dX1_init_23 rfl 0 rfl ?_
  refine g_aload_n E dX1_init_24 rfl 0 rfl ?_
  refine g_getfield E dX1_init_25 0 0 rfl rfl (by decide) iX1 wd_76 rfl rfl ?_
  refine g_putfield (ws' := [(rd, .inr (1, [.ref q8, .int (iI (-1)), .int (iI 0), .ref q8, .int (iI 0), .int (iI 0), .int (iI 0), .int (iI 0)])), (q8, aE cA 256 zf)]) E dX1_init_28 0 3 rfl rfl (by decide) iX1 tyX1 tyX1_ok nmX1 wd_70 rfl rfl rfl rfl rfl (Nat.le_of_ble_eq_true rfl) rfl ?_
  refine g_aload_n E dX1_init_31 rfl 0 rfl ?_
  refine g_iconst E dX1_init_32 ?_
  refine g_putfield (ws' := [(rd, .inr (1, [.ref q8, .int (iI (-1)), .int (iI 0), .ref q8, .int (iI 0), .int (iI 0), .int (iI 0), .int (iI 0)])), (q8, aE cA 256 zf)]) E dX1_init_33 0 4 rfl rfl (by decide) iX1 tyX1 tyX1_ok nmX1 wd_71 rfl rfl rfl rfl rfl (Nat.le_of_ble_eq_true rfl) rfl ?_
  refine g_aload_n E dX1_init_36 rfl 0 rfl ?_
  refine g_iconst E dX1_init_37 ?_
  refine g_putfield (ws' := [(rd, .inr (1, [.ref q8, .int (iI (-1)), .int (iI 0), .ref q8, .int (iI 0), .int (iI 0), .int (iI 0), .int (iI 0)])), (q8, aE cA 256 zf)]) E dX1_init_38 0 5 rfl rfl (by decide) iX1 tyX1 tyX1_ok nmX1 wd_69 rfl rfl rfl rfl rfl (Nat.le_of_ble_eq_true rfl) rfl ?_
  refine g_aload_n E dX1_init_41 rfl 0 rfl ?_
  refine g_iconst E dX1_init_42 ?_
  refine g_putfield (ws' := [(rd, .inr (1, [.ref q8, .int (iI (-1)), .int (iI 0), .ref q8, .int (iI 0), .int (iI 0), .int (iI 0), .int (iI 0)])), (q8, aE cA 256 zf)]) E dX1_init_43 0 6 rfl rfl (by decide) iX1 tyX1 tyX1_ok nmX1 wd_68 rfl rfl rfl rfl rfl (Nat.le_of_ble_eq_true rfl) rfl ?_
  refine g_aload_n E dX1_init_46 rfl 0 rfl ?_
  refine g_iconst E dX1_init_47 ?_
  refine g_putfield (ws' := [(rd, .inr (1, [.ref q8, .int (iI (-1)), .int (iI 0), .ref q8, .int (iI 0), .int (iI 0), .int (iI 0), .int (iI 0)])), (q8, aE cA 256 zf)]) E dX1_init_48 0 7 rfl rfl (by decide) iX1 tyX1 tyX1_ok nmX1 wd_77 rfl rfl rfl rfl rfl (Nat.le_of_ble_eq_true rfl) rfl ?_
  refine g_return E dX1_init_51 ?_
  exact ⟨q8, rfl⟩
set_option maxHeartbeats 4000000 in
set_option maxRecDepth 100000 in
theorem c_X2_init (l : Launch) (D : va_G) (cA : ClassId) (sto : Nat) (cz0 : Int) (hc : 0 ≤ cz0 ∧ cz0 ≤ 4096) : Cv l D vwCl cA yX2_init (.code yX2_init cX2_init 2 none :: UW) ({ frames := 1, cells := 4, slots := 4192, locals := 23 }) 4 4192 [.ref sto, .int (iI cz0)] [(sto, .inr (2, [.null, .null, .null, .null, .int (iI 0)]))] (fun (w : va_W) => ∃ (bya : Nat) (ss : Nat) (zz : Nat) (od : Nat), w = [(sto, .inr (2, [.ref bya, .ref ss, .ref zz, .ref od, .int (iI 0)])), (ss, aE cA 32 (rnf zf 0 (32 : Nat) (-1))), (zz, aE cA 32 zf), (od, aE cA 32 zf), (bya, aE cA cz0.toNat zf)]) := by
  refine Cv.mk (by decide) (Nat.le_of_ble_eq_true rfl) ?_
  intro p e s m args below meth c A E hin
  refine GG.lvs (lv' := [(0, .ref sto), (1, .int (iI cz0))]) [0, 1] rfl ?_
  refine g_aload_n E dX2_init_0 rfl 0 rfl ?_
  refine g_objInit E dX2_init_1 wd_261 wd_258 wd_objcode (Nat.le_of_ble_eq_true rfl) (Nat.le_of_ble_eq_true rfl) ?_
  refine g_aload_n E dX2_init_4 rfl 0 rfl ?_
  refine g_bipush E dX2_init_5 (by decide) ?_
  refine g_newarray (n := 32) E dX2_init_7 wd_259 (by decide) rfl (by decide) (Nat.le_of_ble_eq_true rfl) (Nat.le_of_ble_eq_true rfl) (fun q7 => ?_)
  refine GG.wss (ws' := [(sto, .inr (2, [.null, .null, .null, .null, .int (iI 0)])), (q7, aE cA 32 zf)]) [0, 1] (by decide) rfl ?_
  refine GG.widen (k := 1) (n := 32) (Nat.le_of_ble_eq_true rfl) (Nat.le_of_ble_eq_true rfl) ?_
  refine g_putfinal (ws' := [(sto, .inr (2, [.null, .ref q7, .null, .null, .int (iI 0)])), (q7, aE cA 32 zf)]) E hin dX2_init_9 0 1 rfl rfl (by decide) iX2 tyX2 tyX2_ok nmX2 wd_158 rfl rfl rfl rfl rfl rfl (Nat.le_of_ble_eq_true rfl) rfl ?_
  refine g_aload_n E dX2_init_12 rfl 0 rfl ?_
  refine g_bipush E dX2_init_13 (by decide) ?_
  refine g_newarray (n := 32) E dX2_init_15 wd_259 (by decide) rfl (by decide) (Nat.le_of_ble_eq_true rfl) (Nat.le_of_ble_eq_true rfl) (fun q15 => ?_)
  refine GG.wss (ws' := [(sto, .inr (2, [.null, .ref q7, .null, .null, .int (iI 0)])), (q7, aE cA 32 zf), (q15, aE cA 32 zf)]) [0, 1, 2] (by decide) rfl ?_
  refine GG.widen (k := 2) (n := 64) (Nat.le_of_ble_eq_true rfl) (Nat.le_of_ble_eq_true rfl) ?_
  refine g_putfinal (ws' := [(sto, .inr (2, [.null, .ref q7, .ref q15, .null, .int (iI 0)])), (q7, aE cA 32 zf), (q15, aE cA 32 zf)]) E hin dX2_init_17 0 2 rfl rfl (by decide) iX2 tyX2 tyX2_ok nmX2 wd_160 rfl rfl rfl rfl rfl rfl (Nat.le_of_ble_eq_true rfl) rfl ?_
  refine g_aload_n E dX2_init_20 rfl 0 rfl ?_
  refine g_bipush E dX2_init_21 (by decide) ?_
  refine g_newarray (n := 32) E dX2_init_23 wd_259 (by decide) rfl (by decide) (Nat.le_of_ble_eq_true rfl) (Nat.le_of_ble_eq_true rfl) (fun q23 => ?_)
  refine GG.wss (ws' := [(sto, .inr (2, [.null, .ref q7, .ref q15, .null, .int (iI 0)])), (q7, aE cA 32 zf), (q15, aE cA 32 zf), (q23, aE cA 32 zf)]) [0, 1, 2, 3] (by decide) rfl ?_
  refine GG.widen (k := 3) (n := 96) (Nat.le_of_ble_eq_true rfl) (Nat.le_of_ble_eq_true rfl) ?_
  refine g_putfinal (ws' := [(sto, .inr (2, [.null, .ref q7, .ref q15, .ref q23, .int (iI 0)])), (q7, aE cA 32 zf), (q15, aE cA 32 zf), (q23, aE cA 32 zf)]) E hin dX2_init_25 0 3 rfl rfl (by decide) iX2 tyX2 tyX2_ok nmX2 wd_159 rfl rfl rfl rfl rfl rfl (Nat.le_of_ble_eq_true rfl) rfl ?_
  refine g_aload_n E dX2_init_28 rfl 0 rfl ?_
  refine g_iconst E dX2_init_29 ?_
  refine g_putfield (ws' := [(sto, .inr (2, [.null, .ref q7, .ref q15, .ref q23, .int (iI 0)])), (q7, aE cA 32 zf), (q15, aE cA 32 zf), (q23, aE cA 32 zf)]) E dX2_init_30 0 4 rfl rfl (by decide) iX2 tyX2 tyX2_ok nmX2 wd_161 rfl rfl rfl rfl rfl (Nat.le_of_ble_eq_true rfl) rfl ?_
  refine g_aload_n E dX2_init_33 rfl 0 rfl ?_
  refine g_iload_n E dX2_init_34 rfl 1 rfl ?_
  refine g_newarray (n := cz0.toNat) E dX2_init_35 wd_259 (by omega) rfl (by omega) (Nat.le_of_ble_eq_true rfl) (by show 96 + cz0.toNat ≤ 4192; omega) (fun q35 => ?_)
  refine GG.widen (k := 4) (n := 4192) (Nat.le_of_ble_eq_true rfl) (by show 96 + cz0.toNat ≤ 4192; omega) ?_
  refine GG.wss (ws' := [(sto, .inr (2, [.null, .ref q7, .ref q15, .ref q23, .int (iI 0)])), (q7, aE cA 32 zf), (q15, aE cA 32 zf), (q23, aE cA 32 zf), (q35, aE cA cz0.toNat zf)]) [0, 1, 2, 3, 4] (by decide) rfl ?_
  refine GG.widen (k := 4) (n := 4192) (Nat.le_of_ble_eq_true rfl) (Nat.le_of_ble_eq_true rfl) ?_
  refine g_putfinal (ws' := [(sto, .inr (2, [.ref q35, .ref q7, .ref q15, .ref q23, .int (iI 0)])), (q7, aE cA 32 zf), (q15, aE cA 32 zf), (q23, aE cA 32 zf), (q35, aE cA cz0.toNat zf)]) E hin dX2_init_37 0 0 rfl rfl (by decide) iX2 tyX2 tyX2_ok nmX2 wd_157 rfl rfl rfl rfl rfl rfl (Nat.le_of_ble_eq_true rfl) rfl ?_
  refine g_aload_n E dX2_init_40 rfl 0 rfl ?_
  refine g_getfield E dX2_init_41 0 1 rfl rfl (by decide) iX2 wd_158 rfl rfl ?_
  refine g_iconst E dX2_init_44 ?_
  refine g_callSv (n := 2) (As := [.ref q7, .int (iI (-1))]) (rest := []) (wr := [(sto, .inr (2, [.ref q35, .ref q7, .ref q15, .ref q23, .int (iI 0)])), (q15, aE cA 32 zf), (q23, aE cA 32 zf), (q35, aE cA cz0.toNat zf)]) E dX2_init_45 (c_J7_fill_53178 l D cA q7 32 zf (-1) (by omega)) wd_code_J7_fill_53178 wd_262 wd_220 wd_221 (by decide +kernel) ⟨⟨rfl, rfl⟩, ⟨(Nat.le_of_ble_eq_true rfl), (Nat.le_of_ble_eq_true rfl)⟩, ⟨(Nat.le_of_ble_eq_true rfl), (Nat.le_of_ble_eq_true rfl)⟩⟩ [1] [0, 2, 3, 4] rfl rfl (by decide) rfl rfl (Nat.le_of_ble_eq_true rfl) (fun w_45 hw_45 => ?_)
  subst hw_45
  refine GG.wss (ws' := [(sto, .inr (2, [.ref q35, .ref q7, .ref q15, .ref q23, .int (iI 0)])), (q7, aE cA 32 (rnf zf 0 (32 : Int) (-1))), (q15, aE cA 32 zf), (q23, aE cA 32 zf), (q35, aE cA cz0.toNat zf)]) [0, 4, 1, 2, 3] (by decide) rfl ?_
  refine g_return E dX2_init_48 ?_
  exact ⟨q35, q7, q15, q23, rfl⟩
