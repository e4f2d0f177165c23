theorem wd_263 : Cond.methodLink RX3 1 Lib.objectInit ∈ UW := uw (by decide +kernel) rfl
theorem wd_264 : Cond.classLink RX3 19 RX0 ∈ UW := uw (by decide +kernel) rfl
theorem wd_265 : Cond.instantiable RX0 4 ∈ UW := uw (by decide +kernel) rfl
theorem wd_266 : Cond.initialized RX0 ∈ UW := uw (by decide +kernel) rfl
theorem wd_267 : Cond.instanceMethod yX0_init ∈ UW := uw (by decide +kernel) rfl
theorem wd_268 : Cond.initialized yX0_init.cls ∈ UW := uw (by decide +kernel) rfl
theorem wd_269 : Cond.classLink RX3 26 RX1 ∈ UW := uw (by decide +kernel) rfl
theorem wd_270 : Cond.instantiable RX1 8 ∈ UW := uw (by decide +kernel) rfl
theorem wd_271 : Cond.initialized RX1 ∈ UW := uw (by decide +kernel) rfl
theorem wd_272 : Cond.instanceMethod yX1_init ∈ UW := uw (by decide +kernel) rfl
theorem wd_273 : Cond.initialized yX1_init.cls ∈ UW := uw (by decide +kernel) rfl
theorem wd_274 : Cond.classLink RX3 43 RX2 ∈ UW := uw (by decide +kernel) rfl
theorem wd_275 : Cond.instantiable RX2 5 ∈ UW := uw (by decide +kernel) rfl
theorem wd_276 : Cond.initialized RX2 ∈ UW := uw (by decide +kernel) rfl
theorem wd_277 : Cond.methodLink RX3 45 Lib.Math.min.name ∈ UW := uw (by decide +kernel) rfl
theorem wd_278 : Cond.methodLink RX3 51 Lib.Math.max.name ∈ UW := uw (by decide +kernel) rfl
theorem wd_279 : Cond.methodLink RX3 54 yX2_init ∈ UW := uw (by decide +kernel) rfl
theorem wd_280 : Cond.instanceMethod yX2_init ∈ UW := uw (by decide +kernel) rfl
theorem wd_281 : Cond.initialized yX2_init.cls ∈ UW := uw (by decide +kernel) rfl
theorem wd_282 : Cond.methodLink RX4 1 Lib.objectInit ∈ UW := uw (by decide +kernel) rfl
def nwX (U : State) : Prop := va_Nw (.methodLinkNest RX3 21 yX0_init "PackedSlots") U ∧ va_Nw (.methodLinkNest RX3 28 yX1_init "PackedSlots") U
def CvN (l : Launch) (D : va_G) (cl : List vw_C) (cA : ClassId) (y : MethodName) (w : List Cond) (rm : Room) (mc ms : Nat) (av : List Value) (WS : va_W) (post : va_W → Prop) : Prop :=
  ∀ sz : Nat, Met l y w rm (va_Pc av (fun U => Pre0 D cl cA WS sz U ∧ nwX U)) (va_Qv post (Bw D cl cA (va_A WS sz)) (va_A WS sz)) mc ms (va_A WS sz)
theorem CvN.mk {l : Launch} {D : va_G} {cl : List vw_C} {cA : ClassId} {y : MethodName} {cc : ByteArray} {nL : Nat} {ret : Option FieldType} {rm : Room} {mc ms : Nat} {av : List Value} {WS : va_W} {post : va_W → Prop} (hy : plainName y.cls = true) (hav : (lg_sl av).length ≤ nL)
    (body : ∀ (p : Program) (e : Env) (s : State) (m : MethodId) (args : Array Value) (below : List Frame) (meth : Method) (c : Code) (A : Nat → Prop), Am p m meth c cc nL ret s args y.cls D cl cA A → meth.name = y.name → nwX s → GG p l e rm s m args below meth c D cl A nL (QV D cl cA A below args s mc ms post) 0 0 WS (lv_args 0 av) 0 []) : CvN l D cl cA y (.code y cc nL ret :: UW) rm mc ms av WS post := by
  intro sz
  refine Met.ofW (cc := cc) (maxL := nL) (ret := ret) hy rfl ?_
  intro p e s m args below meth c s₁ B hml hv
  obtain ⟨rfl, ⟨hsz, hP, hK, hD0⟩, hNw⟩ := hv
  have hts := atoms_spec (ws := .code y cc nL ret :: UW) B.pre
  have hin : meth.name = y.name := (name_of_methodNamed B.named B.method).1
  subst hsz
  have hD := hD0.self (sz := s.heap.size)
  have hl := lv_entry av (n := nL) hav
  rw [lg_entry_eq]
  have E : Am p m meth c cc nL ret s av.toArray y.cls D cl cA (va_A WS s.heap.size) := ⟨B.exec, B.bytes, hml, findClass_of_methodNamed B.named, fun w h => hts w (List.mem_cons_of_mem _ h), hK, fun q h => Or.inr h, B.returns, B.notSynchronized⟩
  exact body p e s m _ below meth c _ E hin hNw s.heap [] _ hP hD va_S.rf hl
section GGm
variable {p : Program} {l : Launch} {e : Env} {R : Room} {s : State} {m : MethodId} {args : Array Value} {below : List Frame} {meth : Method} {c : Code} {cells slots : Nat} {Q : State → Prop} {cc : ByteArray} {nL : Nat} {ret : Option FieldType} {own : String} {D : va_G} {cl : List vw_C} {cA : ClassId} {A : Nat → Prop} {ws ws' : va_W} {lv lv' : List (Nat × Value)} {pc : Nat} {st rest : List Value}
variable {y : MethodName} {bytes : ByteArray} {maxL n index mc ms b : Nat} {rm : Room} {As : List Value} {WS wr : va_W}
theorem g_callNI (E : Am p m meth c cc nL ret s args own D cl cA A) {post : va_W → Prop} (hd : decode cc pc = .ok (.invokespecial index, 3)) (hNw : nwX s) (M : CvN l D cl cA y (.code y bytes maxL none :: UW) rm mc ms (.ref b :: As) WS post) (hcode : Cond.code y bytes maxL none ∈ UW) (hlink : Cond.methodLink own index y ∈ UW) (hinst : Cond.instanceMethod y ∈ UW) (hnm : y.name = "<init>") (hini : Cond.initialized y.cls ∈ UW) (hdd : y.cls ≠ "java/lang/invoke/MethodHandle" ∧ y.cls ≠ "java/lang/invoke/VarHandle" ∧ (parseMethodDescriptor y.desc).map (fun d => d.parameters.length) = some n) (hR : (rm.cells = mc ∧ rm.slots = ms) ∧ (rm.frames + 1 ≤ R.frames ∧ 8 + (maxL + 11) + rm.locals ≤ R.locals) ∧ (cells + mc ≤ R.cells ∧ slots + ms ≤ R.slots)) (isC isR : List Nat) (hC : isC.map (fun i => ws[i]?) = WS.map some) (hRr : isR.map (fun i => ws[i]?) = wr.map some) (hn : va_nd isC = true ∧ va_nd isR = true ∧ ∀ i ∈ isR, i ∉ isC) (hlen : As.length = n) (hst : st = As.reverse ++ .ref b :: rest) (hcat : (rest.map fun v => v.category).sum ≤ 8) (K : ∀ ws1 : va_W, post ws1 → GG p l e R s m args below meth c D cl A nL Q (cells + mc) (slots + ms) (wr ++ ws1) lv (pc + 3) rest) : GG p l e R s m args below meth c D cl A nL Q cells slots ws lv pc st := by
  intro H locs ls hP hD hS hl
  subst hst
  have hPc := hP.sub isC (wmap hC)
  have hDc := hD.sub isC hn.1 hC
  have hFc := va_free hD hS E.2.2.2.2.2.2.1 isC hC
  have hK := E.2.2.2.2.2.1
  have hts := E.2.2.2.2.1
  refine va_callv (va_runI (As := As) (rest := rest) (Ts := UW) ⟨E.1, E.2.1, E.2.2.1, E.2.2.2.1, hts⟩ (M H.size) ⟨callB_of n hts (uw_goodC hcode (fun _ h => h)) rfl hR.1.1 hR.1.2 (hts _ hini) (hts _ hlink) hdd hR.2.1, hnm, hts _ hinst⟩ ⟨fun a U g mk q => ?_, fun U hU hW => ⟨rfl, ⟨by rw [hU], by rw [hU]; exact hPc, va_K.moved hW.alike hK, hDc.weaken (fun _ _ _ _ => trivial)⟩, va_Nw.warmM hW hNw.1, va_Nw.warmM hW hNw.2⟩⟩ rfl hlen hl.1 rfl (lv_room hcat) hd hR.2.2) hS (fun q _ h => hFc q h) hFc (fun u t H1 locs1 ht hvm hw hB hz1 hk1 hS1 => ?_)
  · obtain ⟨q0, ⟨q1, qP, qK, qD⟩, q2, q3⟩ := q
    exact ⟨q0, ⟨q1, qP, va_K.moved (u := U) (U := U.calling g mk a) (Vm.Alike.refl U.vm) qK, qD⟩, va_Nw.same rfl rfl q2, va_Nw.same rfl rfl q3⟩
  · obtain ⟨hP1, hK1, hD1⟩ := hB
    rw [ht] at hP1
    obtain ⟨hP2, hD2⟩ := va_join hP hD isC isR hC hRr hn.2.1 hn.2.2 hk1 hFc hP1 hD1
    exact K u hw H1 locs1 ls hP2 hD2 hS1 hl
end GGm
set_option maxHeartbeats 4000000 in
set_option maxRecDepth 100000 in
theorem c_X3_init (l : Launch) (D : va_G) (cA : ClassId) (x : Nat) (c0 : Int) (hc0 : iB c0) : CvN l D vwCl cA yX3_init (.code yX3_init cX3_init 2 none :: UW) ({ frames := 2, cells := 13, slots := 5643, locals := 44 }) 13 5643 [.ref x, .int (iI c0)] [(x, .inr (3, [.null, .null, .null, .null, .null, .null, .null, .int (iI 0), .int (iI 0)]))] (fun (w : va_W) => ∃ (bu : Nat) (ki : Nat) (sa : Nat) (sto : Nat) (pk : Nat) (rd : Nat) (ta : Nat) (bya : Nat) (ss : Nat) (zz : Nat) (od : Nat) (po : Nat) (ro : Nat), w = [(x, .inr (3, [.ref bu, .ref ki, .ref sa, .ref sto, .ref pk, .ref rd, .ref ta, .int (iI 0), .int (iI (-1))])), (bu, aE cA 256 zf), (ki, aE cA 32 zf), (sa, aE cA 32 zf), (pk, .inr (0, [.ref po, .int (iI 0), .int (iI 0), .int (iI 0)])), (po, aE cA 258 zf), (rd, .inr (1, [.ref ro, .int (iI (-1)), .int (iI 0), .ref ro, .int (iI 0), .int (iI 0), .int (iI 0), .int (iI 0)])), (ro, aE cA 256 zf), (ta, aE cA 600 zf), (sto, .inr (2, [.ref bya, .ref ss, .ref zz, .ref od, .int (iI 0)])), (ss, aE cA 32 (rnf zf 0 (32 : Nat) (-1))), (zz, aE cA 32 zf), (od, aE cA 32 zf), (bya, aE cA ((max 0 (min 4096 c0)).toNat) zf)]) := by
  refine CvN.mk (by decide) (Nat.le_of_ble_eq_true rfl) ?_
  intro p e s m args below meth c A E hin hNw
  refine GG.lvs (lv' := [(0, .ref x), (1, .int (iI c0))]) [0, 1] rfl ?_
  refine g_aload_n E dX3_init_0 rfl 0 rfl ?_
  refine g_objInit E dX3_init_1 wd_263 wd_258 wd_objcode (Nat.le_of_ble_eq_true rfl) (Nat.le_of_ble_eq_true rfl) ?_
  refine g_aload_n E dX3_init_4 rfl 0 rfl ?_
  refine g_sipush E dX3_init_5 (by decide) ?_
  refine g_newarray (n := 256) E dX3_init_8 wd_259 (by decide) rfl (by decide) (Nat.le_of_ble_eq_true rfl) (Nat.le_of_ble_eq_true rfl) (fun q8 => ?_)
  refine GG.wss (ws' := [(x, .inr (3, [.null, .null, .null, .null, .null, .null, .null, .int (iI 0), .int (iI 0)])), (q8, aE cA 256 zf)]) [0, 1] (by decide) rfl ?_
  refine GG.widen (k := 1) (n := 256) (Nat.le_of_ble_eq_true rfl) (Nat.le_of_ble_eq_true rfl) ?_
  refine g_putfinal (ws' := [(x, .inr (3, [.ref q8, .null, .null, .null, .null, .null, .null, .int (iI 0), .int (iI 0)])), (q8, aE cA 256 zf)]) E hin dX3_init_10 0 0 rfl rfl (by decide) iX3 tyX3 tyX3_ok nmX3 wd_1 rfl rfl rfl rfl rfl rfl (Nat.le_of_ble_eq_true rfl) rfl ?_
  refine g_aload_n E dX3_init_13 rfl 0 rfl ?_
  refine g_bipush E dX3_init_14 (by decide) ?_
  refine g_newarray (n := 32) E dX3_init_16 wd_259 (by decide) rfl (by decide) (Nat.le_of_ble_eq_true rfl) (Nat.le_of_ble_eq_true rfl) (fun q16 => ?_)
  refine GG.wss (ws' := [(x, .inr (3, [.ref q8, .null, .null, .null, .null, .null, .null, .int (iI 0), .int (iI 0)])), (q8, aE cA 256 zf), (q16, aE cA 32 zf)]) [0, 1, 2] (by decide) rfl ?_
  refine GG.widen (k := 2) (n := 288) (Nat.le_of_ble_eq_true rfl) (Nat.le_of_ble_eq_true rfl) ?_
  refine g_putfinal (ws' := [(x, .inr (3, [.ref q8, .ref q16, .null, .null, .null, .null, .null, .int (iI 0), .int (iI 0)])), (q8, aE cA 256 zf), (q16, aE cA 32 zf)]) E hin dX3_init_18 0 1 rfl rfl (by decide) iX3 tyX3 tyX3_ok nmX3 wd_205 rfl rfl rfl rfl rfl rfl (Nat.le_of_ble_eq_true rfl) rfl ?_
  refine g_aload_n E dX3_init_21 rfl 0 rfl ?_
  refine g_bipush E dX3_init_22 (by decide) ?_
  refine g_newarray (n := 32) E dX3_init_24 wd_259 (by decide) rfl (by decide) (Nat.le_of_ble_eq_true rfl) (Nat.le_of_ble_eq_true rfl) (fun q24 => ?_)
  refine GG.wss (ws' := [(x, .inr (3, [.ref q8, .ref q16, .null, .null, .null, .null, .null, .int (iI 0), .int (iI 0)])), (q8, aE cA 256 zf), (q16, aE cA 32 zf), (q24, aE cA 32 zf)]) [0, 1, 2, 3] (by decide) rfl ?_
  refine GG.widen (k := 3) (n := 320) (Nat.le_of_ble_eq_true rfl) (Nat.le_of_ble_eq_true rfl) ?_
  refine g_putfinal (ws' := [(x, .inr (3, [.ref q8, .ref q16, .ref q24, .null, .null, .null, .null, .int (iI 0), .int (iI 0)])), (q8, aE cA 256 zf), (q16, aE cA 32 zf), (q24, aE cA 32 zf)]) E hin dX3_init_26 0 2 rfl rfl (by decide) iX3 tyX3 tyX3_ok nmX3 wd_222 rfl rfl rfl rfl rfl rfl (Nat.le_of_ble_eq_true rfl) rfl ?_
  refine g_aload_n E dX3_init_29 rfl 0 rfl ?_
  refine g_new (ci := 0) (fs := [.null, .int (iI 0), .int (iI 0), .int (iI 0)]) E dX3_init_30 rfl iX0 tyX0 tyX0_ok wd_264 wd_265 wd_266 (by decide +kernel) (Nat.le_of_ble_eq_true rfl) (Nat.le_of_ble_eq_true rfl) (fun q30 => ?_)
  refine GG.wss (ws' := [(x, .inr (3, [.ref q8, .ref q16, .ref q24, .null, .null, .null, .null, .int (iI 0), .int (iI 0)])), (q8, aE cA 256 zf), (q16, aE cA 32 zf), (q24, aE cA 32 zf), (q30, .inr (0, [.null, .int (iI 0), .int (iI 0), .int (iI 0)]))]) [0, 1, 2, 3, 4] (by decide) rfl ?_
  refine GG.widen (k := 4) (n := 324) (Nat.le_of_ble_eq_true rfl) (Nat.le_of_ble_eq_true rfl) ?_
  refine g_dup E dX3_init_33 rfl ?_
  refine g_callIN (n := 0) (As := []) (rest := [.ref q30, .ref x]) (wr := [(x, .inr (3, [.ref q8, .ref q16, .ref q24, .null, .null, .null, .null, .int (iI 0), .int (iI 0)])), (q8, aE cA 256 zf), (q16, aE cA 32 zf), (q24, aE cA 32 zf)]) E dX3_init_34 (c_X0_init l D cA q30 ) wd_code_X0_init hNw.1 wd_267 rfl wd_268 (by decide +kernel) ⟨⟨rfl, rfl⟩, ⟨(Nat.le_of_ble_eq_true rfl), (Nat.le_of_ble_eq_true rfl)⟩, ⟨(Nat.le_of_ble_eq_true rfl), (Nat.le_of_ble_eq_true rfl)⟩⟩ [4] [0, 1, 2, 3] rfl rfl (by decide) rfl rfl (Nat.le_of_ble_eq_true rfl) (fun w_34 hw_34 => ?_)
  obtain ⟨po_34, rfl⟩ := hw_34
  refine GG.wss (ws' := [(x, .inr (3, [.ref q8, .ref q16, .ref q24, .null, .null, .null, .null, .int (iI 0), .int (iI 0)])), (q8, aE cA 256 zf), (q16, aE cA 32 zf), (q24, aE cA 32 zf), (q30, .inr (0, [.ref po_34, .int (iI 0), .int (iI 0), .int (iI 0)])), (po_34, aE cA 258 zf)]) [0, 1, 2, 3, 4, 5] (by decide) rfl ?_
  refine GG.widen (k := 5) (n := 582) (Nat.le_of_ble_eq_true rfl) (Nat.le_of_ble_eq_true rfl) ?_
  refine g_putfinal (ws' := [(x, .inr (3, [.ref q8, .ref q16, .ref q24, .null, .ref q30, .null, .null, .int (iI 0), .int (iI 0)])), (q8, aE cA 256 zf), (q16, aE cA 32 zf), (q24, aE cA 32 zf), (q30, .inr (0, [.ref po_34, .int (iI 0), .int (iI 0), .int (iI 0)])), (po_34, aE cA 258 zf)]) E hin dX3_init_37 0 4 rfl rfl (by decide) iX3 tyX3 tyX3_ok nmX3 wd_231 rfl rfl rfl rfl rfl rfl (Nat.le_of_ble_eq_true rfl) rfl ?_
  refine g_aload_n E dX3_init_40 rfl 0 rfl ?_
  refine g_new (ci := 1) (fs := [.null, .int (iI 0), .int (iI 0), .null, .int (iI 0), .int (iI 0), .int (iI 0), .int (iI 0)]) E dX3_init_41 rfl iX1 tyX1 tyX1_ok wd_269 wd_270 wd_271 (by decide +kernel) (Nat.le_of_ble_eq_true rfl) (Nat.le_of_ble_eq_true rfl) (fun q41 => ?_)
  refine GG.wss (ws' := [(x, .inr (3, [.ref q8, .ref q16, .ref q24, .null, .ref q30, .null, .null, .int (iI 0), .int (iI 0)])), (q8, aE cA 256 zf), (q16, aE cA 32 zf), (q24, aE cA 32 zf), (q30, .inr (0, [.ref po_34, .int (iI 0), .int (iI 0), .int (iI 0)])), (po_34, aE cA 258 zf), (q41, .inr (1, [.null, .int (iI 0), .int (iI 0), .null, .int (iI 0), .int (iI 0), .int (iI 0), .int (iI 0)]))]) [0, 1, 2, 3, 4, 5, 6] (by decide) rfl ?_
  refine GG.widen (k := 6) (n := 590) (Nat.le_of_ble_eq_true rfl) (Nat.le_of_ble_eq_true rfl) ?_
  refine g_dup E dX3_init_44 rfl ?_
  refine g_callIN (n := 0) (As := []) (rest := [.ref q41, .ref x]) (wr := [(x, .inr (3, [.ref q8, .ref q16, .ref q24, .null, .ref q30, .null, .null, .int (iI 0), .int (iI 0)])), (q8, aE cA 256 zf), (q16, aE cA 32 zf), (q24, aE cA 32 zf), (q30, .inr (0, [.ref po_34, .int (iI 0), .int (iI 0), .int (iI 0)])), (po_34, aE cA 258 zf)]) E dX3_init_45 (c_X1_init l D cA q41 ) wd_code_X1_init hNw.2 wd_272 rfl wd_273 (by decide +kernel) ⟨⟨rfl, rfl⟩, ⟨(Nat.le_of_ble_eq_true rfl), (Nat.le_of_ble_eq_true rfl)⟩, ⟨(Nat.le_of_ble_eq_true rfl), (Nat.le_of_ble_eq_true rfl)⟩⟩ [6] [0, 1, 2, 3, 4, 5] rfl rfl (by decide) rfl rfl (Nat.le_of_ble_eq_true rfl) (fun w_45 hw_45 => ?_)
  obtain ⟨ro_45, rfl⟩ := hw_45
  refine GG.wss (ws' := [(x, .inr (3, [.ref q8, .ref q16, .ref q24, .null, .ref q30, .null, .null, .int (iI 0), .int (iI 0)])), (q8, aE cA 256 zf), (q16, aE cA 32 zf), (q24, aE cA 32 zf), (q30, .inr (0, [.ref po_34, .int (iI 0), .int (iI 0), .int (iI 0)])), (po_34, aE cA 258 zf), (q41, .inr (1, [.ref ro_45, .int (iI (-1)), .int (iI 0), .ref ro_45, .int (iI 0), .int (iI 0), .int (iI 0), .int (iI 0)])), (ro_45, aE cA 256 zf)]) [0, 1, 2, 3, 4, 5, 6, 7] (by decide) rfl ?_
  refine GG.widen (k := 7) (n := 846) (Nat.le_of_ble_eq_true rfl) (Nat.le_of_ble_eq_true rfl) ?_
  refine g_putfinal (ws' := [(x, .inr (3, [.ref q8, .ref q16, .ref q24, .null, .ref q30, .ref q41, .null, .int (iI 0), .int (iI 0)])), (q8, aE cA 256 zf), (q16, aE cA 32 zf), (q24, aE cA 32 zf), (q30, .inr (0, [.ref po_34, .int (iI 0), .int (iI 0), .int (iI 0)])), (po_34, aE cA 258 zf), (q41, .inr (1, [.ref ro_45, .int (iI (-1)), .int (iI 0), .ref ro_45, .int (iI 0), .int (iI 0), .int (iI 0), .int (iI 0)])), (ro_45, aE cA 256 zf)]) E hin dX3_init_48 0 5 rfl rfl (by decide) iX3 tyX3 tyX3_ok nmX3 wd_206 rfl rfl rfl rfl rfl rfl (Nat.le_of_ble_eq_true rfl) rfl ?_
  refine g_aload_n E dX3_init_51 rfl 0 rfl ?_
  refine g_sipush E dX3_init_52 (by decide) ?_
  refine g_newarray (n := 600) E dX3_init_55 wd_259 (by decide) rfl (by decide) (Nat.le_of_ble_eq_true rfl) (Nat.le_of_ble_eq_true rfl) (fun q55 => ?_)
  refine GG.wss (ws' := [(x, .inr (3, [.ref q8, .ref q16, .ref q24, .null, .ref q30, .ref q41, .null, .int (iI 0), .int (iI 0)])), (q8, aE cA 256 zf), (q16, aE cA 32 zf), (q24, aE cA 32 zf), (q30, .inr (0, [.ref po_34, .int (iI 0), .int (iI 0), .int (iI 0)])), (po_34, aE cA 258 zf), (q41, .inr (1, [.ref ro_45, .int (iI (-1)), .int (iI 0), .ref ro_45, .int (iI 0), .int (iI 0), .int (iI 0), .int (iI 0)])), (ro_45, aE cA 256 zf), (q55, aE cA 600 zf)]) [0, 1, 2, 3, 4, 5, 6, 7, 8] (by decide) rfl ?_
  refine GG.widen (k := 8) (n := 1446) (Nat.le_of_ble_eq_true rfl) (Nat.le_of_ble_eq_true rfl) ?_
  refine g_putfinal (ws' := [(x, .inr (3, [.ref q8, .ref q16, .ref q24, .null, .ref q30, .ref q41, .ref q55, .int (iI 0), .int (iI 0)])), (q8, aE cA 256 zf), (q16, aE cA 32 zf), (q24, aE cA 32 zf), (q30, .inr (0, [.ref po_34, .int (iI 0), .int (iI 0), .int (iI 0)])), (po_34, aE cA 258 zf), (q41, .inr (1, [.ref ro_45, .int (iI (-1)), .int (iI 0), .ref ro_45, .int (iI 0), .int (iI 0), .int (iI 0), .int (iI 0)])), (ro_45, aE cA 256 zf), (q55, aE cA 600 zf)]) E hin dX3_init_57 0 6 rfl rfl (by decide) iX3 tyX3 tyX3_ok nmX3 wd_15 rfl rfl rfl rfl rfl rfl (Nat.le_of_ble_eq_true rfl) rfl ?_
  refine g_aload_n E dX3_init_60 rfl 0 rfl ?_
  refine g_iconst E dX3_init_61 ?_
  refine g_putfield (ws' := [(x, .inr (3, [.ref q8, .ref q16, .ref q24, .null, .ref q30, .ref q41, .ref q55, .int (iI 0), .int (iI 0)])), (q8, aE cA 256 zf), (q16, aE cA 32 zf), (q24, aE cA 32 zf), (q30, .inr (0, [.ref po_34, .int (iI 0), .int (iI 0), .int (iI 0)])), (po_34, aE cA 258 zf), (q41, .inr (1, [.ref ro_45, .int (iI (-1)), .int (iI 0), .ref ro_45, .int (iI 0), .int (iI 0), .int (iI 0), .int (iI 0)])), (ro_45, aE cA 256 zf), (q55, aE cA 600 zf)]) E dX3_init_62 0 7 rfl rfl (by decide) iX3 tyX3 tyX3_ok nmX3 wd_14 rfl rfl rfl rfl rfl (Nat.le_of_ble_eq_true rfl) rfl ?_
  refine g_aload_n E dX3_init_65 rfl 0 rfl ?_
  refine g_iconst E dX3_init_66 ?_
  refine g_putfield (ws' := [(x, .inr (3, [.ref q8, .ref q16, .ref q24, .null, .ref q30, .ref q41, .ref q55, .int (iI 0), .int (iI (-1))])), (q8, aE cA 256 zf), (q16, aE cA 32 zf), (q24, aE cA 32 zf), (q30, .inr (0, [.ref po_34, .int (iI 0), .int (iI 0), .int (iI 0)])), (po_34, aE cA 258 zf), (q41, .inr (1, [.ref ro_45, .int (iI (-1)), .int (iI 0), .ref ro_45, .int (iI 0), .int (iI 0), .int (iI 0), .int (iI 0)])), (ro_45, aE cA 256 zf), (q55, aE cA 600 zf)]) E dX3_init_67 0 8 rfl rfl (by decide) iX3 tyX3 tyX3_ok nmX3 wd_2 rfl rfl rfl rfl rfl (Nat.le_of_ble_eq_true rfl) rfl ?_
  refine g_aload_n E dX3_init_70 rfl 0 rfl ?_
  refine g_new (ci := 2) (fs := [.null, .null, .null, .null, .int (iI 0)]) E dX3_init_71 rfl iX2 tyX2 tyX2_ok wd_274 wd_275 wd_276 (by decide +kernel) (Nat.le_of_ble_eq_true rfl) (Nat.le_of_ble_eq_true rfl) (fun q71 => ?_)
  refine GG.wss (ws' := [(x, .inr (3, [.ref q8, .ref q16, .ref q24, .null, .ref q30, .ref q41, .ref q55, .int (iI 0), .int (iI (-1))])), (q8, aE cA 256 zf), (q16, aE cA 32 zf), (q24, aE cA 32 zf), (q30, .inr (0, [.ref po_34, .int (iI 0), .int (iI 0), .int (iI 0)])), (po_34, aE cA 258 zf), (q41, .inr (1, [.ref ro_45, .int (iI (-1)), .int (iI 0), .ref ro_45, .int (iI 0), .int (iI 0), .int (iI 0), .int (iI 0)])), (ro_45, aE cA 256 zf), (q55, aE cA 600 zf), (q71, .inr (2, [.null, .null, .null, .null, .int (iI 0)]))]) [0, 1, 2, 3, 4, 5, 6, 7, 8, 9] (by decide) rfl ?_
  refine GG.widen (k := 9) (n := 1451) (Nat.le_of_ble_eq_true rfl) (Nat.le_of_ble_eq_true rfl) ?_
  refine g_dup E dX3_init_74 rfl ?_
  refine g_iconst E dX3_init_75 ?_
  refine g_sipush E dX3_init_76 (by decide) ?_
  refine g_iload_n E dX3_init_79 rfl 1 rfl ?_
  refine g_min E dX3_init_80 wd_277 wd_34 wd_35 wd_mincode (Nat.le_of_ble_eq_true rfl) (Nat.le_of_ble_eq_true rfl) (Nat.le_of_ble_eq_true rfl) (Nat.le_of_ble_eq_true rfl) ⟨(by omega), (by omega)⟩ ⟨(by omega), (by omega)⟩ ?_
  refine g_max E dX3_init_83 wd_278 wd_171 wd_35 wd_maxcode (Nat.le_of_ble_eq_true rfl) (Nat.le_of_ble_eq_true rfl) (Nat.le_of_ble_eq_true rfl) (Nat.le_of_ble_eq_true rfl) ⟨(by omega), (by omega)⟩ ⟨(by omega), (by omega)⟩ ?_
  refine g_callI (n := 1) (As := [.int (iI (max 0 (min 4096 c0)))]) (rest := [.ref q71, .ref x]) (wr := [(x, .inr (3, [.ref q8, .ref q16, .ref q24, .null, .ref q30, .ref q41, .ref q55, .int (iI 0), .int (iI (-1))])), (q8, aE cA 256 zf), (q16, aE cA 32 zf), (q24, aE cA 32 zf), (q30, .inr (0, [.ref po_34, .int (iI 0), .int (iI 0), .int (iI 0)])), (po_34, aE cA 258 zf), (q41, .inr (1, [.ref ro_45, .int (iI (-1)), .int (iI 0), .ref ro_45, .int (iI 0), .int (iI 0), .int (iI 0), .int (iI 0)])), (ro_45, aE cA 256 zf), (q55, aE cA 600 zf)]) E dX3_init_86 (c_X2_init l D cA q71 (max 0 (min 4096 c0)) (by omega)) wd_code_X2_init wd_279 wd_280 rfl wd_281 (by decide +kernel) ⟨⟨rfl, rfl⟩, ⟨(Nat.le_of_ble_eq_true rfl), (Nat.le_of_ble_eq_true rfl)⟩, ⟨(Nat.le_of_ble_eq_true rfl), (Nat.le_of_ble_eq_true rfl)⟩⟩ [9] [0, 1, 2, 3, 4, 5, 6, 7, 8] rfl rfl (by decide) rfl rfl (Nat.le_of_ble_eq_true rfl) (fun w_86 hw_86 => ?_)
  obtain ⟨bya_86, ss_86, zz_86, od_86, rfl⟩ := hw_86
  refine GG.wss (ws' := [(x, .inr (3, [.ref q8, .ref q16, .ref q24, .null, .ref q30, .ref q41, .ref q55, .int (iI 0), .int (iI (-1))])), (q8, aE cA 256 zf), (q16, aE cA 32 zf), (q24, aE cA 32 zf), (q30, .inr (0, [.ref po_34, .int (iI 0), .int (iI 0), .int (iI 0)])), (po_34, aE cA 258 zf), (q41, .inr (1, [.ref ro_45, .int (iI (-1)), .int (iI 0), .ref ro_45, .int (iI 0), .int (iI 0), .int (iI 0), .int (iI 0)])), (ro_45, aE cA 256 zf), (q55, aE cA 600 zf), (q71, .inr (2, [.ref bya_86, .ref ss_86, .ref zz_86, .ref od_86, .int (iI 0)])), (ss_86, aE cA 32 (rnf zf 0 (32 : Nat) (-1))), (zz_86, aE cA 32 zf), (od_86, aE cA 32 zf), (bya_86, aE cA ((max 0 (min 4096 c0)).toNat) zf)]) [0, 1, 2, 3, 4, 5, 6, 7, 8, 9, 10, 11, 12, 13] (by decide) rfl ?_
  refine GG.widen (k := 13) (n := 5643) (Nat.le_of_ble_eq_true rfl) (Nat.le_of_ble_eq_true rfl) ?_
  refine g_putfinal (ws' := [(x, .inr (3, [.ref q8, .ref q16, .ref q24, .ref q71, .ref q30, .ref q41, .ref q55, .int (iI 0), .int (iI (-1))])), (q8, aE cA 256 zf), (q16, aE cA 32 zf), (q24, aE cA 32 zf), (q30, .inr (0, [.ref po_34, .int (iI 0), .int (iI 0), .int (iI 0)])), (po_34, aE cA 258 zf), (q41, .inr (1, [.ref ro_45, .int (iI (-1)), .int (iI 0), .ref ro_45, .int (iI 0), .int (iI 0), .int (iI 0), .int (iI 0)])), (ro_45, aE cA 256 zf), (q55, aE cA 600 zf), (q71, .inr (2, [.ref bya_86, .ref ss_86, .ref zz_86, .ref od_86, .int (iI 0)])), (ss_86, aE cA 32 (rnf zf 0 (32 : Nat) (-1))), (zz_86, aE cA 32 zf), (od_86, aE cA 32 zf), (bya_86, aE cA ((max 0 (min 4096 c0)).toNat) zf)]) E hin dX3_init_89 0 3 rfl rfl (by decide) iX3 tyX3 tyX3_ok nmX3 wd_200 rfl rfl rfl rfl rfl rfl (Nat.le_of_ble_eq_true rfl) rfl ?_
  refine g_return E dX3_init_92 ?_
  exact ⟨q8, q16, q24, q71, q30, q41, q55, bya_86, ss_86, zz_86, od_86, po_34, ro_45, rfl⟩
set_option maxHeartbeats 4000000 in
set_option maxRecDepth 100000 in
theorem c_X4_init (l : Launch) (D : va_G) (cA : ClassId) (y : Nat) (c0 : Int) (hc0 : iB c0) : Cv l D vwCl cA yX4_init (.code yX4_init cX4_init 2 none :: UW) ({ frames := 1, cells := 9, slots := 10568, locals := 12 }) 9 10568 [.ref y, .int (iI c0)] [(y, .inr (4, [.int (iI 0), .null, .null, .null, .null, .null, .int (iI 0), .null, .int (iI 0), .int (iI 0), .null, .int (iI 0), .null, .int (iI 0), .int (iI 0), .null, .int (iI 0)]))] (fun (w : va_W) => ∃ (mb : Nat) (ms : Nat) (mm : Nat) (mf : Nat) (mz : Nat) (mt : Nat) (mp : Nat) (mq : Nat) (mo : Nat) (ca : Int), ca = max 0 (min 4096 c0) ∧ w = [(y, .inr (4, [.int (iI ca), .ref mb, .ref ms, .ref mm, .ref mf, .ref mz, .int (iI 0), .ref mt, .int (iI (-1)), .int (iI 0), .ref mp, .int (iI 0), .ref mq, .int (iI 0), .int (iI 0), .ref mo, .int (iI 0)])), (mb, aE cA 256 zf), (ms, aE cA 4096 zf), (mm, aE cA 4096 zf), (mf, aE cA 32 zf), (mz, aE cA 32 zf), (mt, aE cA 600 zf), (mp, aE cA 600 zf), (mq, aE cA 600 zf), (mo, aE cA 256 zf)]) := by
  refine Cv.mk (by decide) (Nat.le_of_ble_eq_true rfl) ?_
  intro p e s m args below meth c A E hin
  refine GG.lvs (lv' := [(0, .ref y), (1, .int (iI c0))]) [0, 1] rfl ?_
  refine g_aload_n E dX4_init_0 rfl 0 rfl ?_
  refine g_objInit E dX4_init_1 wd_282 wd_258 wd_objcode (Nat.le_of_ble_eq_true rfl) (Nat.le_of_ble_eq_true rfl) ?_
  refine g_aload_n E dX4_init_4 rfl 0 rfl ?_
  refine g_sipush E dX4_init_5 (by decide) ?_
  refine g_newarray (n := 256) E dX4_init_8 wd_259 (by decide) rfl (by decide) (Nat.le_of_ble_eq_true rfl) (Nat.le_of_ble_eq_true rfl) (fun q8 => ?_)
  refine GG.wss (ws' := [(y, .inr (4, [.int (iI 0), .null, .null, .null, .null, .null, .int (iI 0), .null, .int (iI 0), .int (iI 0), .null, .int (iI 0), .null, .int (iI 0), .int (iI 0), .null, .int (iI 0)])), (q8, aE cA 256 zf)]) [0, 1] (by decide) rfl ?_
  refine GG.widen (k := 1) (n := 256) (Nat.le_of_ble_eq_true rfl) (Nat.le_of_ble_eq_true rfl) ?_
  refine g_putfinal (ws' := [(y, .inr (4, [.int (iI 0), .ref q8, .null, .null, .null, .null, .int (iI 0), .null, .int (iI 0), .int (iI 0), .null, .int (iI 0), .null, .int (iI 0), .int (iI 0), .null, .int (iI 0)])), (q8, aE cA 256 zf)]) E hin dX4_init_10 0 1 rfl rfl (by decide) iX4 tyX4 tyX4_ok nmX4 wd_6 rfl rfl rfl rfl rfl rfl (Nat.le_of_ble_eq_true rfl) rfl ?_
  refine g_aload_n E dX4_init_13 rfl 0 rfl ?_
  refine g_sipush E dX4_init_14 (by decide) ?_
  refine g_newarray (n := 4096) E dX4_init_17 wd_259 (by decide) rfl (by decide) (Nat.le_of_ble_eq_true rfl) (Nat.le_of_ble_eq_true rfl) (fun q17 => ?_)
  refine GG.wss (ws' := [(y, .inr (4, [.int (iI 0), .ref q8, .null, .null, .null, .null, .int (iI 0), .null, .int (iI 0), .int (iI 0), .null, .int (iI 0), .null, .int (iI 0), .int (iI 0), .null, .int (iI 0)])), (q8, aE cA 256 zf), (q17, aE cA 4096 zf)]) [0, 1, 2] (by decide) rfl ?_
  refine GG.widen (k := 2) (n := 4352) (Nat.le_of_ble_eq_true rfl) (Nat.le_of_ble_eq_true rfl) ?_
  refine g_putfinal (ws' := [(y, .inr (4, [.int (iI 0), .ref q8, .ref q17, .null, .null, .null, .int (iI 0), .null, .int (iI 0), .int (iI 0), .null, .int (iI 0), .null, .int (iI 0), .int (iI 0), .null, .int (iI 0)])), (q8, aE cA 256 zf), (q17, aE cA 4096 zf)]) E hin dX4_init_19 0 2 rfl rfl (by decide) iX4 tyX4 tyX4_ok nmX4 wd_118 rfl rfl rfl rfl rfl rfl (Nat.le_of_ble_eq_true rfl) rfl ?_
  refine g_aload_n E dX4_init_22 rfl 0 rfl ?_
  refine g_sipush E dX4_init_23 (by decide) ?_
  refine g_newarray (n := 4096) E dX4_init_26 wd_259 (by decide) rfl (by decide) (Nat.le_of_ble_eq_true rfl) (Nat.le_of_ble_eq_true rfl) (fun q26 => ?_)
  refine GG.wss (ws' := [(y, .inr (4, [.int (iI 0), .ref q8, .ref q17, .null, .null, .null, .int (iI 0), .null, .int (iI 0), .int (iI 0), .null, .int (iI 0), .null, .int (iI 0), .int (iI 0), .null, .int (iI 0)])), (q8, aE cA 256 zf), (q17, aE cA 4096 zf), (q26, aE cA 4096 zf)]) [0, 1, 2, 3] (by decide) rfl ?_
  refine GG.widen (k := 3) (n := 8448) (Nat.le_of_ble_eq_true rfl) (Nat.le_of_ble_eq_true rfl) ?_
  refine g_putfinal (ws' := [(y, .inr (4, [.int (iI 0), .ref q8, .ref q17, .ref q26, .null, .null, .int (iI 0), .null, .int (iI 0), .int (iI 0), .null, .int (iI 0), .null, .int (iI 0), .int (iI 0), .null, .int (iI 0)])), (q8, aE cA 256 zf), (q17, aE cA 4096 zf), (q26, aE cA 4096 zf)]) E hin dX4_init_28 0 3 rfl rfl (by decide) iX4 tyX4 tyX4_ok nmX4 wd_117 rfl rfl rfl rfl rfl rfl (Nat.le_of_ble_eq_true rfl) rfl ?_
  refine g_aload_n E dX4_init_31 rfl 0 rfl ?_
  refine g_bipush E dX4_init_32 (by decide) ?_
  refine g_newarray (n := 32) E dX4_init_34 wd_259 (by decide) rfl (by decide) (Nat.le_of_ble_eq_true rfl) (Nat.le_of_ble_eq_true rfl) (fun q34 => ?_)
  refine GG.wss (ws' := [(y, .inr (4, [.int (iI 0), .ref q8, .ref q17, .ref q26, .null, .null, .int (iI 0), .null, .int (iI 0), .int (iI 0), .null, .int (iI 0), .null, .int (iI 0), .int (iI 0), .null, .int (iI 0)])), (q8, aE cA 256 zf), (q17, aE cA 4096 zf), (q26, aE cA 4096 zf), (q34, aE cA 32 zf)]) [0, 1, 2, 3, 4] (by decide) rfl ?_
  refine GG.widen (k := 4) (n := 8480) (Nat.le_of_ble_eq_true rfl) (Nat.le_of_ble_eq_true rfl) ?_
  refine g_putfinal (ws' := [(y, .inr (4, [.int (iI 0), .ref q8, .ref q17, .ref q26, .ref q34, .null, .int (iI 0), .null, .int (iI 0), .int (iI 0), .null, .int (iI 0), .null, .int (iI 0), .int (iI 0), .null, .int (iI 0)])), (q8, aE cA 256 zf), (q17, aE cA 4096 zf), (q26, aE cA 4096 zf), (q34, aE cA 32 zf)]) E hin dX4_init_36 0 4 rfl rfl (by decide) iX4 tyX4 tyX4_ok nmX4 wd_135 rfl rfl rfl rfl rfl rfl (Nat.le_of_ble_eq_true rfl) rfl ?_
  refine g_aload_n E dX4_init_39 rfl 0 rfl ?_
  refine g_bipush E dX4_init_40 (by decide) ?_
  refine g_newarray (n := 32) E dX4_init_42 wd_259 (by decide) rfl (by decide) (Nat.le_of_ble_eq_true rfl) (Nat.le_of_ble_eq_true rfl) (fun q42 => ?_)
  refine GG.wss (ws' := [(y, .inr (4, [.int (iI 0), .ref q8, .ref q17, .ref q26, .ref q34, .null, .int (iI 0), .null, .int (iI 0), .int (iI 0), .null, .int (iI 0), .null, .int (iI 0), .int (iI 0), .null, .int (iI 0)])), (q8, aE cA 256 zf), (q17, aE cA 4096 zf), (q26, aE cA 4096 zf), (q34, aE cA 32 zf), (q42, aE cA 32 zf)]) [0, 1, 2, 3, 4, 5] (by decide) rfl ?_
  refine GG.widen (k := 5) (n := 8512) (Nat.le_of_ble_eq_true rfl) (Nat.le_of_ble_eq_true rfl) ?_
  refine g_putfinal (ws' := [(y, .inr (4, [.int (iI 0), .ref q8, .ref q17, .ref q26, .ref q34, .ref q42, .int (iI 0), .null, .int (iI 0), .int (iI 0), .null, .int (iI 0), .null, .int (iI 0), .int (iI 0), .null, .int (iI 0)])), (q8, aE cA 256 zf), (q17, aE cA 4096 zf), (q26, aE cA 4096 zf), (q34, aE cA 32 zf), (q42, aE cA 32 zf)]) E hin dX4_init_44 0 5 rfl rfl (by decide) iX4 tyX4 tyX4_ok nmX4 wd_156 rfl rfl rfl rfl rfl rfl (Nat.le_of_ble_eq_true rfl) rfl ?_
  refine g_aload_n E dX4_init_47 rfl 0 rfl ?_
  refine g_sipush E dX4_init_48 (by decide) ?_
  refine g_newarray (n := 600) E dX4_init_51 wd_259 (by decide) rfl (by decide) (Nat.le_of_ble_eq_true rfl) (Nat.le_of_ble_eq_true rfl) (fun q51 => ?_)
  refine GG.wss (ws' := [(y, .inr (4, [.int (iI 0), .ref q8, .ref q17, .ref q26, .ref q34, .ref q42, .int (iI 0), .null, .int (iI 0), .int (iI 0), .null, .int (iI 0), .null, .int (iI 0), .int (iI 0), .null, .int (iI 0)])), (q8, aE cA 256 zf), (q17, aE cA 4096 zf), (q26, aE cA 4096 zf), (q34, aE cA 32 zf), (q42, aE cA 32 zf), (q51, aE cA 600 zf)]) [0, 1, 2, 3, 4, 5, 6] (by decide) rfl ?_
  refine GG.widen (k := 6) (n := 9112) (Nat.le_of_ble_eq_true rfl) (Nat.le_of_ble_eq_true rfl) ?_
  refine g_putfinal (ws' := [(y, .inr (4, [.int (iI 0), .ref q8, .ref q17, .ref q26, .ref q34, .ref q42, .int (iI 0), .ref q51, .int (iI 0), .int (iI 0), .null, .int (iI 0), .null, .int (iI 0), .int (iI 0), .null, .int (iI 0)])), (q8, aE cA 256 zf), (q17, aE cA 4096 zf), (q26, aE cA 4096 zf), (q34, aE cA 32 zf), (q42, aE cA 32 zf), (q51, aE cA 600 zf)]) E hin dX4_init_53 0 7 rfl rfl (by decide) iX4 tyX4 tyX4_ok nmX4 wd_17 rfl rfl rfl rfl rfl rfl (Nat.le_of_ble_eq_true rfl) rfl ?_
  refine g_aload_n E dX4_init_56 rfl 0 rfl ?_
  refine g_iconst E dX4_init_57 ?_
  refine g_putfield (ws' := [(y, .inr (4, [.int (iI 0), .ref q8, .ref q17, .ref q26, .ref q34, .ref q42, .int (iI 0), .ref q51, .int (iI (-1)), .int (iI 0), .null, .int (iI 0), .null, .int (iI 0), .int (iI 0), .null, .int (iI 0)])), (q8, aE cA 256 zf), (q17, aE cA 4096 zf), (q26, aE cA 4096 zf), (q34, aE cA 32 zf), (q42, aE cA 32 zf), (q51, aE cA 600 zf)]) E dX4_init_58 0 8 rfl rfl (by decide) iX4 tyX4 tyX4_ok nmX4 wd_7 rfl rfl rfl rfl rfl (Nat.le_of_ble_eq_true rfl) rfl ?_
  refine g_aload_n E dX4_init_61 rfl 0 rfl ?_
  refine g_sipush E dX4_init_62 (by decide) ?_
  refine g_newarray (n := 600) E dX4_init_65 wd_259 (by decide) rfl (by decide) (Nat.le_of_ble_eq_true rfl) (Nat.le_of_ble_eq_true rfl) (fun q65 => ?_)
  refine GG.wss (ws' := [(y, .inr (4, [.int (iI 0), .ref q8, .ref q17, .ref q26, .ref q34, .ref q42, .int (iI 0), .ref q51, .int (iI (-1)), .int (iI 0), .null, .int (iI 0), .null, .int (iI 0), .int (iI 0), .null, .int (iI 0)])), (q8, aE cA 256 zf), (q17, aE cA 4096 zf), (q26, aE cA 4096 zf), (q34, aE cA 32 zf), (q42, aE cA 32 zf), (q51, aE cA 600 zf), (q65, aE cA 600 zf)]) [0, 1, 2, 3, 4, 5, 6, 7] (by decide) rfl ?_
  refine GG.widen (k := 7) (n := 9712) (Nat.le_of_ble_eq_true rfl) (Nat.le_of_ble_eq_true rfl) ?_
  refine g_putfinal (ws' := [(y, .inr (4, [.int (iI 0), .ref q8, .ref q17, .ref q26, .ref q34, .ref q42, .int (iI 0), .ref q51, .int (iI (-1)), .int (iI 0), .ref q65, .int (iI 0), .null, .int (iI 0), .int (iI 0), .null, .int (iI 0)])), (q8, aE cA 256 zf), (q17, aE cA 4096 zf), (q26, aE cA 4096 zf), (q34, aE cA 32 zf), (q42, aE cA 32 zf), (q51, aE cA 600 zf), (q65, aE cA 600 zf)]) E hin dX4_init_67 0 10 rfl rfl (by decide) iX4 tyX4 tyX4_ok nmX4 wd_48 rfl rfl rfl rfl rfl rfl (Nat.le_of_ble_eq_true rfl) rfl ?_
  refine g_aload_n E dX4_init_70 rfl 0 rfl ?_
  refine g_sipush E dX4_init_71 (by decide) ?_
  refine g_newarray (n := 600) E dX4_init_74 wd_259 (by decide) rfl (by decide) (Nat.le_of_ble_eq_true rfl) (Nat.le_of_ble_eq_true rfl) (fun q74 => ?_)
  refine GG.wss (ws' := [(y, .inr (4, [.int (iI 0), .ref q8, .ref q17, .ref q26, .ref q34, .ref q42, .int (iI 0), .ref q51, .int (iI (-1)), .int (iI 0), .ref q65, .int (iI 0), .null, .int (iI 0), .int (iI 0), .null, .int (iI 0)])), (q8, aE cA 256 zf), (q17, aE cA 4096 zf), (q26, aE cA 4096 zf), (q34, aE cA 32 zf), (q42, aE cA 32 zf), (q51, aE cA 600 zf), (q65, aE cA 600 zf), (q74, aE cA 600 zf)]) [0, 1, 2, 3, 4, 5, 6, 7, 8] (by decide) rfl ?_
  refine GG.widen (k := 8) (n := 10312) (Nat.le_of_ble_eq_true rfl) (Nat.le_of_ble_eq_true rfl) ?_
  refine g_putfinal (ws' := [(y, .inr (4, [.int (iI 0), .ref q8, .ref q17, .ref q26, .ref q34, .ref q42, .int (iI 0), .ref q51, .int (iI (-1)), .int (iI 0), .ref q65, .int (iI 0), .ref q74, .int (iI 0), .int (iI 0), .null, .int (iI 0)])), (q8, aE cA 256 zf), (q17, aE cA 4096 zf), (q26, aE cA 4096 zf), (q34, aE cA 32 zf), (q42, aE cA 32 zf), (q51, aE cA 600 zf), (q65, aE cA 600 zf), (q74, aE cA 600 zf)]) E hin dX4_init_76 0 12 rfl rfl (by decide) iX4 tyX4 tyX4_ok nmX4 wd_105 rfl rfl rfl rfl rfl rfl (Nat.le_of_ble_eq_true rfl) rfl ?_
  refine g_aload_n E dX4_init_79 rfl 0 rfl ?_
  refine g_sipush E dX4_init_80 (by decide) ?_
  refine g_newarray (n := 256) E dX4_init_83 wd_259 (by decide) rfl (by decide) (Nat.le_of_ble_eq_true rfl) (Nat.le_of_ble_eq_true rfl) (fun q83 => ?_)
  refine GG.wss (ws' := [(y, .inr (4, [.int (iI 0), .ref q8, .ref q17, .ref q26, .ref q34, .ref q42, .int (iI 0), .ref q51, .int (iI (-1)), .int (iI 0), .ref q65, .int (iI 0), .ref q74, .int (iI 0), .int (iI 0), .null, .int (iI 0)])), (q8, aE cA 256 zf), (q17, aE cA 4096 zf), (q26, aE cA 4096 zf), (q34, aE cA 32 zf), (q42, aE cA 32 zf), (q51, aE cA 600 zf), (q65, aE cA 600 zf), (q74, aE cA 600 zf), (q83, aE cA 256 zf)]) [0, 1, 2, 3, 4, 5, 6, 7, 8, 9] (by decide) rfl ?_
  refine GG.widen (k := 9) (n := 10568) (Nat.le_of_ble_eq_true rfl) (Nat.le_of_ble_eq_true rfl) ?_
  refine g_putfinal (ws' := [(y, .inr (4, [.int (iI 0), .ref q8, .ref q17, .ref q26, .ref q34, .ref q42, .int (iI 0), .ref q51, .int (iI (-1)), .int (iI 0), .ref q65, .int (iI 0), .ref q74, .int (iI 0), .int (iI 0), .ref q83, .int (iI 0)])), (q8, aE cA 256 zf), (q17, aE cA 4096 zf), (q26, aE cA 4096 zf), (q34, aE cA 32 zf), (q42, aE cA 32 zf), (q51, aE cA 600 zf), (q65, aE cA 600 zf), (q74, aE cA 600 zf), (q83, aE cA 256 zf)]) E hin dX4_init_85 0 15 rfl rfl (by decide) iX4 tyX4 tyX4_ok nmX4 wd_111 rfl rfl rfl rfl rfl rfl (Nat.le_of_ble_eq_true rfl) rfl ?_
  refine g_aload_n E dX4_init_88 rfl 0 rfl ?_
  refine g_iload_n E dX4_init_89 rfl 1 rfl ?_
  refine g_if_ge (tgt := 97) E dX4_init_90 (by decide) ⟨(by omega), (by omega)⟩ (fun c_90 => ?_) (fun c_90 => ?_)
  · skip
    refine g_iload_n E dX4_init_97 rfl 1 rfl ?_
    refine g_sipush E dX4_init_98 (by decide) ?_
    refine g_icmp_le (tgt := 110) E dX4_init_101 (by decide) ⟨(by omega), (by omega)⟩ ⟨(by omega), (by omega)⟩ (fun c_101 => ?_) (fun c_101 => ?_)
    · skip
      refine g_iload_n E dX4_init_110 rfl 1 rfl ?_
      refine g_putfinal (ws' := [(y, .inr (4, [.int (iI c0), .ref q8, .ref q17, .ref q26, .ref q34, .ref q42, .int (iI 0), .ref q51, .int (iI (-1)), .int (iI 0), .ref q65, .int (iI 0), .ref q74, .int (iI 0), .int (iI 0), .ref q83, .int (iI 0)])), (q8, aE cA 256 zf), (q17, aE cA 4096 zf), (q26, aE cA 4096 zf), (q34, aE cA 32 zf), (q42, aE cA 32 zf), (q51, aE cA 600 zf), (q65, aE cA 600 zf), (q74, aE cA 600 zf), (q83, aE cA 256 zf)]) E hin dX4_init_111 0 0 rfl rfl (by decide) iX4 tyX4 tyX4_ok nmX4 wd_116 rfl rfl rfl rfl rfl rfl (Nat.le_of_ble_eq_true rfl) rfl ?_
      refine g_return E dX4_init_114 ?_
      exact ⟨q8, q17, q26, q34, q42, q51, q65, q74, q83, _, by omega, rfl⟩
    · skip
      refine g_sipush E dX4_init_104 (by decide) ?_
      refine g_goto (tgt := 111) E dX4_init_107 (by decide) ?_
      refine g_putfinal (ws' := [(y, .inr (4, [.int (iI 4096), .ref q8, .ref q17, .ref q26, .ref q34, .ref q42, .int (iI 0), .ref q51, .int (iI (-1)), .int (iI 0), .ref q65, .int (iI 0), .ref q74, .int (iI 0), .int (iI 0), .ref q83, .int (iI 0)])), (q8, aE cA 256 zf), (q17, aE cA 4096 zf), (q26, aE cA 4096 zf), (q34, aE cA 32 zf), (q42, aE cA 32 zf), (q51, aE cA 600 zf), (q65, aE cA 600 zf), (q74, aE cA 600 zf), (q83, aE cA 256 zf)]) E hin dX4_init_111 0 0 rfl rfl (by decide) iX4 tyX4 tyX4_ok nmX4 wd_116 rfl rfl rfl rfl rfl rfl (Nat.le_of_ble_eq_true rfl) rfl ?_
      refine g_return E dX4_init_114 ?_
      exact ⟨q8, q17, q26, q34, q42, q51, q65, q74, q83, _, by omega, rfl⟩
  · skip
    refine g_iconst E dX4_init_93 ?_
    refine g_goto (tgt := 111) E dX4_init_94 (by decide) ?_
    refine g_putfinal (ws' := [(y, .inr (4, [.int (iI 0), .ref q8, .ref q17, .ref q26, .ref q34, .ref q42, .int (iI 0), .ref q51, .int (iI (-1)), .int (iI 0), .ref q65, .int (iI 0), .ref q74, .int (iI 0), .int (iI 0), .ref q83, .int (iI 0)])), (q8, aE cA 256 zf), (q17, aE cA 4096 zf), (q26, aE cA 4096 zf), (q34, aE cA 32 zf), (q42, aE cA 32 zf), (q51, aE cA 600 zf), (q65, aE cA 600 zf), (q74, aE cA 600 zf), (q83, aE cA 256 zf)]) E hin dX4_init_111 0 0 rfl rfl (by decide) iX4 tyX4 tyX4_ok nmX4 wd_116 rfl rfl rfl rfl rfl rfl (Nat.le_of_ble_eq_true rfl) rfl ?_
    refine g_return E dX4_init_114 ?_
    exact ⟨q8, q17, q26, q34, q42, q51, q65, q74, q83, _, by omega, rfl⟩
