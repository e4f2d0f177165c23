/-! THE CLAIM OUT OF ONE WALK OF THE LAW'S BODY. Your part is whole_start (and what it stands on); all else here is the same for every law, but numbers. -/
def R_law : String := "PackedSlotsLaw"
def lw_P (b : Addr) (xs : List Int32) (args : Array Value) (s : State) : Prop := args = #[.ref b] ∧ s.IntsAt b xs ∧ xs.length ≤ 2049 ∧ (Jvm.Cond.and given_1 narrow_1).before args s = true
def lw_Q (_ : Array Value) (s : State) (o : Outcome) (t : State) : Prop := o = .returned (some (.int 1)) ∧ Framed s o t [] 600000 7302250
def lw_Z (below : List Frame) (a : Array Value) (s : State) : State → Prop := fun t => ∃ o, t.status = .running ∧ Ended t below o ∧ lw_Q a s o t
/-- the law's own end, with 1 on the stack, nothing written that was there before, its room as the claim has it -/
theorem lw_ret {p : Program} {l : Launch} {e : Env} {s : State} {m : MethodId} {below : List Frame} {meth : Method} {c : Code} {b : Nat} (hx : p.tables.exec = Jvm.exec) (hb : c.code = code) (hr : meth.sig.returnType = ret) (hlocks : meth.locks = false) {pc : Nat} {H : Heap} {ls : Array Slot} (hdg : decode code pc = .ok (.ireturn, 1)) : W p l e room_1 s m #[Value.ref b] below meth c H [] 600000 7302250 (lw_Z below #[Value.ref b] s) (F0 m pc ls [.int 1]) := by
  intro T hT X
  obtain ⟨fs, hret, hrun, hended, hW, hframe⟩ := X.leave (v := some (.int 1)) (hlocks := hlocks) (fun h => by rw [hr] at h; cases h)
  have hmeth' : T.vm.method? m = some meth := X.method'
  refine ⟨T.setFrames fs, ?_, .returned (some (.int 1)), hrun, hended, rfl, ⟨_, rfl⟩, hW, hframe⟩
  jvm_step X.here [X.here.top, hx, hb, hdg, hmeth', hr, ret, narrow_b1]
  (try refine ⟨rfl, ?_⟩); (try refine ⟨rfl, ?_⟩)
  first | (intro acts; rw [hret _ acts rfl rfl rfl]) | rw [hret _ _ rfl rfl rfl]
  exact Steps.refl _
/-- what holds at the law's entry: the machine, the code, the tables' words (any of lw_tbl by 'hts w (by decide +kernel)'), the script of L ints xs at the cell b, what the Statement gives of the start (any of its parts by flat_of_before) -/
def lw_At (p : Program) (s : State) (m : MethodId) (meth : Method) (c : Code) (b L : Nat) (xs : Nat → Int32) : Prop :=
  p.tables.exec = Jvm.exec ∧ c.code = code ∧ meth.sig.returnType = ret ∧ c.maxLocals = 4 ∧ s.vm.findClass R_law = some m.cls ∧ (∀ w ∈ lw_tbl, w.before #[Value.ref b] s = true) ∧ va_X b L xs s s.heap ∧ b < s.heap.size ∧ meth.locks = false ∧ (Jvm.Cond.and given_1 narrow_1).before #[Value.ref b] s = true

def xz (xs : Nat → Int32) (k : Int) : Int := (xs k.toNat).toInt
theorem xz_b (xs : Nat → Int32) (k : Int) : iB (xz xs k) := ⟨Int32.le_toInt _, Int32.toInt_lt _⟩
theorem xz_e (xs : Nat → Int32) (k : Int) : xs k.toNat = iI (xz xs k) := (Int32.ofInt_toInt _).symm
section GGl
variable {p : Program} {l : Launch} {e : Env} {R : Room} {s : State} {m : MethodId} {args : Array Value} {below : List Frame} {meth : Method} {c : Code} {cells slots : Nat} {Q : State → Prop} {cc : ByteArray} {nL : Nat} {ret : Option FieldType} {own : String} {D : va_G} {cl : List vw_C} {cA : ClassId} {A : Nat → Prop} {ws ws' : va_W} {lv lv' : List (Nat × Value)} {pc : Nat} {st rest : List Value} {b L : Nat} {xs : Nat → Int32}
def ScX (b L : Nat) (xs : Nat → Int32) (A : Nat → Prop) (s : State) : Prop := va_X b L xs s s.heap ∧ b < s.heap.size ∧ ¬ A b
theorem g_sld (E : Am p m meth c cc nL ret s args own D cl cA A) (X : ScX b L xs A s) {z : Int} (hd : decode cc pc = .ok (.iaload, 1)) (h0 : 0 ≤ z) (h1 : z < (L : Int)) (hL : L ≤ 2147483647) (K : GG p l e R s m args below meth c D cl A nL Q cells slots ws lv (pc + 1) (.int (iI (xz xs z)) :: st)) : GG p l e R s m args below meth c D cl A nL Q cells slots ws lv pc (.int (iI z) :: .ref b :: st) :=
  fun H locs ls hP hD hS hl => va_sld E.1 E.2.1 X.1 X.2.1 X.2.2 hS (iI_in h0 h1 hL) hd (by
    rw [iI_clamp h0 (by omega), xz_e xs z]; exact K H locs ls hP hD hS hl)
theorem g_slen (E : Am p m meth c cc nL ret s args own D cl cA A) (X : ScX b L xs A s) (hd : decode cc pc = .ok (.arraylength, 1)) (K : GG p l e R s m args below meth c D cl A nL Q cells slots ws lv (pc + 1) (.int (iI (L : Int)) :: st)) : GG p l e R s m args below meth c D cl A nL Q cells slots ws lv pc (.ref b :: st) :=
  fun H locs ls hP hD hS hl => va_slen E.1 E.2.1 X.1 X.2.1 X.2.2 hS hd (K H locs ls hP hD hS hl)
theorem g_icmp_eqT (E : Am p m meth c cc nL ret s args own D cl cA A) {a d off : Int} {tgt : Nat} (hd : decode cc pc = .ok (.if_icmp .eq off, 3)) (ht : (pc : Int) + off = (tgt : Int)) (h : a = d) (K : GG p l e R s m args below meth c D cl A nL Q cells slots ws lv tgt st) : GG p l e R s m args below meth c D cl A nL Q cells slots ws lv pc (.int (iI d) :: .int (iI a) :: st) :=
  fun H locs ls hP hD hS hl => lv_icmp_eq E.1 E.2.1 hd ht (fun _ => K H locs ls hP hD hS hl) (fun q => absurd (by rw [h]) q)
end GGl
-- the law's own 'cell': it reads the script, which no world holds
def CiX (l : Launch) (D : va_G) (cl : List vw_C) (cA : ClassId) (y : MethodName) (w : List Cond) (rm : Room) (av : List Value) (b L : Nat) (xs : Nat → Int32) (post : Int → va_W → Prop) : Prop :=
  ∀ sz : Nat, Met l y w rm (va_Pc av (fun U => Pre0 D cl cA [] sz U ∧ va_X b L xs U U.heap ∧ b < U.heap.size)) (va_Qi (fun r w => ∃ z : Int, r = iI z ∧ post z w) (Bw D cl cA (va_A [] sz)) (va_A [] sz)) 0 0 (va_A [] sz)
set_option maxHeartbeats 4000000 in
set_option maxRecDepth 100000 in
theorem c_L_cell (l : Launch) (D : va_G) (cA : ClassId) (b L : Nat) (xs : Nat → Int32) (hL : L ≤ 2049) (k : Int) (hk : 0 ≤ k ∧ k < 100) : CiX l D vwCl cA yL_cell (.code yL_cell cL_cell 2 (some .int) :: UW) ({ frames := 0, cells := 0, slots := 0, locals := 0 }) [.ref b, .int (iI k)] b L xs (fun (r : Int) (w : va_W) => r = (if k < (L : Int) then xz xs k else 0) ∧ w = []) := by
  intro sz
  refine Met.ofW (cc := cL_cell) (maxL := 2) (ret := some .int) (by decide) rfl ?_
  intro p e s m args below meth c s₁ B hml hv
  obtain ⟨rfl, ⟨hsz, hP, hK, hD0⟩, hX, hbl⟩ := hv
  have hts := atoms_spec (ws := .code yL_cell cL_cell 2 (some .int) :: UW) B.pre
  subst hsz
  have hD := hD0.self (sz := s.heap.size)
  have hl := lv_entry [.ref b, .int (iI k)] (n := 2) (Nat.le_of_ble_eq_true rfl)
  rw [lg_entry_eq]
  have E : Am p m meth c cL_cell 2 (some .int) s _ yL_cell.cls D vwCl cA (va_A [] s.heap.size) := ⟨B.exec, B.bytes, hml, findClass_of_methodNamed B.named, fun w h => hts w (List.mem_cons_of_mem _ h), hK, fun q h => Or.inr h, B.returns, B.notSynchronized⟩
  have X : ScX b L xs (va_A [] s.heap.size) s := ⟨hX, hbl, fun q => by
    rcases q with ⟨i, e, q⟩ | q
    · simp at q
    · omega⟩
  have G : GG p l e ({ frames := 0, cells := 0, slots := 0, locals := 0 }) s m #[Value.ref b, Value.int (iI k)] below meth c D vwCl (va_A [] s.heap.size) 2 (QI D vwCl cA (va_A [] s.heap.size) below #[Value.ref b, Value.int (iI k)] s 0 0 (fun (r : Int) (w : va_W) => r = (if k < (L : Int) then xz xs k else 0) ∧ w = [])) 0 0 [] (lv_args 0 [.ref b, .int (iI k)]) 0 [] := by
    refine GG.lvs (lv' := [(0, .ref b), (1, .int (iI k))]) [0, 1] rfl ?_
    refine g_iload_n E dL_cell_0 rfl 1 rfl ?_
    refine g_aload_n E dL_cell_1 rfl 0 rfl ?_
    refine g_slen E X dL_cell_2 ?_
    refine g_icmp_ge (tgt := 12) E dL_cell_3 (by decide) ⟨by omega, by omega⟩ ⟨by omega, by omega⟩ (fun c_3 => ?_) (fun c_3 => ?_)
    · refine g_iconst E dL_cell_12 ?_
      refine g_ireturn E dL_cell_13 ?_
      exact ⟨by rw [if_neg (by omega)], rfl⟩
    · refine g_aload_n E dL_cell_6 rfl 0 rfl ?_
      refine g_iload_n E dL_cell_7 rfl 1 rfl ?_
      refine g_sld E X dL_cell_8 hk.1 c_3 (by omega) ?_
      refine g_goto (tgt := 13) E dL_cell_9 (by decide) ?_
      refine g_ireturn E dL_cell_13 ?_
      exact ⟨by rw [if_pos c_3], rfl⟩
  exact G s.heap [] _ hP hD va_S.rf hl
section GGx
variable {p : Program} {l : Launch} {e : Env} {R : Room} {s : State} {m : MethodId} {args : Array Value} {below : List Frame} {meth : Method} {c : Code} {cells slots : Nat} {Q : State → Prop} {cc : ByteArray} {nL : Nat} {ret : Option FieldType} {own : String} {D : va_G} {cl : List vw_C} {cA : ClassId} {A : Nat → Prop} {ws ws' : va_W} {lv lv' : List (Nat × Value)} {pc : Nat} {st rest : List Value} {b L : Nat} {xs : Nat → Int32}
variable {y : MethodName} {bytes : ByteArray} {maxL n index : Nat} {ret' : Option FieldType} {rm : Room} {As : List Value}
theorem g_callX (E : Am p m meth c cc nL ret s args own D cl cA A) (X : ScX b L xs A s) {post : Int → va_W → Prop} (hd : decode cc pc = .ok (.invokestatic index, 3)) (M : CiX l D cl cA y (.code y bytes maxL ret' :: UW) rm As b L xs post) (hcode : Cond.code y bytes maxL ret' ∈ UW) (hlink : Cond.methodLink own index y ∈ UW) (hstat : Cond.static y ∈ UW) (hini : Cond.initialized y.cls ∈ UW) (hdd : y.cls ≠ "java/lang/invoke/MethodHandle" ∧ y.cls ≠ "java/lang/invoke/VarHandle" ∧ (parseMethodDescriptor y.desc).map (fun d => d.parameters.length) = some n) (hR : (rm.cells = 0 ∧ rm.slots = 0) ∧ (rm.frames + 1 ≤ R.frames ∧ 8 + (maxL + 11) + rm.locals ≤ R.locals) ∧ (cells + 0 ≤ R.cells ∧ slots + 0 ≤ R.slots)) (hlen : As.length = n) (hst : st = As.reverse ++ rest) (hcat : (rest.map fun v => v.category).sum ≤ 8) (K : ∀ z : Int, post z [] → GG p l e R s m args below meth c D cl A nL Q cells slots ws lv (pc + 3) (.int (iI z) :: rest)) (hpost : ∀ z w, post z w → w = []) : GG p l e R s m args below meth c D cl A nL Q cells slots ws lv pc st := by
  intro H locs ls hP hD hS hl
  subst hst
  have hPc : va_P D cl [] H := fun k q h => by simp at h
  have hDc : va_D (fun _ => True) [] := ⟨fun i j p q h => by simp at h, fun k q h => by simp at h⟩
  have hFc : ∀ q, va_A [] H.size q → A q := fun q h => by
    rcases h with ⟨i, e, h⟩ | h
    · simp at h
    · exact E.2.2.2.2.2.2.1 q (Nat.le_trans hS.1 h)
  have hK := E.2.2.2.2.2.1
  have hts := E.2.2.2.2.1
  have hXH : va_X b L xs s H := X.1.kept (hS.2.1 b X.2.1 X.2.2)
  refine va_calli (va_runS (As := As) (rest := rest) (Ts := UW) ⟨E.1, E.2.1, E.2.2.1, E.2.2.2.1, hts⟩ (M H.size) ⟨callB_of n hts (uw_goodC hcode (fun _ h => h)) rfl hR.1.1 hR.1.2 (hts _ hini) (hts _ hlink) hdd hR.2.1, hts _ hstat⟩ ⟨fun a U g mk q => ?_, fun U hU hW => ⟨rfl, ⟨by rw [hU], by rw [hU]; exact hPc, va_K.moved hW.alike hK, hDc⟩, by rw [hU]; exact hXH.moved hW.alike, by rw [hU]; exact Nat.lt_of_lt_of_le X.2.1 hS.1⟩⟩ rfl hlen hl.1 rfl (lv_room hcat) hd hR.2.2) hS (fun q _ h => hFc q h) hFc (fun r u t H1 locs1 ht hvm hw hB hz1 hk1 hS1 => ?_)
  · obtain ⟨q0, ⟨q1, qP, qK, qD⟩, q2, q3⟩ := q
    exact ⟨q0, ⟨q1, qP, va_K.moved (u := U) (U := U.calling g mk a) (Vm.Alike.refl U.vm) qK, qD⟩, va_X.moved (u := U) (U := U.calling g mk a) (Vm.Alike.refl U.vm) q2, q3⟩
  · obtain ⟨z, rfl, hp⟩ := hw
    have hu := hpost z u hp
    subst hu
    refine K z hp H1 locs1 ls (hP.kept (fun k q hq => hk1 q.1 (hP k q hq).lt (fun h => ?_))) hD hS1 hl
    rcases h with ⟨i, e, h⟩ | h
    · simp at h
    · exact absurd (hP k q hq).lt (by omega)
end GGx
theorem g_lawend {p : Program} {l : Launch} {e : Env} {s : State} {m : MethodId} {below : List Frame} {meth : Method} {c : Code} {b : Nat} {D : va_G} {cA : ClassId} {ws : va_W} {lv : List (Nat × Value)} {pc : Nat} (E : Am p m meth c code 4 ret s #[Value.ref b] RL D vwCl cA (fun q : Nat => s.heap.size ≤ q)) (hd : decode code pc = .ok (.ireturn, 1)) : GG p l e room_1 s m #[Value.ref b] below meth c D vwCl (fun q : Nat => s.heap.size ≤ q) 4 (lw_Z below #[Value.ref b] s) 600000 7302250 ws lv pc [.int (iI 1)] :=
  fun H locs ls hP hD hS hl => va_forget (fun q hq => hS.2.2 q hq) (lw_ret E.1 E.2.1 E.2.2.2.2.2.2.2.1 E.2.2.2.2.2.2.2.2 hd)
