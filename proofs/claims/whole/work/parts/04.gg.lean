-- NUMBERS: every int is iI z of an integer z; arrays are functions of integers
def iI (z : Int) : Int32 := Int32.ofInt z
abbrev iB (z : Int) : Prop := -2147483648 ≤ z ∧ z < 2147483648
theorem iI_add (a b : Int) : iI a + iI b = iI (a + b) := (Int32.ofInt_add a b).symm
theorem iI_sub (a b : Int) : iI a - iI b = iI (a - b) := (Int32.ofInt_sub a b).symm
theorem iI_mul (a b : Int) : iI a * iI b = iI (a * b) := (Int32.ofInt_mul a b).symm
theorem iI_neg (a : Int) : - iI a = iI (-a) := (Int32.ofInt_neg a).symm
theorem iI_toInt {z : Int} (h : iB z) : (iI z).toInt = z := Int32.toInt_ofInt_of_le h.1 h.2
theorem iI_of (x : Int32) : ∃ z : Int, iB z ∧ x = iI z := ⟨x.toInt, ⟨Int32.le_toInt x, Int32.toInt_lt x⟩, (Int32.ofInt_toInt x).symm⟩
theorem iI_lt {a b : Int} (ha : iB a) (hb : iB b) : iI a < iI b ↔ a < b := by rw [Int32.lt_iff_toInt_lt, iI_toInt ha, iI_toInt hb]
theorem iI_le {a b : Int} (ha : iB a) (hb : iB b) : iI a ≤ iI b ↔ a ≤ b := by rw [Int32.le_iff_toInt_le, iI_toInt ha, iI_toInt hb]
theorem iI_eq {a b : Int} (ha : iB a) (hb : iB b) : iI a = iI b ↔ a = b := by rw [← Int32.toInt_inj, iI_toInt ha, iI_toInt hb]
theorem iI_z : (0 : Int32) = iI 0 := by decide
theorem iI_b0 : iB 0 := by decide
theorem iI_nI (n : Nat) : nI n = iI (n : Int) := rfl
theorem iI_clamp {z : Int} (h0 : 0 ≤ z) (h : z < 2147483648) : (iI z).toNatClampNeg = z.toNat := by
  show (iI z).toInt.toNat = _
  rw [iI_toInt ⟨by omega, h⟩]
theorem iI_n0 {z : Int} (h0 : 0 ≤ z) (h : z < 2147483648) : ¬ iI z < 0 := by
  rw [iI_z, iI_lt ⟨by omega, h⟩ iI_b0]; omega
theorem iI_in {z : Int} {n : Nat} (h0 : 0 ≤ z) (h : z < n) (hn : n ≤ 2147483647) : vp_in (iI z) n := by
  intro q
  rcases q with q | q
  · exact iI_n0 h0 (by omega) q
  · rw [iI_clamp h0 (by omega)] at q; omega
def up (g : Int → Int) (z v : Int) : Int → Int := fun k => if k = z then v else g k
theorem up_s {g : Int → Int} {z v : Int} : up g z v z = v := if_pos rfl
theorem up_n {g : Int → Int} {z v k : Int} (h : k ≠ z) : up g z v k = g k := if_neg h
theorem iI_upd {g : Int → Int} {z v : Int} (h0 : 0 ≤ z) (h : z < 2147483648) : upd (fun k : Nat => iI (g (k : Int))) (iI z).toNatClampNeg (iI v) = fun k : Nat => iI (up g z v (k : Int)) := by
  funext k
  rw [iI_clamp h0 h]
  unfold upd up
  by_cases hk : k = z.toNat
  · rw [if_pos hk, if_pos (by omega)]
  · rw [if_neg hk, if_neg (by omega)]
def zf : Int → Int := fun _ => 0
theorem zf_0 (k : Int) : zf k = 0 := rfl
def cp (f g : Int → Int) (sp dp n : Int) : Int → Int := fun k => if dp ≤ k ∧ k < dp + n then f (sp + (k - dp)) else g k
theorem iI_cpy {f g : Int → Int} {sp dp n : Int} (h1 : 0 ≤ sp) (h2 : 0 ≤ dp) (h3 : 0 ≤ n) (h4 : sp < 2147483648) (h5 : dp < 2147483648) (h6 : n < 2147483648) : va_cpy (fun k : Nat => iI (f (k : Int))) (fun k : Nat => iI (g (k : Int))) (iI sp).toNatClampNeg (iI dp).toNatClampNeg (iI n).toNatClampNeg = fun k : Nat => iI (cp f g sp dp n (k : Int)) := by
  funext k
  rw [iI_clamp h1 h4, iI_clamp h2 h5, iI_clamp h3 h6]
  unfold va_cpy cp
  by_cases hk : dp.toNat ≤ k ∧ k < dp.toNat + n.toNat
  · rw [if_pos hk, if_pos (by omega)]
    show iI (f _) = iI (f _)
    congr 2
    omega
  · rw [if_neg hk, if_neg (by omega)]
abbrev aE (cA : ClassId) (n : Nat) (g : Int → Int) : va_E := .inl (cA, n, .inl (fun k : Nat => iI (g (k : Int))))
theorem iI_bv (a : Int) : (iI a).toBitVec.toNat = (a % 4294967296).toNat := by
  show (BitVec.ofInt 32 a).toNat = _
  rw [BitVec.toNat_ofInt]; rfl
theorem iI_and (a : Int) {m : Int} (k : Nat) (hm : (iI m).toBitVec.toNat = 2 ^ k - 1) (hk : k ≤ 31) : iI a &&& iI m = iI (a % (2 ^ k : Nat)) := by
  rw [pk_and (iI a) k hm, iI_bv, iI_nI]
  congr 1
  have h1 : (2 ^ k : Nat) ∣ 4294967296 := by
    have : (4294967296 : Nat) = 2 ^ k * 2 ^ (32 - k) := by rw [← Nat.pow_add, show k + (32 - k) = 32 by omega]
    rw [this]; exact Nat.dvd_mul_right _ _
  have h2 : 0 ≤ a % 4294967296 := Int.emod_nonneg _ (by decide)
  rw [Int.natCast_emod, Int.toNat_of_nonneg h2]
  have h3 : ((2 ^ k : Nat) : Int) ∣ ((4294967296 : Nat) : Int) := Int.natCast_dvd_natCast.mpr h1
  exact Int.emod_emod_of_dvd a h3
theorem iI_and255 (a : Int) : iI a &&& iI 255 = iI (a % 256) := iI_and a (m := 255) 8 (by decide) (by decide)
theorem iI_and15 (a : Int) : iI a &&& iI 15 = iI (a % 16) := iI_and a (m := 15) 4 (by decide) (by decide)
def xr (a b : Int) : Int := ((a.toNat ^^^ b.toNat : Nat) : Int)
theorem iI_xor {a b : Int} (ha : 0 ≤ a) (hb : 0 ≤ b) : iI a ^^^ iI b = iI (xr a b) := by
  obtain ⟨x, rfl⟩ := Int.eq_ofNat_of_zero_le ha
  obtain ⟨y, rfl⟩ := Int.eq_ofNat_of_zero_le hb
  show nI x ^^^ nI y = nI ((x : Int).toNat ^^^ (y : Int).toNat)
  rw [Int.toNat_natCast, Int.toNat_natCast]
  apply Int32.toBitVec_inj.mp
  rw [Int32.toBitVec_xor]
  show BitVec.ofInt 32 (x : Int) ^^^ BitVec.ofInt 32 (y : Int) = BitVec.ofInt 32 ((x ^^^ y : Nat) : Int)
  rw [BitVec.ofInt_natCast, BitVec.ofInt_natCast, BitVec.ofInt_natCast, BitVec.ofNat_xor]
theorem iI_div {a b : Int} (ha : 0 ≤ a) (ha2 : a < 2147483648) (hb : 0 < b) (hb2 : b < 2147483648) : iI a / iI b = iI (a / b) := by
  obtain ⟨x, rfl⟩ := Int.eq_ofNat_of_zero_le ha
  obtain ⟨y, rfl⟩ := Int.eq_ofNat_of_zero_le (Int.le_of_lt hb)
  rw [← iI_nI, ← iI_nI, pk_div (by omega) (by omega) (by omega), iI_nI, Int.natCast_ediv]
theorem iI_rem {a b : Int} (ha : 0 ≤ a) (ha2 : a < 2147483648) (hb : 0 < b) (hb2 : b < 2147483648) : iI a - iI a / iI b * iI b = iI (a % b) := by
  obtain ⟨x, rfl⟩ := Int.eq_ofNat_of_zero_le ha
  obtain ⟨y, rfl⟩ := Int.eq_ofNat_of_zero_le (Int.le_of_lt hb)
  rw [← iI_nI, ← iI_nI, pk_rem (by omega) (by omega) (by omega), iI_nI, Int.natCast_emod]
theorem iI_su : ∀ n, n < 32 → (((nI n).toUInt32 &&& Int32.toUInt32 31).toBitVec % 32).toNat = n := by decide
theorem iI_sl : ∀ n, n < 32 → ((nI n &&& 31).toBitVec.smod 32).toNat = n := by decide
theorem iI_ushr (a : Int) {z : Int} (h0 : 0 ≤ z) (h1 : z < 32) : ((iI a).toUInt32 >>> ((iI z).toUInt32 &&& Int32.toUInt32 31)).toInt32 = iI (a % 4294967296 / (2 ^ z.toNat : Nat)) := by
  obtain ⟨x, rfl⟩ := Int.eq_ofNat_of_zero_le h0
  rw [← iI_nI]
  have h2 := pk_ushr (iI a) (nI x) x (iI_su x (by omega))
  rw [iI_bv] at h2
  apply Int32.toBitVec_inj.mp
  apply BitVec.eq_of_toNat_eq
  rw [h2, iI_bv, Int.toNat_natCast]
  have h3 : 0 ≤ a % 4294967296 := Int.emod_nonneg _ (by decide)
  have h4 : a % 4294967296 < 4294967296 := Int.emod_lt_of_pos _ (by decide)
  obtain ⟨y, hy⟩ := Int.eq_ofNat_of_zero_le h3
  have h6 : (a % 4294967296).toNat = y := by omega
  rw [h6, hy, ← Int.natCast_ediv]
  rw [hy] at h4
  have h5 : y / 2 ^ x ≤ y := Nat.div_le_self _ _
  clear h2
  generalize y / 2 ^ x = w at h5 ⊢
  omega
-- WORDS: the tables' good words, the same list for every method
def UW : List Cond := lw_tbl.filter goodWord
theorem uw {w : Cond} (h : w ∈ lw_tbl) (g : goodWord w = true) : w ∈ UW := List.mem_filter.mpr ⟨h, g⟩
theorem uw_good {Ts : List Cond} (h : ∀ w ∈ UW, w ∈ Ts) : GoodIn Ts UW := fun w hw => ⟨h w hw, good_of_word (List.mem_filter.mp hw).2⟩
theorem uw_goodC {Ts : List Cond} {k : Cond} (hk : k ∈ UW) (h : ∀ w ∈ UW, w ∈ Ts) : GoodIn Ts (k :: UW) := fun w hw => by
  rcases List.mem_cons.mp hw with rfl | hw
  · exact uw_good h _ hk
  · exact uw_good h _ hw
theorem uw_lw : ∀ w ∈ UW, w ∈ lw_tbl := fun _ h => (List.mem_filter.mp h).1
-- THE JUDGEMENT: at pc, with the world ws, the locals lv and the stack st, the machine comes to Q
def Am (p : Program) (m : MethodId) (meth : Method) (c : Code) (cc : ByteArray) (nL : Nat) (ret : Option FieldType) (s : State) (args : Array Value) (own : String) (D : va_G) (cl : List vw_C) (cA : ClassId) (A : Nat → Prop) : Prop :=
  p.tables.exec = Jvm.exec ∧ c.code = cc ∧ c.maxLocals = nL ∧ s.vm.findClass own = some m.cls ∧ (∀ w ∈ UW, w.before args s = true) ∧ va_K D cl [(cA, .int)] s ∧ (∀ q, s.heap.size ≤ q → A q) ∧ meth.sig.returnType = ret ∧ meth.locks = false
def GG (p : Program) (l : Launch) (e : Env) (R : Room) (s : State) (m : MethodId) (args : Array Value) (below : List Frame) (meth : Method) (c : Code) (D : va_G) (cl : List vw_C) (A : Nat → Prop) (nL : Nat) (Q : State → Prop) (cells slots : Nat) (ws : va_W) (lv : List (Nat × Value)) (pc : Nat) (st : List Value) : Prop :=
  ∀ (H : Heap) (locs : List Loc) (ls : Array Slot), va_P D cl ws H → va_D A ws → va_S A s.heap H locs → lv_has ls nL lv → W p l e R s m args below meth c H locs cells slots Q (F0 m pc ls st)
section GGs
variable {p : Program} {l : Launch} {e : Env} {R : Room} {s : State} {m : MethodId} {args : Array Value} {below : List Frame} {meth : Method} {c : Code} {cells slots : Nat} {Q : State → Prop} {cc : ByteArray} {nL : Nat} {ret : Option FieldType} {own : String} {D : va_G} {cl : List vw_C} {cA : ClassId} {A : Nat → Prop} {ws ws' : va_W} {lv lv' : List (Nat × Value)} {pc : Nat} {st rest : List Value}
theorem GG.lvs (ks : List Nat) (h : lv_pick lv ks = lv') (K : GG p l e R s m args below meth c D cl A nL Q cells slots ws lv' pc st) : GG p l e R s m args below meth c D cl A nL Q cells slots ws lv pc st :=
  fun H locs ls hP hD hS hl => K H locs ls hP hD hS (lv_sub hl ks h)
theorem GG.wss (is : List Nat) (hn : va_nd is = true) (h : is.map (fun i => ws[i]?) = ws'.map some) (K : GG p l e R s m args below meth c D cl A nL Q cells slots ws' lv pc st) : GG p l e R s m args below meth c D cl A nL Q cells slots ws lv pc st :=
  fun H locs ls hP hD hS hl => K H locs ls (hP.sub is (by
    have : is.filterMap (fun i => ws[i]?) = (is.map (fun i => ws[i]?)).filterMap id := by rw [List.filterMap_map]; rfl
    rw [this, h, List.filterMap_map]
    show ws'.filterMap (fun x => some x) = ws'
    exact List.filterMap_some)) (hD.sub is hn h) hS hl
theorem GG.widen {k n : Nat} (h1 : cells ≤ k) (h2 : slots ≤ n) (K : GG p l e R s m args below meth c D cl A nL Q k n ws lv pc st) : GG p l e R s m args below meth c D cl A nL Q cells slots ws lv pc st :=
  fun H locs ls hP hD hS hl => W.widen h1 h2 (K H locs ls hP hD hS hl)
theorem g_iconst (E : Am p m meth c cc nL ret s args own D cl cA A) {z : Int} (hd : decode cc pc = .ok (.iconst z, 1)) (K : GG p l e R s m args below meth c D cl A nL Q cells slots ws lv (pc + 1) (.int (iI z) :: st)) : GG p l e R s m args below meth c D cl A nL Q cells slots ws lv pc st :=
  fun H locs ls hP hD hS hl => lv_iconst E.1 E.2.1 hd rfl (K H locs ls hP hD hS hl)
theorem g_bipush (E : Am p m meth c cc nL ret s args own D cl cA A) {z : Int} (hd : decode cc pc = .ok (.bipush z, 2)) (hz : (Int8.ofInt z).toInt32 = iI z) (K : GG p l e R s m args below meth c D cl A nL Q cells slots ws lv (pc + 2) (.int (iI z) :: st)) : GG p l e R s m args below meth c D cl A nL Q cells slots ws lv pc st :=
  fun H locs ls hP hD hS hl => lv_bipush E.1 E.2.1 hd hz (K H locs ls hP hD hS hl)
theorem g_sipush (E : Am p m meth c cc nL ret s args own D cl cA A) {z : Int} (hd : decode cc pc = .ok (.sipush z, 3)) (hz : (Int16.ofInt z).toInt32 = iI z) (K : GG p l e R s m args below meth c D cl A nL Q cells slots ws lv (pc + 3) (.int (iI z) :: st)) : GG p l e R s m args below meth c D cl A nL Q cells slots ws lv pc st :=
  fun H locs ls hP hD hS hl => lv_sipush E.1 E.2.1 hd hz (K H locs ls hP hD hS hl)
theorem g_iload_n (E : Am p m meth c cc nL ret s args own D cl cA A) {k : Fin 4} {i : Nat} {x : Int32} (hd : decode cc pc = .ok (.iload_n k, 1)) (hi : (k : Nat) = i) (n : Nat) (h : lv[n]? = some (i, .int x)) (K : GG p l e R s m args below meth c D cl A nL Q cells slots ws lv (pc + 1) (.int x :: st)) : GG p l e R s m args below meth c D cl A nL Q cells slots ws lv pc st :=
  fun H locs ls hP hD hS hl => lv_iload_n E.1 E.2.1 hd hi (lv_at hl n h) (K H locs ls hP hD hS hl)
theorem g_iload (E : Am p m meth c cc nL ret s args own D cl cA A) {i : Nat} {x : Int32} (hd : decode cc pc = .ok (.iload i, 2)) (n : Nat) (h : lv[n]? = some (i, .int x)) (K : GG p l e R s m args below meth c D cl A nL Q cells slots ws lv (pc + 2) (.int x :: st)) : GG p l e R s m args below meth c D cl A nL Q cells slots ws lv pc st :=
  fun H locs ls hP hD hS hl => lv_iload E.1 E.2.1 hd (lv_at hl n h) (K H locs ls hP hD hS hl)
theorem g_aload_n (E : Am p m meth c cc nL ret s args own D cl cA A) {k : Fin 4} {i x : Nat} (hd : decode cc pc = .ok (.aload_n k, 1)) (hi : (k : Nat) = i) (n : Nat) (h : lv[n]? = some (i, .ref x)) (K : GG p l e R s m args below meth c D cl A nL Q cells slots ws lv (pc + 1) (.ref x :: st)) : GG p l e R s m args below meth c D cl A nL Q cells slots ws lv pc st :=
  fun H locs ls hP hD hS hl => lv_aload_n E.1 E.2.1 hd hi (lv_at hl n h) (K H locs ls hP hD hS hl)
theorem g_aload (E : Am p m meth c cc nL ret s args own D cl cA A) {i x : Nat} (hd : decode cc pc = .ok (.aload i, 2)) (n : Nat) (h : lv[n]? = some (i, .ref x)) (K : GG p l e R s m args below meth c D cl A nL Q cells slots ws lv (pc + 2) (.ref x :: st)) : GG p l e R s m args below meth c D cl A nL Q cells slots ws lv pc st :=
  fun H locs ls hP hD hS hl => lv_aload E.1 E.2.1 hd (lv_at hl n h) (K H locs ls hP hD hS hl)
theorem g_istore_n (E : Am p m meth c cc nL ret s args own D cl cA A) {k : Fin 4} {i : Nat} {x : Int32} (hd : decode cc pc = .ok (.istore_n k, 1)) (hi : (k : Nat) = i) (hn : i < nL) (hv : (i, Value.int x) :: lv.filter (fun q => !(q.1 == i) && !(q.1 + 1 == i && q.2.category == 2)) = lv') (K : GG p l e R s m args below meth c D cl A nL Q cells slots ws lv' (pc + 1) st) : GG p l e R s m args below meth c D cl A nL Q cells slots ws lv pc (.int x :: st) :=
  fun H locs ls hP hD hS hl => lv_istore_n E.1 E.2.1 hd hi hl hn hv (fun ls hl => K H locs ls hP hD hS hl)
theorem g_istore (E : Am p m meth c cc nL ret s args own D cl cA A) {i : Nat} {x : Int32} (hd : decode cc pc = .ok (.istore i, 2)) (hn : i < nL) (hv : (i, Value.int x) :: lv.filter (fun q => !(q.1 == i) && !(q.1 + 1 == i && q.2.category == 2)) = lv') (K : GG p l e R s m args below meth c D cl A nL Q cells slots ws lv' (pc + 2) st) : GG p l e R s m args below meth c D cl A nL Q cells slots ws lv pc (.int x :: st) :=
  fun H locs ls hP hD hS hl => lv_istore E.1 E.2.1 hd hl hn hv (fun ls hl => K H locs ls hP hD hS hl)
theorem g_astore_n (E : Am p m meth c cc nL ret s args own D cl cA A) {k : Fin 4} {i x : Nat} (hd : decode cc pc = .ok (.astore_n k, 1)) (hi : (k : Nat) = i) (hn : i < nL) (hv : (i, Value.ref x) :: lv.filter (fun q => !(q.1 == i) && !(q.1 + 1 == i && q.2.category == 2)) = lv') (K : GG p l e R s m args below meth c D cl A nL Q cells slots ws lv' (pc + 1) st) : GG p l e R s m args below meth c D cl A nL Q cells slots ws lv pc (.ref x :: st) :=
  fun H locs ls hP hD hS hl => lv_astore_n E.1 E.2.1 hd hi hl hn hv (fun ls hl => K H locs ls hP hD hS hl)
theorem g_astore (E : Am p m meth c cc nL ret s args own D cl cA A) {i x : Nat} (hd : decode cc pc = .ok (.astore i, 2)) (hn : i < nL) (hv : (i, Value.ref x) :: lv.filter (fun q => !(q.1 == i) && !(q.1 + 1 == i && q.2.category == 2)) = lv') (K : GG p l e R s m args below meth c D cl A nL Q cells slots ws lv' (pc + 2) st) : GG p l e R s m args below meth c D cl A nL Q cells slots ws lv pc (.ref x :: st) :=
  fun H locs ls hP hD hS hl => lv_astore E.1 E.2.1 hd hl hn hv (fun ls hl => K H locs ls hP hD hS hl)
theorem g_iinc (E : Am p m meth c cc nL ret s args own D cl cA A) {i : Nat} {n a : Int} (hd : decode cc pc = .ok (.iinc i n, 3)) (k : Nat) (h : lv[k]? = some (i, .int (iI a))) (hn : i < nL) (hv : (i, Value.int (iI (a + n))) :: lv.filter (fun q => !(q.1 == i) && !(q.1 + 1 == i && q.2.category == 2)) = lv') (K : GG p l e R s m args below meth c D cl A nL Q cells slots ws lv' (pc + 3) st) : GG p l e R s m args below meth c D cl A nL Q cells slots ws lv pc st :=
  fun H locs ls hP hD hS hl => lv_iinc E.1 E.2.1 hd hl h (iI_add a n) hn hv (fun ls hl => K H locs ls hP hD hS hl)
theorem g_iadd (E : Am p m meth c cc nL ret s args own D cl cA A) {a b : Int} (hd : decode cc pc = .ok (.iadd, 1)) (K : GG p l e R s m args below meth c D cl A nL Q cells slots ws lv (pc + 1) (.int (iI (a + b)) :: st)) : GG p l e R s m args below meth c D cl A nL Q cells slots ws lv pc (.int (iI b) :: .int (iI a) :: st) :=
  fun H locs ls hP hD hS hl => lv_iadd E.1 E.2.1 hd (by rw [iI_add]; exact K H locs ls hP hD hS hl)
theorem g_isub (E : Am p m meth c cc nL ret s args own D cl cA A) {a b : Int} (hd : decode cc pc = .ok (.isub, 1)) (K : GG p l e R s m args below meth c D cl A nL Q cells slots ws lv (pc + 1) (.int (iI (a - b)) :: st)) : GG p l e R s m args below meth c D cl A nL Q cells slots ws lv pc (.int (iI b) :: .int (iI a) :: st) :=
  fun H locs ls hP hD hS hl => lv_isub E.1 E.2.1 hd (by rw [iI_sub]; exact K H locs ls hP hD hS hl)
theorem g_imul (E : Am p m meth c cc nL ret s args own D cl cA A) {a b : Int} (hd : decode cc pc = .ok (.imul, 1)) (K : GG p l e R s m args below meth c D cl A nL Q cells slots ws lv (pc + 1) (.int (iI (a * b)) :: st)) : GG p l e R s m args below meth c D cl A nL Q cells slots ws lv pc (.int (iI b) :: .int (iI a) :: st) :=
  fun H locs ls hP hD hS hl => lv_imul E.1 E.2.1 hd (by rw [iI_mul]; exact K H locs ls hP hD hS hl)
theorem g_ineg (E : Am p m meth c cc nL ret s args own D cl cA A) {a : Int} (hd : decode cc pc = .ok (.ineg, 1)) (K : GG p l e R s m args below meth c D cl A nL Q cells slots ws lv (pc + 1) (.int (iI (-a)) :: st)) : GG p l e R s m args below meth c D cl A nL Q cells slots ws lv pc (.int (iI a) :: st) :=
  fun H locs ls hP hD hS hl => lv_ineg E.1 E.2.1 hd (by first | rw [iI_neg]; exact K H locs ls hP hD hS hl | (rw [show (0 : Int32) - iI a = iI (-a) by rw [iI_z, iI_sub]; congr 1; omega]; exact K H locs ls hP hD hS hl))
theorem g_dup (E : Am p m meth c cc nL ret s args own D cl cA A) {v : Value} (hd : decode cc pc = .ok (.dup, 1)) (hc : v.category = 1) (K : GG p l e R s m args below meth c D cl A nL Q cells slots ws lv (pc + 1) (v :: v :: st)) : GG p l e R s m args below meth c D cl A nL Q cells slots ws lv pc (v :: st) :=
  fun H locs ls hP hD hS hl => lv_dup E.1 E.2.1 hd hc (K H locs ls hP hD hS hl)
theorem g_dup2 (E : Am p m meth c cc nL ret s args own D cl cA A) {v w : Value} (hd : decode cc pc = .ok (.dup2, 1)) (hc : v.category = 1) (hw : w.category = 1) (K : GG p l e R s m args below meth c D cl A nL Q cells slots ws lv (pc + 1) (v :: w :: v :: w :: st)) : GG p l e R s m args below meth c D cl A nL Q cells slots ws lv pc (v :: w :: st) :=
  fun H locs ls hP hD hS hl => lv_dup2_11 E.1 E.2.1 hd hc hw (K H locs ls hP hD hS hl)
theorem g_dup_x1 (E : Am p m meth c cc nL ret s args own D cl cA A) {v w : Value} (hd : decode cc pc = .ok (.dup_x1, 1)) (hc : v.category = 1) (hw : w.category = 1) (K : GG p l e R s m args below meth c D cl A nL Q cells slots ws lv (pc + 1) (v :: w :: v :: st)) : GG p l e R s m args below meth c D cl A nL Q cells slots ws lv pc (v :: w :: st) :=
  fun H locs ls hP hD hS hl => lv_dup_x1 E.1 E.2.1 hd hc hw (K H locs ls hP hD hS hl)
theorem g_pop (E : Am p m meth c cc nL ret s args own D cl cA A) {v : Value} (hd : decode cc pc = .ok (.pop, 1)) (hc : v.category = 1) (K : GG p l e R s m args below meth c D cl A nL Q cells slots ws lv (pc + 1) st) : GG p l e R s m args below meth c D cl A nL Q cells slots ws lv pc (v :: st) :=
  fun H locs ls hP hD hS hl => lv_pop E.1 E.2.1 hd hc (K H locs ls hP hD hS hl)
theorem g_goto (E : Am p m meth c cc nL ret s args own D cl cA A) {off : Int} {tgt : Nat} (hd : decode cc pc = .ok (.goto off, 3)) (ht : (pc : Int) + off = (tgt : Int)) (K : GG p l e R s m args below meth c D cl A nL Q cells slots ws lv tgt st) : GG p l e R s m args below meth c D cl A nL Q cells slots ws lv pc st :=
  fun H locs ls hP hD hS hl => lv_goto E.1 E.2.1 hd ht (K H locs ls hP hD hS hl)
theorem g_icmp_eq (E : Am p m meth c cc nL ret s args own D cl cA A) {a b off : Int} {tgt : Nat} (hd : decode cc pc = .ok (.if_icmp .eq off, 3)) (ht : (pc : Int) + off = (tgt : Int)) (ha : iB a) (hb : iB b) (K1 : a = b → GG p l e R s m args below meth c D cl A nL Q cells slots ws lv tgt st) (K2 : a ≠ b → GG p l e R s m args below meth c D cl A nL Q cells slots ws lv (pc + 3) st) : GG p l e R s m args below meth c D cl A nL Q cells slots ws lv pc (.int (iI b) :: .int (iI a) :: st) :=
  fun H locs ls hP hD hS hl => lv_icmp_eq E.1 E.2.1 hd ht (fun h => K1 (by rw [iI_eq ha hb] at h; omega) H locs ls hP hD hS hl) (fun h => K2 (by rw [iI_eq ha hb] at h; omega) H locs ls hP hD hS hl)
theorem g_if_eq (E : Am p m meth c cc nL ret s args own D cl cA A) {a off : Int} {tgt : Nat} (hd : decode cc pc = .ok (.ifCond .eq off, 3)) (ht : (pc : Int) + off = (tgt : Int)) (ha : iB a) (K1 : a = 0 → GG p l e R s m args below meth c D cl A nL Q cells slots ws lv tgt st) (K2 : a ≠ 0 → GG p l e R s m args below meth c D cl A nL Q cells slots ws lv (pc + 3) st) : GG p l e R s m args below meth c D cl A nL Q cells slots ws lv pc (.int (iI a) :: st) :=
  fun H locs ls hP hD hS hl => lv_if_eq E.1 E.2.1 hd ht (fun h => K1 (by rw [iI_z, iI_eq ha iI_b0] at h; omega) H locs ls hP hD hS hl) (fun h => K2 (by rw [iI_z, iI_eq ha iI_b0] at h; omega) H locs ls hP hD hS hl)
theorem g_icmp_ne (E : Am p m meth c cc nL ret s args own D cl cA A) {a b off : Int} {tgt : Nat} (hd : decode cc pc = .ok (.if_icmp .ne off, 3)) (ht : (pc : Int) + off = (tgt : Int)) (ha : iB a) (hb : iB b) (K1 : a ≠ b → GG p l e R s m args below meth c D cl A nL Q cells slots ws lv tgt st) (K2 : a = b → GG p l e R s m args below meth c D cl A nL Q cells slots ws lv (pc + 3) st) : GG p l e R s m args below meth c D cl A nL Q cells slots ws lv pc (.int (iI b) :: .int (iI a) :: st) :=
  fun H locs ls hP hD hS hl => lv_icmp_ne E.1 E.2.1 hd ht (fun h => K1 (by rw [iI_eq ha hb] at h; omega) H locs ls hP hD hS hl) (fun h => K2 (by rw [iI_eq ha hb] at h; omega) H locs ls hP hD hS hl)
theorem g_if_ne (E : Am p m meth c cc nL ret s args own D cl cA A) {a off : Int} {tgt : Nat} (hd : decode cc pc = .ok (.ifCond .ne off, 3)) (ht : (pc : Int) + off = (tgt : Int)) (ha : iB a) (K1 : a ≠ 0 → GG p l e R s m args below meth c D cl A nL Q cells slots ws lv tgt st) (K2 : a = 0 → GG p l e R s m args below meth c D cl A nL Q cells slots ws lv (pc + 3) st) : GG p l e R s m args below meth c D cl A nL Q cells slots ws lv pc (.int (iI a) :: st) :=
  fun H locs ls hP hD hS hl => lv_if_ne E.1 E.2.1 hd ht (fun h => K1 (by rw [iI_z, iI_eq ha iI_b0] at h; omega) H locs ls hP hD hS hl) (fun h => K2 (by rw [iI_z, iI_eq ha iI_b0] at h; omega) H locs ls hP hD hS hl)
theorem g_icmp_lt (E : Am p m meth c cc nL ret s args own D cl cA A) {a b off : Int} {tgt : Nat} (hd : decode cc pc = .ok (.if_icmp .lt off, 3)) (ht : (pc : Int) + off = (tgt : Int)) (ha : iB a) (hb : iB b) (K1 : a < b → GG p l e R s m args below meth c D cl A nL Q cells slots ws lv tgt st) (K2 : b ≤ a → GG p l e R s m args below meth c D cl A nL Q cells slots ws lv (pc + 3) st) : GG p l e R s m args below meth c D cl A nL Q cells slots ws lv pc (.int (iI b) :: .int (iI a) :: st) :=
  fun H locs ls hP hD hS hl => lv_icmp_lt E.1 E.2.1 hd ht (fun h => K1 (by rw [iI_lt ha hb] at h; omega) H locs ls hP hD hS hl) (fun h => K2 (by rw [iI_lt ha hb] at h; omega) H locs ls hP hD hS hl)
theorem g_if_lt (E : Am p m meth c cc nL ret s args own D cl cA A) {a off : Int} {tgt : Nat} (hd : decode cc pc = .ok (.ifCond .lt off, 3)) (ht : (pc : Int) + off = (tgt : Int)) (ha : iB a) (K1 : a < 0 → GG p l e R s m args below meth c D cl A nL Q cells slots ws lv tgt st) (K2 : 0 ≤ a → GG p l e R s m args below meth c D cl A nL Q cells slots ws lv (pc + 3) st) : GG p l e R s m args below meth c D cl A nL Q cells slots ws lv pc (.int (iI a) :: st) :=
  fun H locs ls hP hD hS hl => lv_if_lt E.1 E.2.1 hd ht (fun h => K1 (by rw [iI_z, iI_lt ha iI_b0] at h; omega) H locs ls hP hD hS hl) (fun h => K2 (by rw [iI_z, iI_lt ha iI_b0] at h; omega) H locs ls hP hD hS hl)
theorem g_icmp_ge (E : Am p m meth c cc nL ret s args own D cl cA A) {a b off : Int} {tgt : Nat} (hd : decode cc pc = .ok (.if_icmp .ge off, 3)) (ht : (pc : Int) + off = (tgt : Int)) (ha : iB a) (hb : iB b) (K1 : b ≤ a → GG p l e R s m args below meth c D cl A nL Q cells slots ws lv tgt st) (K2 : a < b → GG p l e R s m args below meth c D cl A nL Q cells slots ws lv (pc + 3) st) : GG p l e R s m args below meth c D cl A nL Q cells slots ws lv pc (.int (iI b) :: .int (iI a) :: st) :=
  fun H locs ls hP hD hS hl => lv_icmp_ge E.1 E.2.1 hd ht (fun h => K1 (by rw [iI_le hb ha] at h; omega) H locs ls hP hD hS hl) (fun h => K2 (by rw [iI_le hb ha] at h; omega) H locs ls hP hD hS hl)
theorem g_if_ge (E : Am p m meth c cc nL ret s args own D cl cA A) {a off : Int} {tgt : Nat} (hd : decode cc pc = .ok (.ifCond .ge off, 3)) (ht : (pc : Int) + off = (tgt : Int)) (ha : iB a) (K1 : 0 ≤ a → GG p l e R s m args below meth c D cl A nL Q cells slots ws lv tgt st) (K2 : a < 0 → GG p l e R s m args below meth c D cl A nL Q cells slots ws lv (pc + 3) st) : GG p l e R s m args below meth c D cl A nL Q cells slots ws lv pc (.int (iI a) :: st) :=
  fun H locs ls hP hD hS hl => lv_if_ge E.1 E.2.1 hd ht (fun h => K1 (by rw [iI_z, iI_le iI_b0 ha] at h; omega) H locs ls hP hD hS hl) (fun h => K2 (by rw [iI_z, iI_le iI_b0 ha] at h; omega) H locs ls hP hD hS hl)
theorem g_icmp_gt (E : Am p m meth c cc nL ret s args own D cl cA A) {a b off : Int} {tgt : Nat} (hd : decode cc pc = .ok (.if_icmp .gt off, 3)) (ht : (pc : Int) + off = (tgt : Int)) (ha : iB a) (hb : iB b) (K1 : b < a → GG p l e R s m args below meth c D cl A nL Q cells slots ws lv tgt st) (K2 : a ≤ b → GG p l e R s m args below meth c D cl A nL Q cells slots ws lv (pc + 3) st) : GG p l e R s m args below meth c D cl A nL Q cells slots ws lv pc (.int (iI b) :: .int (iI a) :: st) :=
  fun H locs ls hP hD hS hl => lv_icmp_gt E.1 E.2.1 hd ht (fun h => K1 (by rw [iI_lt hb ha] at h; omega) H locs ls hP hD hS hl) (fun h => K2 (by rw [iI_lt hb ha] at h; omega) H locs ls hP hD hS hl)
theorem g_if_gt (E : Am p m meth c cc nL ret s args own D cl cA A) {a off : Int} {tgt : Nat} (hd : decode cc pc = .ok (.ifCond .gt off, 3)) (ht : (pc : Int) + off = (tgt : Int)) (ha : iB a) (K1 : 0 < a → GG p l e R s m args below meth c D cl A nL Q cells slots ws lv tgt st) (K2 : a ≤ 0 → GG p l e R s m args below meth c D cl A nL Q cells slots ws lv (pc + 3) st) : GG p l e R s m args below meth c D cl A nL Q cells slots ws lv pc (.int (iI a) :: st) :=
  fun H locs ls hP hD hS hl => lv_if_gt E.1 E.2.1 hd ht (fun h => K1 (by rw [iI_z, iI_lt iI_b0 ha] at h; omega) H locs ls hP hD hS hl) (fun h => K2 (by rw [iI_z, iI_lt iI_b0 ha] at h; omega) H locs ls hP hD hS hl)
theorem g_icmp_le (E : Am p m meth c cc nL ret s args own D cl cA A) {a b off : Int} {tgt : Nat} (hd : decode cc pc = .ok (.if_icmp .le off, 3)) (ht : (pc : Int) + off = (tgt : Int)) (ha : iB a) (hb : iB b) (K1 : a ≤ b → GG p l e R s m args below meth c D cl A nL Q cells slots ws lv tgt st) (K2 : b < a → GG p l e R s m args below meth c D cl A nL Q cells slots ws lv (pc + 3) st) : GG p l e R s m args below meth c D cl A nL Q cells slots ws lv pc (.int (iI b) :: .int (iI a) :: st) :=
  fun H locs ls hP hD hS hl => lv_icmp_le E.1 E.2.1 hd ht (fun h => K1 (by rw [iI_le ha hb] at h; omega) H locs ls hP hD hS hl) (fun h => K2 (by rw [iI_le ha hb] at h; omega) H locs ls hP hD hS hl)
theorem g_if_le (E : Am p m meth c cc nL ret s args own D cl cA A) {a off : Int} {tgt : Nat} (hd : decode cc pc = .ok (.ifCond .le off, 3)) (ht : (pc : Int) + off = (tgt : Int)) (ha : iB a) (K1 : a ≤ 0 → GG p l e R s m args below meth c D cl A nL Q cells slots ws lv tgt st) (K2 : 0 < a → GG p l e R s m args below meth c D cl A nL Q cells slots ws lv (pc + 3) st) : GG p l e R s m args below meth c D cl A nL Q cells slots ws lv pc (.int (iI a) :: st) :=
  fun H locs ls hP hD hS hl => lv_if_le E.1 E.2.1 hd ht (fun h => K1 (by rw [iI_z, iI_le ha iI_b0] at h; omega) H locs ls hP hD hS hl) (fun h => K2 (by rw [iI_z, iI_le ha iI_b0] at h; omega) H locs ls hP hD hS hl)
theorem g_iaload (E : Am p m meth c cc nL ret s args own D cl cA A) {q n : Nat} {g : Int → Int} {z : Int} (hd : decode cc pc = .ok (.iaload, 1)) (q0 : Nat) (ha : ws[q0]? = some (q, aE cA n g)) (h0 : 0 ≤ z) (h1 : z < n) (hn : n ≤ 2147483647) (K : GG p l e R s m args below meth c D cl A nL Q cells slots ws lv (pc + 1) (.int (iI (g z)) :: st)) : GG p l e R s m args below meth c D cl A nL Q cells slots ws lv pc (.int (iI z) :: .ref q :: st) :=
  fun H locs ls hP hD hS hl => va_iald E.1 E.2.1 E.2.2.2.2.2.1 hP q0 0 ha rfl (iI_in h0 h1 hn) hd (by
    have h2 := K H locs ls hP hD hS hl
    have h3 : ((iI z).toNatClampNeg : Int) = z := by rw [iI_clamp h0 (by omega)]; omega
    rw [h3]; exact h2)
theorem g_iastore (E : Am p m meth c cc nL ret s args own D cl cA A) {q n : Nat} {g : Int → Int} {z v : Int} (hd : decode cc pc = .ok (.iastore, 1)) (q0 : Nat) (ha : ws[q0]? = some (q, aE cA n g)) (h0 : 0 ≤ z) (h1 : z < n) (hn : n ≤ 2147483647) (hw : ws.set q0 (q, aE cA n (up g z v)) = ws') (K : GG p l e R s m args below meth c D cl A nL Q cells slots ws' lv (pc + 1) st) : GG p l e R s m args below meth c D cl A nL Q cells slots ws lv pc (.int (iI v) :: .int (iI z) :: .ref q :: st) := by
  intro H locs ls hP hD hS hl
  refine va_iast E.1 E.2.1 E.2.2.2.2.2.1 hP hD hS q0 0 ha rfl (iI_in h0 h1 hn) hd (fun H1 locs1 hP1 hD1 hS1 => ?_)
  rw [iI_upd h0 (by omega)] at hP1 hD1
  subst hw
  exact K H1 locs1 ls hP1 hD1 hS1 hl
theorem g_arraylength (E : Am p m meth c cc nL ret s args own D cl cA A) {q n : Nat} {g : Int → Int} (hd : decode cc pc = .ok (.arraylength, 1)) (q0 : Nat) (ha : ws[q0]? = some (q, aE cA n g)) (K : GG p l e R s m args below meth c D cl A nL Q cells slots ws lv (pc + 1) (.int (iI (n : Int)) :: st)) : GG p l e R s m args below meth c D cl A nL Q cells slots ws lv pc (.ref q :: st) :=
  fun H locs ls hP hD hS hl => va_alen E.1 E.2.1 E.2.2.2.2.2.1 hP q0 0 ha (ty := .int) rfl rfl hd (K H locs ls hP hD hS hl)
theorem g_getfield (E : Am p m meth c cc nL ret s args own D cl cA A) {q ci N index : Nat} {C ref : String} {T : u_T} {fs : List Value} {v : Value} (hd : decode cc pc = .ok (.getfield index, 3)) (q0 k : Nat) (he : ws[q0]? = some (q, .inr (ci, fs))) (hc : cl[ci]? = some (C, T, N)) (hk : k < N) (hin : ∀ w ∈ u_ws C T N, w ∈ UW) (hlink : Cond.fieldLink own index ref (T k).2.1 (T k).2.2.1 ∈ UW) (href : (T k).1 = ref) (hv : fs[k]? = some v) (K : GG p l e R s m args below meth c D cl A nL Q cells slots ws lv (pc + 3) (v :: st)) : GG p l e R s m args below meth c D cl A nL Q cells slots ws lv pc (.ref q :: st) :=
  fun H locs ls hP hD hS hl => va_get E.1 E.2.1 E.2.2.2.2.1 hin E.2.2.2.1 E.2.2.2.2.2.1 hP q0 he hc k hk (E.2.2.2.2.1 _ hlink) (fun _ h => by rw [← href]; exact h) hv hd (K H locs ls hP hD hS hl)
theorem g_putfield (E : Am p m meth c cc nL ret s args own D cl cA A) {q ci N index : Nat} {C ref : String} {T : u_T} {fs : List Value} {v : Value} {ty : FieldType} (hd : decode cc pc = .ok (.putfield index, 3)) (q0 k : Nat) (he : ws[q0]? = some (q, .inr (ci, fs))) (hc : cl[ci]? = some (C, T, N)) (hk : k < N) (hin : ∀ w ∈ u_ws C T N, w ∈ UW) (ty0 : Nat → FieldType) (hty : ∀ k, k < N → parseFieldDescriptor (T k).2.2.1 = some (ty0 k)) (hnm : ∀ a, a < N → ∀ b, b < N → a ≠ b → (T a).2.1 ≠ (T b).2.1) (hlink : Cond.fieldLink own index ref (T k).2.1 (T k).2.2.1 ∈ UW) (href : (T k).1 = ref) (hfin : (T k).2.2.2 = false) (htk : ty0 k = ty) (hnr : narrow ty v = v) (hfit : fits ty v = true) (hl0 : k < fs.length) (hw : ws.set q0 (q, .inr (ci, fs.set k v)) = ws') (K : GG p l e R s m args below meth c D cl A nL Q cells slots ws' lv (pc + 3) st) : GG p l e R s m args below meth c D cl A nL Q cells slots ws lv pc (v :: .ref q :: st) := by
  intro H locs ls hP hD hS hl
  refine va_put E.1 E.2.1 E.2.2.2.2.1 hin ty0 hty hnm E.2.2.2.1 E.2.2.2.2.2.1 hP hD hS q0 he hc k hk (E.2.2.2.2.1 _ hlink) (fun _ h => by rw [← href]; exact h) hfin (ty := ty) (by rw [hty k hk, htk]) hnr hfit hl0 hd (fun H1 locs1 hP1 hD1 hS1 => ?_)
  subst hw
  exact K H1 locs1 ls hP1 hD1 hS1 hl
theorem g_putfinal (E : Am p m meth c cc nL ret s args own D cl cA A) (hini : meth.name = "<init>") {q ci N index : Nat} {C ref : String} {T : u_T} {fs : List Value} {v : Value} {ty : FieldType} (hd : decode cc pc = .ok (.putfield index, 3)) (q0 k : Nat) (he : ws[q0]? = some (q, .inr (ci, fs))) (hc : cl[ci]? = some (C, T, N)) (hk : k < N) (hin : ∀ w ∈ u_ws C T N, w ∈ UW) (ty0 : Nat → FieldType) (hty : ∀ k, k < N → parseFieldDescriptor (T k).2.2.1 = some (ty0 k)) (hnm : ∀ a, a < N → ∀ b, b < N → a ≠ b → (T a).2.1 ≠ (T b).2.1) (hlink : Cond.fieldLink own index ref (T k).2.1 (T k).2.2.1 ∈ UW) (href : (T k).1 = ref) (hfin : (T k).2.2.2 = true) (hdecl : (T k).1 = own) (htk : ty0 k = ty) (hnr : narrow ty v = v) (hfit : fits ty v = true) (hl0 : k < fs.length) (hw : ws.set q0 (q, .inr (ci, fs.set k v)) = ws') (K : GG p l e R s m args below meth c D cl A nL Q cells slots ws' lv (pc + 3) st) : GG p l e R s m args below meth c D cl A nL Q cells slots ws lv pc (v :: .ref q :: st) := by
  intro H locs ls hP hD hS hl
  refine va_putF E.1 E.2.1 E.2.2.2.2.1 hin ty0 hty hnm E.2.2.2.1 E.2.2.2.2.2.1 hP hD hS q0 he hc k hk (E.2.2.2.2.1 _ hlink) (fun _ h => by rw [← href]; exact h) hfin hini hdecl (ty := ty) (by rw [hty k hk, htk]) hnr hfit hl0 hd (fun H1 locs1 hP1 hD1 hS1 => ?_)
  subst hw
  exact K H1 locs1 ls hP1 hD1 hS1 hl
theorem g_newarray (E : Am p m meth c cc nL ret s args own D cl cA A) {z : Int} {n : Nat} (hd : decode cc pc = .ok (.newarray .int, 2)) (harr : Cond.arrayClass .int ∈ UW) (h0 : 0 ≤ z) (hz : z.toNat = n) (hn : n ≤ 4096) (hc : cells + 1 ≤ R.cells) (hs : slots + n ≤ R.slots) (K : ∀ q : Nat, GG p l e R s m args below meth c D cl A nL Q (cells + 1) (slots + n) (ws ++ [(q, aE cA n zf)]) lv (pc + 2) (.ref q :: st)) : GG p l e R s m args below meth c D cl A nL Q cells slots ws lv pc (.int (iI z) :: st) := by
  intro H locs ls hP hD hS hl
  refine va_newa (atype := .int) (ty := .int) (N' := n) (a0 := (n, .inl (fun k : Nat => iI (zf (k : Int))))) E.1 E.2.1 (E.2.2.2.2.1 _ harr) rfl E.2.2.2.2.2.1 hP hD hS E.2.2.2.2.2.2.1 (fun cA => by rw [vp_cell_i]; rfl) (iI_n0 h0 (by omega)) (by rw [iI_clamp h0 (by omega)]; exact hz) (by show n * 4 ≤ _; omega) hc hs hd (fun q cB H1 hK1 hP1 hD1 hS1 => ?_)
  have e1 : s.vm.findClass ("[" ++ FieldType.int.toString) = some cB := (hK1.2 1 (cB, .int) rfl).2
  have e2 : s.vm.findClass ("[" ++ FieldType.int.toString) = some cA := (E.2.2.2.2.2.1.2 0 (cA, .int) rfl).2
  have e3 : cB = cA := Option.some.inj (e1.symm.trans e2)
  subst e3
  exact K q H1 locs ls hP1 hD1 hS1 hl
theorem g_new (E : Am p m meth c cc nL ret s args own D cl cA A) {ci N index : Nat} {C : String} {T : u_T} {fs : List Value} (hd : decode cc pc = .ok (.new index, 3)) (hc : cl[ci]? = some (C, T, N)) (hin : ∀ w ∈ u_ws C T N, w ∈ UW) (ty0 : Nat → FieldType) (hty : ∀ k, k < N → parseFieldDescriptor (T k).2.2.1 = some (ty0 k)) (hcl : Cond.classLink own index C ∈ UW) (hinst : Cond.instantiable C N ∈ UW) (hini : Cond.initialized C ∈ UW) (hfs : ∀ j, j < N → defaultValue (ty0 j) = vp_V fs j) (hcl1 : cells + 1 ≤ R.cells) (hsl : slots + N ≤ R.slots) (K : ∀ q : Nat, GG p l e R s m args below meth c D cl A nL Q (cells + 1) (slots + N) (ws ++ [(q, .inr (ci, fs))]) lv (pc + 3) (.ref q :: st)) : GG p l e R s m args below meth c D cl A nL Q cells slots ws lv pc st :=
  fun H locs ls hP hD hS hl => va_new E.1 E.2.1 E.2.2.2.2.1 hin ty0 hty E.2.2.2.1 (E.2.2.2.2.1 _ hcl) (E.2.2.2.2.1 _ hinst) (E.2.2.2.2.1 _ hini) E.2.2.2.2.2.1 hP hD hS E.2.2.2.2.2.2.1 hc hfs hcl1 hsl hd (fun q H1 hP1 hD1 hS1 => K q H1 locs ls hP1 hD1 hS1 hl)
theorem g_objInit (E : Am p m meth c cc nL ret s args own D cl cA A) {idx q : Nat} (hd : decode cc pc = .ok (.invokespecial idx, 3)) (hlink : Cond.methodLink own idx Lib.objectInit ∈ UW) (hinst : Cond.instanceMethod Lib.objectInit ∈ UW) (hcode : Cond.code Lib.objectInit ⟨#[0xb1]⟩ 1 none ∈ UW) (hf : 1 ≤ R.frames) (hlo : (st.map fun v => v.category).sum + 12 ≤ R.locals) (K : GG p l e R s m args below meth c D cl A nL Q cells slots ws lv (pc + 3) st) : GG p l e R s m args below meth c D cl A nL Q cells slots ws lv pc (.ref q :: st) :=
  fun H locs ls hP hD hS hl => W.objInit E.1 E.2.1 E.2.2.2.1 (E.2.2.2.2.1 _ hlink) (E.2.2.2.2.1 _ hinst) (E.2.2.2.2.1 _ hcode) rfl (by rw [E.2.2.1]; exact hl.1) rfl hd hf (by show 2 * 0 + _ + 12 ≤ _; omega) (K H locs ls hP hD hS hl)
theorem g_arraycopy (E : Am p m meth c cc nL ret s args own D cl cA A) {index a0 a1 n0 n1 : Nat} {f g : Int → Int} {sp dp n : Int} (hd : decode cc pc = .ok (.invokestatic index, 3)) (hlink : Cond.methodLink own index arraycopyName ∈ UW) (hnat : Cond.native arraycopyName ∈ UW) (hstat : Cond.static arraycopyName ∈ UW) (hini : Cond.initialized "java/lang/System" ∈ UW) (q0 q1 : Nat) (ha0 : ws[q0]? = some (a0, aE cA n0 f)) (ha1 : ws[q1]? = some (a1, aE cA n1 g)) (h1 : 0 ≤ sp) (h2 : 0 ≤ dp) (h3 : 0 ≤ n) (h4 : sp + n ≤ n0) (h5 : dp + n ≤ n1) (h6 : n0 ≤ 2147483647) (h7 : n1 ≤ 2147483647) (hf : 1 ≤ R.frames) (hlo : (st.map fun v => v.category).sum + (nativeFrameWords "java/lang/System" "arraycopy" 5 + 11) ≤ R.locals) (hw : ws.set q1 (a1, aE cA n1 (cp f g sp dp n)) = ws') (K : GG p l e R s m args below meth c D cl A nL Q cells slots ws' lv (pc + 3) st) : GG p l e R s m args below meth c D cl A nL Q cells slots ws lv pc (.int (iI n) :: .int (iI dp) :: .ref a1 :: .int (iI sp) :: .ref a0 :: st) := by
  intro H locs ls hP hD hS hl
  refine va_copyi (ty := .int) E.1 E.2.1 (by rw [E.2.2.1]; exact hl.1.symm) E.2.2.2.1 (E.2.2.2.2.1 _ hlink) (E.2.2.2.2.1 _ hnat) (E.2.2.2.2.1 _ hstat) (E.2.2.2.2.1 _ hini) E.2.2.2.2.2.1 hP hD hS q0 q1 0 0 ha0 ha1 rfl rfl rfl (iI_n0 h1 (by omega)) (iI_n0 h2 (by omega)) (iI_n0 h3 (by omega)) (by rw [iI_clamp h1 (by omega), iI_clamp h3 (by omega)]; omega) (by rw [iI_clamp h2 (by omega), iI_clamp h3 (by omega)]; omega) (fun _ _ => rfl) hf hlo hd (fun H1 locs1 hP1 hD1 hS1 => ?_)
  rw [iI_cpy h1 h2 h3 (by omega) (by omega) (by omega)] at hP1 hD1
  subst hw
  exact K H1 locs1 ls hP1 hD1 hS1 hl
theorem g_max (E : Am p m meth c cc nL ret s args own D cl cA A) {index : Nat} {a b : Int} (hd : decode cc pc = .ok (.invokestatic index, 3)) (hlink : Cond.methodLink own index Lib.Math.max.name ∈ UW) (hstat : Cond.static Lib.Math.max.name ∈ UW) (hini : Cond.initialized "java/lang/Math" ∈ UW) (hcode : Cond.code Lib.Math.max.name Lib.Math.max.code 2 (some .int) ∈ UW) (hf : 1 ≤ R.frames) (hlo : (st.map fun v => v.category).sum + 13 ≤ R.locals) (hc : cells ≤ R.cells) (hs : slots ≤ R.slots) (ha : iB a) (hb : iB b) (K : GG p l e R s m args below meth c D cl A nL Q cells slots ws lv (pc + 3) (.int (iI (max a b)) :: st)) : GG p l e R s m args below meth c D cl A nL Q cells slots ws lv pc (.int (iI b) :: .int (iI a) :: st) :=
  fun H locs ls hP hD hS hl => va_mmax E.1 E.2.1 (by rw [E.2.2.1]; exact hl.1.symm) E.2.2.2.1 (E.2.2.2.2.1 _ hlink) (E.2.2.2.2.1 _ hstat) (E.2.2.2.2.1 _ hini) (E.2.2.2.2.1 _ hcode) hf hlo hc hs hd (by
    have h2 := K H locs ls hP hD hS hl
    have h3 : (if iI a < iI b then iI b else iI a) = iI (max a b) := by
      by_cases h : a < b
      · rw [if_pos ((iI_lt ha hb).mpr h), show max a b = b by omega]
      · rw [if_neg (fun q => h ((iI_lt ha hb).mp q)), show max a b = a by omega]
    rw [h3]; exact h2)
theorem g_min (E : Am p m meth c cc nL ret s args own D cl cA A) {index : Nat} {a b : Int} (hd : decode cc pc = .ok (.invokestatic index, 3)) (hlink : Cond.methodLink own index Lib.Math.min.name ∈ UW) (hstat : Cond.static Lib.Math.min.name ∈ UW) (hini : Cond.initialized "java/lang/Math" ∈ UW) (hcode : Cond.code Lib.Math.min.name Lib.Math.min.code 2 (some .int) ∈ UW) (hf : 1 ≤ R.frames) (hlo : (st.map fun v => v.category).sum + 13 ≤ R.locals) (hc : cells ≤ R.cells) (hs : slots ≤ R.slots) (ha : iB a) (hb : iB b) (K : GG p l e R s m args below meth c D cl A nL Q cells slots ws lv (pc + 3) (.int (iI (min a b)) :: st)) : GG p l e R s m args below meth c D cl A nL Q cells slots ws lv pc (.int (iI b) :: .int (iI a) :: st) :=
  fun H locs ls hP hD hS hl => va_mmin E.1 E.2.1 (by rw [E.2.2.1]; exact hl.1.symm) E.2.2.2.1 (E.2.2.2.2.1 _ hlink) (E.2.2.2.2.1 _ hstat) (E.2.2.2.2.1 _ hini) (E.2.2.2.2.1 _ hcode) hf hlo hc hs hd (by
    have h2 := K H locs ls hP hD hS hl
    have h3 : (if iI b < iI a then iI b else iI a) = iI (min a b) := by
      by_cases h : b < a
      · rw [if_pos ((iI_lt hb ha).mpr h), show min a b = b by omega]
      · rw [if_neg (fun q => h ((iI_lt hb ha).mp q)), show min a b = a by omega]
    rw [h3]; exact h2)
theorem g_iand255 (E : Am p m meth c cc nL ret s args own D cl cA A) {a : Int} (hd : decode cc pc = .ok (.iand, 1)) (K : GG p l e R s m args below meth c D cl A nL Q cells slots ws lv (pc + 1) (.int (iI (a % 256)) :: st)) : GG p l e R s m args below meth c D cl A nL Q cells slots ws lv pc (.int (iI 255) :: .int (iI a) :: st) :=
  fun H locs ls hP hD hS hl => lv_iand E.1 E.2.1 hd (by rw [iI_and255]; exact K H locs ls hP hD hS hl)
theorem g_iand15 (E : Am p m meth c cc nL ret s args own D cl cA A) {a : Int} (hd : decode cc pc = .ok (.iand, 1)) (K : GG p l e R s m args below meth c D cl A nL Q cells slots ws lv (pc + 1) (.int (iI (a % 16)) :: st)) : GG p l e R s m args below meth c D cl A nL Q cells slots ws lv pc (.int (iI 15) :: .int (iI a) :: st) :=
  fun H locs ls hP hD hS hl => lv_iand E.1 E.2.1 hd (by rw [iI_and15]; exact K H locs ls hP hD hS hl)
theorem g_ixor (E : Am p m meth c cc nL ret s args own D cl cA A) {a b : Int} (hd : decode cc pc = .ok (.ixor, 1)) (ha : 0 ≤ a) (hb : 0 ≤ b) (K : GG p l e R s m args below meth c D cl A nL Q cells slots ws lv (pc + 1) (.int (iI (xr a b)) :: st)) : GG p l e R s m args below meth c D cl A nL Q cells slots ws lv pc (.int (iI b) :: .int (iI a) :: st) :=
  fun H locs ls hP hD hS hl => lv_ixor E.1 E.2.1 hd (by rw [iI_xor ha hb]; exact K H locs ls hP hD hS hl)
theorem g_idiv (E : Am p m meth c cc nL ret s args own D cl cA A) {a b : Int} (hd : decode cc pc = .ok (.idiv, 1)) (ha : 0 ≤ a) (ha2 : a < 2147483648) (hb : 0 < b) (hb2 : b < 2147483648) (K : GG p l e R s m args below meth c D cl A nL Q cells slots ws lv (pc + 1) (.int (iI (a / b)) :: st)) : GG p l e R s m args below meth c D cl A nL Q cells slots ws lv pc (.int (iI b) :: .int (iI a) :: st) :=
  fun H locs ls hP hD hS hl => lv_idiv E.1 E.2.1 hd (by rw [iI_z, iI_eq ⟨by omega, hb2⟩ iI_b0]; omega) (by rw [iI_div ha ha2 hb hb2]; exact K H locs ls hP hD hS hl)
theorem g_irem (E : Am p m meth c cc nL ret s args own D cl cA A) {a b : Int} (hd : decode cc pc = .ok (.irem, 1)) (ha : 0 ≤ a) (ha2 : a < 2147483648) (hb : 0 < b) (hb2 : b < 2147483648) (K : GG p l e R s m args below meth c D cl A nL Q cells slots ws lv (pc + 1) (.int (iI (a % b)) :: st)) : GG p l e R s m args below meth c D cl A nL Q cells slots ws lv pc (.int (iI b) :: .int (iI a) :: st) :=
  fun H locs ls hP hD hS hl => lv_irem E.1 E.2.1 hd (by rw [iI_z, iI_eq ⟨by omega, hb2⟩ iI_b0]; omega) (by rw [iI_rem ha ha2 hb hb2]; exact K H locs ls hP hD hS hl)
theorem g_iushr (E : Am p m meth c cc nL ret s args own D cl cA A) {a z : Int} (hd : decode cc pc = .ok (.iushr, 1)) (h0 : 0 ≤ z) (h1 : z < 32) (K : GG p l e R s m args below meth c D cl A nL Q cells slots ws lv (pc + 1) (.int (iI (a % 4294967296 / (2 ^ z.toNat : Nat))) :: st)) : GG p l e R s m args below meth c D cl A nL Q cells slots ws lv pc (.int (iI z) :: .int (iI a) :: st) :=
  fun H locs ls hP hD hS hl => lv_iushr E.1 E.2.1 hd (iI_ushr a h0 h1) (K H locs ls hP hD hS hl)
end GGs
-- CONTRACTS
def Pre0 (D : va_G) (cl : List vw_C) (cA : ClassId) (WS : va_W) (sz : Nat) : State → Prop := fun U => U.heap.size = sz ∧ va_P D cl WS U.heap ∧ va_K D cl [(cA, .int)] U ∧ va_D (fun _ => True) WS
def Bw (D : va_G) (cl : List vw_C) (cA : ClassId) (A : Nat → Prop) : va_W → State → Prop := fun w t => va_P D cl w t.heap ∧ va_K D cl [(cA, .int)] t ∧ va_D A w
def Ci (l : Launch) (D : va_G) (cl : List vw_C) (cA : ClassId) (y : MethodName) (w : List Cond) (rm : Room) (mc ms : Nat) (av : List Value) (WS : va_W) (post : Int → va_W → Prop) : Prop :=
  ∀ sz : Nat, Met l y w rm (va_Pc av (Pre0 D cl cA WS sz)) (va_Qi (fun r w => ∃ z : Int, r = iI z ∧ post z w) (Bw D cl cA (va_A WS sz)) (va_A WS sz)) mc ms (va_A WS sz)
def Cv (l : Launch) (D : va_G) (cl : List vw_C) (cA : ClassId) (y : MethodName) (w : List Cond) (rm : Room) (mc ms : Nat) (av : List Value) (WS : va_W) (post : va_W → Prop) : Prop :=
  ∀ sz : Nat, Met l y w rm (va_Pc av (Pre0 D cl cA WS sz)) (va_Qv post (Bw D cl cA (va_A WS sz)) (va_A WS sz)) mc ms (va_A WS sz)
def QI (D : va_G) (cl : List vw_C) (cA : ClassId) (A : Nat → Prop) (below : List Frame) (args : Array Value) (s : State) (mc ms : Nat) (post : Int → va_W → Prop) : State → Prop := MQ below (va_Qi (fun r w => ∃ z : Int, r = iI z ∧ post z w) (Bw D cl cA A) A) args s mc ms A
def QV (D : va_G) (cl : List vw_C) (cA : ClassId) (A : Nat → Prop) (below : List Frame) (args : Array Value) (s : State) (mc ms : Nat) (post : va_W → Prop) : State → Prop := MQ below (va_Qv post (Bw D cl cA A) A) args s mc ms A
theorem Ci.mk {l : Launch} {D : va_G} {cl : List vw_C} {cA : ClassId} {y : MethodName} {cc : ByteArray} {nL : Nat} {ret : Option FieldType} {rm : Room} {mc ms : Nat} {av : List Value} {WS : va_W} {post : Int → va_W → Prop} (hy : plainName y.cls = true) (hav : (lg_sl av).length ≤ nL)
    (body : ∀ (p : Program) (e : Env) (s : State) (m : MethodId) (args : Array Value) (below : List Frame) (meth : Method) (c : Code) (A : Nat → Prop), Am p m meth c cc nL ret s args y.cls D cl cA A → GG p l e rm s m args below meth c D cl A nL (QI D cl cA A below args s mc ms post) 0 0 WS (lv_args 0 av) 0 []) : Ci l D cl cA y (.code y cc nL ret :: UW) rm mc ms av WS post := by
  intro sz
  refine Met.ofW (cc := cc) (maxL := nL) (ret := ret) hy rfl ?_
  intro p e s m args below meth c s₁ B hml hv
  obtain ⟨rfl, hsz, hP, hK, hD0⟩ := hv
  have hts := atoms_spec (ws := .code y cc nL ret :: UW) B.pre
  subst hsz
  have hD := hD0.self (sz := s.heap.size)
  have hl := lv_entry av (n := nL) hav
  rw [lg_entry_eq]
  have E : Am p m meth c cc nL ret s av.toArray y.cls D cl cA (va_A WS s.heap.size) := ⟨B.exec, B.bytes, hml, findClass_of_methodNamed B.named, fun w h => hts w (List.mem_cons_of_mem _ h), hK, fun q h => Or.inr h, B.returns, B.notSynchronized⟩
  exact body p e s m _ below meth c _ E s.heap [] _ hP hD va_S.rf hl
theorem Cv.mk {l : Launch} {D : va_G} {cl : List vw_C} {cA : ClassId} {y : MethodName} {cc : ByteArray} {nL : Nat} {ret : Option FieldType} {rm : Room} {mc ms : Nat} {av : List Value} {WS : va_W} {post : va_W → Prop} (hy : plainName y.cls = true) (hav : (lg_sl av).length ≤ nL)
    (body : ∀ (p : Program) (e : Env) (s : State) (m : MethodId) (args : Array Value) (below : List Frame) (meth : Method) (c : Code) (A : Nat → Prop), Am p m meth c cc nL ret s args y.cls D cl cA A → meth.name = y.name → GG p l e rm s m args below meth c D cl A nL (QV D cl cA A below args s mc ms post) 0 0 WS (lv_args 0 av) 0 []) : Cv l D cl cA y (.code y cc nL ret :: UW) rm mc ms av WS post := by
  intro sz
  refine Met.ofW (cc := cc) (maxL := nL) (ret := ret) hy rfl ?_
  intro p e s m args below meth c s₁ B hml hv
  obtain ⟨rfl, hsz, hP, hK, hD0⟩ := hv
  have hts := atoms_spec (ws := .code y cc nL ret :: UW) B.pre
  have hin : meth.name = y.name := (name_of_methodNamed B.named B.method).1
  subst hsz
  have hD := hD0.self (sz := s.heap.size)
  have hl := lv_entry av (n := nL) hav
  rw [lg_entry_eq]
  have E : Am p m meth c cc nL ret s av.toArray y.cls D cl cA (va_A WS s.heap.size) := ⟨B.exec, B.bytes, hml, findClass_of_methodNamed B.named, fun w h => hts w (List.mem_cons_of_mem _ h), hK, fun q h => Or.inr h, B.returns, B.notSynchronized⟩
  exact body p e s m _ below meth c _ E hin s.heap [] _ hP hD va_S.rf hl
section GGc
variable {p : Program} {l : Launch} {e : Env} {R : Room} {s : State} {m : MethodId} {args : Array Value} {below : List Frame} {meth : Method} {c : Code} {cells slots : Nat} {Q : State → Prop} {cc : ByteArray} {nL : Nat} {ret : Option FieldType} {own : String} {D : va_G} {cl : List vw_C} {cA : ClassId} {A : Nat → Prop} {ws ws' : va_W} {lv lv' : List (Nat × Value)} {pc : Nat} {st rest : List Value}
theorem g_ireturn (E : Am p m meth c cc nL (some .int) s args own D cl cA A) {z : Int} {post : Int → va_W → Prop} (hd : decode cc pc = .ok (.ireturn, 1)) (hp : post z ws) : GG p l e R s m args below meth c D cl A nL (QI D cl cA A below args s cells slots post) cells slots ws lv pc [.int (iI z)] :=
  fun H locs ls hP hD hS hl => W.iret (v := iI z) E.1 E.2.1 E.2.2.2.2.2.2.2.1 (fun t ht hW => ⟨⟨iI z, ws, rfl, ⟨z, rfl, hp⟩, by rw [ht]; exact hP, va_K.moved hW.alike E.2.2.2.2.2.1, hD⟩, hS.F ht⟩) hS.2.2 hd E.2.2.2.2.2.2.2.2
theorem g_zreturn (E : Am p m meth c cc nL (some .boolean) s args own D cl cA A) {z : Int} {post : Int → va_W → Prop} (hd : decode cc pc = .ok (.ireturn, 1)) (hz : z = 0 ∨ z = 1) (hp : post z ws) : GG p l e R s m args below meth c D cl A nL (QI D cl cA A below args s cells slots post) cells slots ws lv pc [.int (iI z)] :=
  fun H locs ls hP hD hS hl => W.zret (v := iI z) (ty := .boolean) E.1 E.2.1 E.2.2.2.2.2.2.2.1 (by rcases hz with rfl | rfl <;> rfl) (fun t ht hW => ⟨⟨iI z, ws, rfl, ⟨z, rfl, hp⟩, by rw [ht]; exact hP, va_K.moved hW.alike E.2.2.2.2.2.1, hD⟩, hS.F ht⟩) hS.2.2 hd E.2.2.2.2.2.2.2.2
theorem g_return (E : Am p m meth c cc nL none s args own D cl cA A) {post : va_W → Prop} (hd : decode cc pc = .ok (.return_, 1)) (hp : post ws) : GG p l e R s m args below meth c D cl A nL (QV D cl cA A below args s cells slots post) cells slots ws lv pc [] :=
  fun H locs ls hP hD hS hl => W.vret E.1 E.2.1 E.2.2.2.2.2.2.2.1 (fun t ht hW => ⟨⟨ws, rfl, hp, by rw [ht]; exact hP, va_K.moved hW.alike E.2.2.2.2.2.1, hD⟩, hS.F ht⟩) hS.2.2 hd E.2.2.2.2.2.2.2.2
theorem wmap {is : List Nat} (h : is.map (fun i => ws[i]?) = ws'.map some) : is.filterMap (fun i => ws[i]?) = ws' := by
  have : is.filterMap (fun i => ws[i]?) = (is.map (fun i => ws[i]?)).filterMap id := by rw [List.filterMap_map]; rfl
  rw [this, h, List.filterMap_map]
  show ws'.filterMap (fun x => some x) = ws'
  exact List.filterMap_some
theorem pre_blind {av : List Value} {WS : va_W} {sz : Nat} : FrameBlind (va_Pc av (Pre0 D cl cA WS sz)) := fun a U g mk q => by
  obtain ⟨q0, q1, qP, qK, qD⟩ := q
  exact ⟨q0, q1, qP, va_K.moved (u := U) (U := U.calling g mk a) (Vm.Alike.refl U.vm) qK, qD⟩
variable {y : MethodName} {bytes : ByteArray} {maxL n index mc ms b ci N q0 : Nat} {ret' : Option FieldType} {rm : Room} {As : List Value} {WS wr : va_W} {C : String} {T : u_T} {fs : List Value}
theorem g_callV (E : Am p m meth c cc nL ret s args own D cl cA A) {post : Int → va_W → Prop} (hd : decode cc pc = .ok (.invokevirtual index, 3)) (M : Ci l D cl cA y (.code y bytes maxL ret' :: UW) rm mc ms (.ref b :: As) WS post) (hcode : Cond.code y bytes maxL ret' ∈ UW) (hlink : Cond.methodLink own index y ∈ UW) (hinst : Cond.instanceMethod y ∈ UW) (hsel : Cond.selects C y y ∈ UW) (hini : Cond.initialized y.cls ∈ UW) (hdd : y.cls ≠ "java/lang/invoke/MethodHandle" ∧ y.cls ≠ "java/lang/invoke/VarHandle" ∧ (parseMethodDescriptor y.desc).map (fun d => d.parameters.length) = some n) (hR : (rm.cells = mc ∧ rm.slots = ms) ∧ (rm.frames + 1 ≤ R.frames ∧ 8 + (maxL + 11) + rm.locals ≤ R.locals) ∧ (cells + mc ≤ R.cells ∧ slots + ms ≤ R.slots)) (isC isR : List Nat) (hC : isC.map (fun i => ws[i]?) = WS.map some) (hRr : isR.map (fun i => ws[i]?) = wr.map some) (hn : va_nd isC = true ∧ va_nd isR = true ∧ ∀ i ∈ isR, i ∉ isC) (q0 : Nat) (he : WS[q0]? = some (b, .inr (ci, fs))) (hc : cl[ci]? = some (C, T, N)) (hlen : As.length = n) (hst : st = As.reverse ++ .ref b :: rest) (hcat : (rest.map fun v => v.category).sum ≤ 8) (K : ∀ (z : Int) (ws1 : va_W), post z ws1 → GG p l e R s m args below meth c D cl A nL Q (cells + mc) (slots + ms) (wr ++ ws1) lv (pc + 3) (.int (iI z) :: rest)) : GG p l e R s m args below meth c D cl A nL Q cells slots ws lv pc st := by
  intro H locs ls hP hD hS hl
  subst hst
  have hPc := hP.sub isC (wmap hC)
  have hDc := hD.sub isC hn.1 hC
  have hFc := va_free hD hS E.2.2.2.2.2.2.1 isC hC
  have hK := E.2.2.2.2.2.1
  have hts := E.2.2.2.2.1
  refine va_calli (va_runV (As := As) (rest := rest) (C := C) (Ts := UW) ⟨E.1, E.2.1, E.2.2.1, E.2.2.2.1, hts⟩ (M H.size) ⟨callB_of n hts (uw_goodC hcode (fun _ h => h)) rfl hR.1.1 hR.1.2 (hts _ hini) (hts _ hlink) hdd hR.2.1, hts _ hinst, hts _ hsel⟩ ⟨pre_blind, va_recv hK hPc hc he, fun U hU hW => ⟨rfl, by rw [hU], by rw [hU]; exact hPc, va_K.moved hW.alike hK, hDc.weaken (fun _ _ _ _ => trivial)⟩⟩ rfl hlen hl.1 rfl (lv_room hcat) hd hR.2.2) hS (fun q _ h => hFc q h) hFc (fun r u t H1 locs1 ht hvm hw hB hz1 hk1 hS1 => ?_)
  obtain ⟨z, rfl, hpost⟩ := hw
  obtain ⟨hP1, hK1, hD1⟩ := hB
  rw [ht] at hP1
  obtain ⟨hP2, hD2⟩ := va_join hP hD isC isR hC hRr hn.2.1 hn.2.2 hk1 hFc hP1 hD1
  exact K z u hpost H1 locs1 ls hP2 hD2 hS1 hl
theorem g_callVv (E : Am p m meth c cc nL ret s args own D cl cA A) {post : va_W → Prop} (hd : decode cc pc = .ok (.invokevirtual index, 3)) (M : Cv l D cl cA y (.code y bytes maxL ret' :: UW) rm mc ms (.ref b :: As) WS post) (hcode : Cond.code y bytes maxL ret' ∈ UW) (hlink : Cond.methodLink own index y ∈ UW) (hinst : Cond.instanceMethod y ∈ UW) (hsel : Cond.selects C y y ∈ UW) (hini : Cond.initialized y.cls ∈ UW) (hdd : y.cls ≠ "java/lang/invoke/MethodHandle" ∧ y.cls ≠ "java/lang/invoke/VarHandle" ∧ (parseMethodDescriptor y.desc).map (fun d => d.parameters.length) = some n) (hR : (rm.cells = mc ∧ rm.slots = ms) ∧ (rm.frames + 1 ≤ R.frames ∧ 8 + (maxL + 11) + rm.locals ≤ R.locals) ∧ (cells + mc ≤ R.cells ∧ slots + ms ≤ R.slots)) (isC isR : List Nat) (hC : isC.map (fun i => ws[i]?) = WS.map some) (hRr : isR.map (fun i => ws[i]?) = wr.map some) (hn : va_nd isC = true ∧ va_nd isR = true ∧ ∀ i ∈ isR, i ∉ isC) (q0 : Nat) (he : WS[q0]? = some (b, .inr (ci, fs))) (hc : cl[ci]? = some (C, T, N)) (hlen : As.length = n) (hst : st = As.reverse ++ .ref b :: rest) (hcat : (rest.map fun v => v.category).sum ≤ 8) (K : ∀ ws1 : va_W, post ws1 → GG p l e R s m args below meth c D cl A nL Q (cells + mc) (slots + ms) (wr ++ ws1) lv (pc + 3) rest) : GG p l e R s m args below meth c D cl A nL Q cells slots ws lv pc st := by
  intro H locs ls hP hD hS hl
  subst hst
  have hPc := hP.sub isC (wmap hC)
  have hDc := hD.sub isC hn.1 hC
  have hFc := va_free hD hS E.2.2.2.2.2.2.1 isC hC
  have hK := E.2.2.2.2.2.1
  have hts := E.2.2.2.2.1
  refine va_callv (va_runV (As := As) (rest := rest) (C := C) (Ts := UW) ⟨E.1, E.2.1, E.2.2.1, E.2.2.2.1, hts⟩ (M H.size) ⟨callB_of n hts (uw_goodC hcode (fun _ h => h)) rfl hR.1.1 hR.1.2 (hts _ hini) (hts _ hlink) hdd hR.2.1, hts _ hinst, hts _ hsel⟩ ⟨pre_blind, va_recv hK hPc hc he, fun U hU hW => ⟨rfl, by rw [hU], by rw [hU]; exact hPc, va_K.moved hW.alike hK, hDc.weaken (fun _ _ _ _ => trivial)⟩⟩ rfl hlen hl.1 rfl (lv_room hcat) hd hR.2.2) hS (fun q _ h => hFc q h) hFc (fun u t H1 locs1 ht hvm hw hB hz1 hk1 hS1 => ?_)
  obtain ⟨hP1, hK1, hD1⟩ := hB
  rw [ht] at hP1
  obtain ⟨hP2, hD2⟩ := va_join hP hD isC isR hC hRr hn.2.1 hn.2.2 hk1 hFc hP1 hD1
  exact K u hw H1 locs1 ls hP2 hD2 hS1 hl
theorem g_callS (E : Am p m meth c cc nL ret s args own D cl cA A) {post : Int → va_W → Prop} (hd : decode cc pc = .ok (.invokestatic index, 3)) (M : Ci l D cl cA y (.code y bytes maxL ret' :: UW) rm mc ms (As) WS post) (hcode : Cond.code y bytes maxL ret' ∈ UW) (hlink : Cond.methodLink own index y ∈ UW) (hstat : Cond.static y ∈ UW) (hini : Cond.initialized y.cls ∈ UW) (hdd : y.cls ≠ "java/lang/invoke/MethodHandle" ∧ y.cls ≠ "java/lang/invoke/VarHandle" ∧ (parseMethodDescriptor y.desc).map (fun d => d.parameters.length) = some n) (hR : (rm.cells = mc ∧ rm.slots = ms) ∧ (rm.frames + 1 ≤ R.frames ∧ 8 + (maxL + 11) + rm.locals ≤ R.locals) ∧ (cells + mc ≤ R.cells ∧ slots + ms ≤ R.slots)) (isC isR : List Nat) (hC : isC.map (fun i => ws[i]?) = WS.map some) (hRr : isR.map (fun i => ws[i]?) = wr.map some) (hn : va_nd isC = true ∧ va_nd isR = true ∧ ∀ i ∈ isR, i ∉ isC) (hlen : As.length = n) (hst : st = As.reverse ++ rest) (hcat : (rest.map fun v => v.category).sum ≤ 8) (K : ∀ (z : Int) (ws1 : va_W), post z ws1 → GG p l e R s m args below meth c D cl A nL Q (cells + mc) (slots + ms) (wr ++ ws1) lv (pc + 3) (.int (iI z) :: rest)) : GG p l e R s m args below meth c D cl A nL Q cells slots ws lv pc st := by
  intro H locs ls hP hD hS hl
  subst hst
  have hPc := hP.sub isC (wmap hC)
  have hDc := hD.sub isC hn.1 hC
  have hFc := va_free hD hS E.2.2.2.2.2.2.1 isC hC
  have hK := E.2.2.2.2.2.1
  have hts := E.2.2.2.2.1
  refine va_calli (va_runS (As := As) (rest := rest) (Ts := UW) ⟨E.1, E.2.1, E.2.2.1, E.2.2.2.1, hts⟩ (M H.size) ⟨callB_of n hts (uw_goodC hcode (fun _ h => h)) rfl hR.1.1 hR.1.2 (hts _ hini) (hts _ hlink) hdd hR.2.1, hts _ hstat⟩ ⟨pre_blind, fun U hU hW => ⟨rfl, by rw [hU], by rw [hU]; exact hPc, va_K.moved hW.alike hK, hDc.weaken (fun _ _ _ _ => trivial)⟩⟩ rfl hlen hl.1 rfl (lv_room hcat) hd hR.2.2) hS (fun q _ h => hFc q h) hFc (fun r u t H1 locs1 ht hvm hw hB hz1 hk1 hS1 => ?_)
  obtain ⟨z, rfl, hpost⟩ := hw
  obtain ⟨hP1, hK1, hD1⟩ := hB
  rw [ht] at hP1
  obtain ⟨hP2, hD2⟩ := va_join hP hD isC isR hC hRr hn.2.1 hn.2.2 hk1 hFc hP1 hD1
  exact K z u hpost H1 locs1 ls hP2 hD2 hS1 hl
theorem g_callSv (E : Am p m meth c cc nL ret s args own D cl cA A) {post : va_W → Prop} (hd : decode cc pc = .ok (.invokestatic index, 3)) (M : Cv l D cl cA y (.code y bytes maxL ret' :: UW) rm mc ms (As) WS post) (hcode : Cond.code y bytes maxL ret' ∈ UW) (hlink : Cond.methodLink own index y ∈ UW) (hstat : Cond.static y ∈ UW) (hini : Cond.initialized y.cls ∈ UW) (hdd : y.cls ≠ "java/lang/invoke/MethodHandle" ∧ y.cls ≠ "java/lang/invoke/VarHandle" ∧ (parseMethodDescriptor y.desc).map (fun d => d.parameters.length) = some n) (hR : (rm.cells = mc ∧ rm.slots = ms) ∧ (rm.frames + 1 ≤ R.frames ∧ 8 + (maxL + 11) + rm.locals ≤ R.locals) ∧ (cells + mc ≤ R.cells ∧ slots + ms ≤ R.slots)) (isC isR : List Nat) (hC : isC.map (fun i => ws[i]?) = WS.map some) (hRr : isR.map (fun i => ws[i]?) = wr.map some) (hn : va_nd isC = true ∧ va_nd isR = true ∧ ∀ i ∈ isR, i ∉ isC) (hlen : As.length = n) (hst : st = As.reverse ++ rest) (hcat : (rest.map fun v => v.category).sum ≤ 8) (K : ∀ ws1 : va_W, post ws1 → GG p l e R s m args below meth c D cl A nL Q (cells + mc) (slots + ms) (wr ++ ws1) lv (pc + 3) rest) : GG p l e R s m args below meth c D cl A nL Q cells slots ws lv pc st := by
  intro H locs ls hP hD hS hl
  subst hst
  have hPc := hP.sub isC (wmap hC)
  have hDc := hD.sub isC hn.1 hC
  have hFc := va_free hD hS E.2.2.2.2.2.2.1 isC hC
  have hK := E.2.2.2.2.2.1
  have hts := E.2.2.2.2.1
  refine va_callv (va_runS (As := As) (rest := rest) (Ts := UW) ⟨E.1, E.2.1, E.2.2.1, E.2.2.2.1, hts⟩ (M H.size) ⟨callB_of n hts (uw_goodC hcode (fun _ h => h)) rfl hR.1.1 hR.1.2 (hts _ hini) (hts _ hlink) hdd hR.2.1, hts _ hstat⟩ ⟨pre_blind, fun U hU hW => ⟨rfl, by rw [hU], by rw [hU]; exact hPc, va_K.moved hW.alike hK, hDc.weaken (fun _ _ _ _ => trivial)⟩⟩ rfl hlen hl.1 rfl (lv_room hcat) hd hR.2.2) hS (fun q _ h => hFc q h) hFc (fun u t H1 locs1 ht hvm hw hB hz1 hk1 hS1 => ?_)
  obtain ⟨hP1, hK1, hD1⟩ := hB
  rw [ht] at hP1
  obtain ⟨hP2, hD2⟩ := va_join hP hD isC isR hC hRr hn.2.1 hn.2.2 hk1 hFc hP1 hD1
  exact K u hw H1 locs1 ls hP2 hD2 hS1 hl
theorem g_callI (E : Am p m meth c cc nL ret s args own D cl cA A) {post : va_W → Prop} (hd : decode cc pc = .ok (.invokespecial index, 3)) (M : Cv l D cl cA y (.code y bytes maxL none :: UW) rm mc ms (.ref b :: As) WS post) (hcode : Cond.code y bytes maxL none ∈ UW) (hlink : Cond.methodLink own index y ∈ UW) (hinst : Cond.instanceMethod y ∈ UW) (hnm : y.name = "<init>") (hini : Cond.initialized y.cls ∈ UW) (hdd : y.cls ≠ "java/lang/invoke/MethodHandle" ∧ y.cls ≠ "java/lang/invoke/VarHandle" ∧ (parseMethodDescriptor y.desc).map (fun d => d.parameters.length) = some n) (hR : (rm.cells = mc ∧ rm.slots = ms) ∧ (rm.frames + 1 ≤ R.frames ∧ 8 + (maxL + 11) + rm.locals ≤ R.locals) ∧ (cells + mc ≤ R.cells ∧ slots + ms ≤ R.slots)) (isC isR : List Nat) (hC : isC.map (fun i => ws[i]?) = WS.map some) (hRr : isR.map (fun i => ws[i]?) = wr.map some) (hn : va_nd isC = true ∧ va_nd isR = true ∧ ∀ i ∈ isR, i ∉ isC) (hlen : As.length = n) (hst : st = As.reverse ++ .ref b :: rest) (hcat : (rest.map fun v => v.category).sum ≤ 8) (K : ∀ ws1 : va_W, post ws1 → GG p l e R s m args below meth c D cl A nL Q (cells + mc) (slots + ms) (wr ++ ws1) lv (pc + 3) rest) : GG p l e R s m args below meth c D cl A nL Q cells slots ws lv pc st := by
  intro H locs ls hP hD hS hl
  subst hst
  have hPc := hP.sub isC (wmap hC)
  have hDc := hD.sub isC hn.1 hC
  have hFc := va_free hD hS E.2.2.2.2.2.2.1 isC hC
  have hK := E.2.2.2.2.2.1
  have hts := E.2.2.2.2.1
  refine va_callv (va_runI (As := As) (rest := rest) (Ts := UW) ⟨E.1, E.2.1, E.2.2.1, E.2.2.2.1, hts⟩ (M H.size) ⟨callB_of n hts (uw_goodC hcode (fun _ h => h)) rfl hR.1.1 hR.1.2 (hts _ hini) (hts _ hlink) hdd hR.2.1, hnm, hts _ hinst⟩ ⟨pre_blind, fun U hU hW => ⟨rfl, by rw [hU], by rw [hU]; exact hPc, va_K.moved hW.alike hK, hDc.weaken (fun _ _ _ _ => trivial)⟩⟩ rfl hlen hl.1 rfl (lv_room hcat) hd hR.2.2) hS (fun q _ h => hFc q h) hFc (fun u t H1 locs1 ht hvm hw hB hz1 hk1 hS1 => ?_)
  obtain ⟨hP1, hK1, hD1⟩ := hB
  rw [ht] at hP1
  obtain ⟨hP2, hD2⟩ := va_join hP hD isC isR hC hRr hn.2.1 hn.2.2 hk1 hFc hP1 hD1
  exact K u hw H1 locs1 ls hP2 hD2 hS1 hl
end GGc
section GGsw
variable {p : Program} {l : Launch} {e : Env} {R : Room} {s : State} {m : MethodId} {args : Array Value} {below : List Frame} {meth : Method} {c : Code} {cells slots : Nat} {Q : State → Prop} {cc : ByteArray} {nL : Nat} {ret : Option FieldType} {own : String} {D : va_G} {cl : List vw_C} {cA : ClassId} {A : Nat → Prop} {ws ws' : va_W} {lv lv' : List (Nat × Value)} {pc : Nat} {st rest : List Value}
theorem g_tsIn (E : Am p m meth c cc nL ret s args own D cl cA A) {a dflt lo hi off : Int} {offs : Array Int} {len tgt : Nat} (hd : decode cc pc = .ok (.tableswitch dflt lo hi offs, len)) (ha : iB a) (h1 : lo ≤ a) (h2 : a ≤ hi) (ho : offs[(a - lo).toNat]? = some off) (ht : (pc : Int) + off = (tgt : Int)) (K : GG p l e R s m args below meth c D cl A nL Q cells slots ws lv tgt st) : GG p l e R s m args below meth c D cl A nL Q cells slots ws lv pc (.int (iI a) :: st) :=
  fun H locs ls hP hD hS hl => lv_tableIn E.1 E.2.1 hd (by rw [iI_toInt ha]; omega) (by rw [iI_toInt ha]; omega) (by rw [iI_toInt ha]; exact ho) ht (K H locs ls hP hD hS hl)
theorem g_tsOut (E : Am p m meth c cc nL ret s args own D cl cA A) {a dflt lo hi : Int} {offs : Array Int} {len tgt : Nat} (hd : decode cc pc = .ok (.tableswitch dflt lo hi offs, len)) (ha : iB a) (h1 : a < lo ∨ hi < a) (ht : (pc : Int) + dflt = (tgt : Int)) (K : GG p l e R s m args below meth c D cl A nL Q cells slots ws lv tgt st) : GG p l e R s m args below meth c D cl A nL Q cells slots ws lv pc (.int (iI a) :: st) :=
  fun H locs ls hP hD hS hl => lv_tableOut E.1 E.2.1 hd (by rw [iI_toInt ha]; exact h1) ht (K H locs ls hP hD hS hl)
end GGsw
