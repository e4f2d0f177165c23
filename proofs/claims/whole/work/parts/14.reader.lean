theorem wd_66 : Cond.fieldLink RX1 19 "PackedSlots$Reader" "error" "I" ∈ UW := uw (by decide +kernel) rfl
theorem wd_67 : Cond.fieldLink RX1 15 "PackedSlots$Reader" "errorPlace" "I" ∈ UW := uw (by decide +kernel) rfl
theorem wd_68 : Cond.fieldLink RX1 31 "PackedSlots$Reader" "at" "I" ∈ UW := uw (by decide +kernel) rfl
theorem wd_69 : Cond.fieldLink RX1 28 "PackedSlots$Reader" "length" "I" ∈ UW := uw (by decide +kernel) rfl
theorem wd_70 : Cond.fieldLink RX1 22 "PackedSlots$Reader" "source" "[I" ∈ UW := uw (by decide +kernel) rfl
theorem wd_71 : Cond.fieldLink RX1 25 "PackedSlots$Reader" "start" "I" ∈ UW := uw (by decide +kernel) rfl
theorem wd_72 : Cond.methodLink RX1 56 yX1_fail ∈ UW := uw (by decide +kernel) rfl
theorem wd_73 : Cond.instanceMethod yX1_fail ∈ UW := uw (by decide +kernel) rfl
theorem wd_74 : Cond.selects RX1 yX1_fail yX1_fail ∈ UW := uw (by decide +kernel) rfl
theorem wd_75 : Cond.initialized yX1_fail.cls ∈ UW := uw (by decide +kernel) rfl
theorem wd_76 : Cond.fieldLink RX1 9 "PackedSlots$Reader" "out" "[I" ∈ UW := uw (by decide +kernel) rfl
theorem wd_77 : Cond.fieldLink RX1 34 "PackedSlots$Reader" "count" "I" ∈ UW := uw (by decide +kernel) rfl
theorem wd_78 : Cond.methodLink RX1 41 yX1_next ∈ UW := uw (by decide +kernel) rfl
theorem wd_79 : Cond.instanceMethod yX1_next ∈ UW := uw (by decide +kernel) rfl
theorem wd_80 : Cond.selects RX1 yX1_next yX1_next ∈ UW := uw (by decide +kernel) rfl
theorem wd_81 : Cond.initialized yX1_next.cls ∈ UW := uw (by decide +kernel) rfl
def sh (F : Int → Int) (s : Int) : Int → Int := fun k => F (s + k)
def adF (S : Int → Int) (n : Int) : Nat → Int → Int → Option (Int × Int)
  | 0, _, _ => none
  | f + 1, a, s => if n ≤ a then none else if S a = 255 then adF S n f (a + 1) (s + 255) else some (s + S a, a + 1)
def ad (S : Int → Int) (n a s : Int) : Option (Int × Int) := adF S n (n - a + 1).toNat a s
theorem ad_lack {S : Int → Int} {n a s : Int} (h : n ≤ a) : ad S n a s = none := by
  unfold ad
  cases (n - a + 1).toNat with
  | zero => rfl
  | succ k => show (if _ then _ else _) = _; rw [if_pos h]
theorem ad_more {S : Int → Int} {n a s : Int} (h : a < n) (e : S a = 255) : ad S n a s = ad S n (a + 1) (s + 255) := by
  unfold ad
  rw [show (n - a + 1).toNat = (n - (a + 1) + 1).toNat + 1 by omega]
  show (if _ then _ else _) = _
  rw [if_neg (by omega), if_pos e]
theorem ad_end {S : Int → Int} {n a s : Int} (h : a < n) (e : S a ≠ 255) : ad S n a s = some (s + S a, a + 1) := by
  unfold ad
  rw [show (n - a + 1).toNat = (n - a).toNat + 1 by omega]
  show (if _ then _ else _) = _
  rw [if_neg (by omega), if_neg e]
def numb (S : Int → Int) (n h a : Int) : Option (Int × Int) := if h = 15 then (ad S n a 0).map (fun p => (15 + p.1, p.2)) else some (h, a)
def ltk (S : Int → Int) (n h a tok c : Int) : Int × Int × Int × Int := match numb S n h a with
  | none => (1, n, 0, 0)
  | some p => if 256 < c + p.1 then (3, tok, 0, 0) else if n < p.2 + p.1 then (1, n, 0, 0) else (0, -1, p.1, p.2)
theorem ltk_n {S : Int → Int} {n h a tok c : Int} (e : numb S n h a = none) : ltk S n h a tok c = (1, n, 0, 0) := by unfold ltk; rw [e]
theorem ltk_3 {S : Int → Int} {n h a tok c x b : Int} (e : numb S n h a = some (x, b)) (g : 256 < c + x) : ltk S n h a tok c = (3, tok, 0, 0) := by
  unfold ltk; rw [e]; show (if _ then _ else _) = _; rw [if_pos g]
theorem ltk_1 {S : Int → Int} {n h a tok c x b : Int} (e : numb S n h a = some (x, b)) (g : c + x ≤ 256) (g2 : n < b + x) : ltk S n h a tok c = (1, n, 0, 0) := by
  unfold ltk; rw [e]; show (if _ then _ else _) = _; rw [if_neg (by omega), if_pos g2]
theorem ltk_0 {S : Int → Int} {n h a tok c x b : Int} (e : numb S n h a = some (x, b)) (g : c + x ≤ 256) (g2 : b + x ≤ n) : ltk S n h a tok c = (0, -1, x, b) := by
  unfold ltk; rw [e]; show (if _ then _ else _) = _; rw [if_neg (by omega), if_neg (by omega)]
def mtk (S : Int → Int) (n h a tok c : Int) : Int × Int × Int × Int × Int := if n < a + 2 then (1, n, 0, 0, 0) else if S a + 256 * S (a + 1) = 0 ∨ c < S a + 256 * S (a + 1) then (2, a, 0, 0, 0) else match numb S n h (a + 2) with
  | none => (1, n, 0, 0, 0)
  | some p => if 256 < c + (4 + p.1) then (3, tok, 0, 0, 0) else (0, -1, S a + 256 * S (a + 1), 4 + p.1, p.2)
theorem mtk_1 {S : Int → Int} {n h a tok c : Int} (g : n < a + 2) : mtk S n h a tok c = (1, n, 0, 0, 0) := by unfold mtk; rw [if_pos g]
theorem mtk_2 {S : Int → Int} {n h a tok c : Int} (g : a + 2 ≤ n) (g2 : S a + 256 * S (a + 1) = 0 ∨ c < S a + 256 * S (a + 1)) : mtk S n h a tok c = (2, a, 0, 0, 0) := by unfold mtk; rw [if_neg (by omega), if_pos g2]
theorem mtk_n {S : Int → Int} {n h a tok c : Int} (g : a + 2 ≤ n) (g2 : S a + 256 * S (a + 1) ≠ 0 ∧ S a + 256 * S (a + 1) ≤ c) (e : numb S n h (a + 2) = none) : mtk S n h a tok c = (1, n, 0, 0, 0) := by
  unfold mtk; rw [if_neg (by omega), if_neg (by omega), e]
theorem mtk_3 {S : Int → Int} {n h a tok c x b : Int} (g : a + 2 ≤ n) (g2 : S a + 256 * S (a + 1) ≠ 0 ∧ S a + 256 * S (a + 1) ≤ c) (e : numb S n h (a + 2) = some (x, b)) (g3 : 256 < c + (4 + x)) : mtk S n h a tok c = (3, tok, 0, 0, 0) := by
  unfold mtk; rw [if_neg (by omega), if_neg (by omega), e]; show (if _ then _ else _) = _; rw [if_pos g3]
theorem mtk_0 {S : Int → Int} {n h a tok c x b : Int} (g : a + 2 ≤ n) (g2 : S a + 256 * S (a + 1) ≠ 0 ∧ S a + 256 * S (a + 1) ≤ c) (e : numb S n h (a + 2) = some (x, b)) (g3 : c + (4 + x) ≤ 256) : mtk S n h a tok c = (0, -1, S a + 256 * S (a + 1), 4 + x, b) := by
  unfold mtk; rw [if_neg (by omega), if_neg (by omega), e]; show (if _ then _ else _) = _; rw [if_neg (by omega)]
theorem cp_0 (f g : Int → Int) (a c : Int) : cp f g a c 0 = g := by
  funext k; unfold cp; rw [if_neg (by omega)]
theorem cp_s {f g G : Int → Int} {a c k v : Int} (hk : 0 ≤ k) (hG : G = cp f g a c k) (hv : v = f (a + k)) : up G (c + k) v = cp f g a c (k + 1) := by
  subst hG; subst hv; funext j; unfold up
  by_cases h : j = c + k
  · subst h; rw [if_pos rfl]; unfold cp; rw [if_pos (by omega), show c + k - c = k by omega]
  · rw [if_neg h]; unfold cp
    by_cases h2 : c ≤ j ∧ j < c + k
    · rw [if_pos h2, if_pos (by omega)]
    · rw [if_neg h2, if_neg (by omega)]
def rpk (O : Int → Int) (c o : Int) : Nat → (Int → Int)
  | 0 => O
  | k + 1 => up (rpk O c o k) (c + (k : Int)) (rpk O c o k (c + (k : Int) - o))
theorem rpk_s {O G : Int → Int} {c o k : Int} (hk : 0 ≤ k) (hG : G = rpk O c o k.toNat) : up G (c + k) (G (c + k - o)) = rpk O c o (k + 1).toNat := by
  obtain ⟨x, rfl⟩ := Int.eq_ofNat_of_zero_le hk
  subst hG
  rw [show ((x : Int) + 1).toNat = x + 1 by omega, show ((x : Int)).toNat = x by omega]
  rfl
def rdf (S : Int → Int) (n : Int) : Nat → Int → Int → (Int → Int) → Int × Int × Int × (Int → Int)
  | 0, _, c, O => (0, -1, c, O)
  | f + 1, a, c, O => if n ≤ a then (1, n, c, O) else
    if (ltk S n (S a / 16) (a + 1) a c).1 ≠ 0 then ((ltk S n (S a / 16) (a + 1) a c).1, (ltk S n (S a / 16) (a + 1) a c).2.1, c, O) else
    if n ≤ (ltk S n (S a / 16) (a + 1) a c).2.2.2 + (ltk S n (S a / 16) (a + 1) a c).2.2.1 then (0, -1, c + (ltk S n (S a / 16) (a + 1) a c).2.2.1, cp S O (ltk S n (S a / 16) (a + 1) a c).2.2.2 c (ltk S n (S a / 16) (a + 1) a c).2.2.1) else
    if (mtk S n (S a % 16) ((ltk S n (S a / 16) (a + 1) a c).2.2.2 + (ltk S n (S a / 16) (a + 1) a c).2.2.1) a (c + (ltk S n (S a / 16) (a + 1) a c).2.2.1)).1 ≠ 0 then
      ((mtk S n (S a % 16) ((ltk S n (S a / 16) (a + 1) a c).2.2.2 + (ltk S n (S a / 16) (a + 1) a c).2.2.1) a (c + (ltk S n (S a / 16) (a + 1) a c).2.2.1)).1, (mtk S n (S a % 16) ((ltk S n (S a / 16) (a + 1) a c).2.2.2 + (ltk S n (S a / 16) (a + 1) a c).2.2.1) a (c + (ltk S n (S a / 16) (a + 1) a c).2.2.1)).2.1, c, O) else
      rdf S n f (mtk S n (S a % 16) ((ltk S n (S a / 16) (a + 1) a c).2.2.2 + (ltk S n (S a / 16) (a + 1) a c).2.2.1) a (c + (ltk S n (S a / 16) (a + 1) a c).2.2.1)).2.2.2.2 (c + (ltk S n (S a / 16) (a + 1) a c).2.2.1 + (mtk S n (S a % 16) ((ltk S n (S a / 16) (a + 1) a c).2.2.2 + (ltk S n (S a / 16) (a + 1) a c).2.2.1) a (c + (ltk S n (S a / 16) (a + 1) a c).2.2.1)).2.2.2.1) (rpk (cp S O (ltk S n (S a / 16) (a + 1) a c).2.2.2 c (ltk S n (S a / 16) (a + 1) a c).2.2.1) (c + (ltk S n (S a / 16) (a + 1) a c).2.2.1) (mtk S n (S a % 16) ((ltk S n (S a / 16) (a + 1) a c).2.2.2 + (ltk S n (S a / 16) (a + 1) a c).2.2.1) a (c + (ltk S n (S a / 16) (a + 1) a c).2.2.1)).2.2.1 (mtk S n (S a % 16) ((ltk S n (S a / 16) (a + 1) a c).2.2.2 + (ltk S n (S a / 16) (a + 1) a c).2.2.1) a (c + (ltk S n (S a / 16) (a + 1) a c).2.2.1)).2.2.2.1.toNat)
theorem rdf_lack {S : Int → Int} {n a c : Int} {O : Int → Int} {f : Nat} (h : n ≤ a) : rdf S n (f + 1) a c O = (1, n, c, O) := by
  rw [rdf, if_pos h]
theorem rdf_lerr {S : Int → Int} {n a c e pl x b : Int} {O : Int → Int} {f : Nat} (h : a < n) (hl : ltk S n (S a / 16) (a + 1) a c = (e, pl, x, b)) (he : e ≠ 0) : rdf S n (f + 1) a c O = (e, pl, c, O) := by
  rw [rdf, if_neg (by omega), hl, if_pos he]
theorem rdf_fin {S : Int → Int} {n a c pl x b : Int} {O : Int → Int} {f : Nat} (h : a < n) (hl : ltk S n (S a / 16) (a + 1) a c = (0, pl, x, b)) (he : n ≤ b + x) : rdf S n (f + 1) a c O = (0, -1, c + x, cp S O b c x) := by
  rw [rdf, if_neg (by omega), hl, if_neg (by simp), if_pos he]
theorem rdf_merr {S : Int → Int} {n a c pl x b e pm o w d : Int} {O : Int → Int} {f : Nat} (h : a < n) (hl : ltk S n (S a / 16) (a + 1) a c = (0, pl, x, b)) (hb : b + x < n) (hm : mtk S n (S a % 16) (b + x) a (c + x) = (e, pm, o, w, d)) (he : e ≠ 0) : rdf S n (f + 1) a c O = (e, pm, c, O) := by
  rw [rdf, if_neg (by omega), hl, if_neg (by simp), if_neg (by show ¬ n ≤ b + x; omega), hm, if_pos he]
theorem rdf_more {S : Int → Int} {n a c pl x b pm o w d : Int} {O : Int → Int} {f : Nat} (h : a < n) (hl : ltk S n (S a / 16) (a + 1) a c = (0, pl, x, b)) (hb : b + x < n) (hm : mtk S n (S a % 16) (b + x) a (c + x) = (0, pm, o, w, d)) : rdf S n (f + 1) a c O = rdf S n f d (c + x + w) (rpk (cp S O b c x) (c + x) o w.toNat) := by
  rw [rdf, if_neg (by omega), hl, if_neg (by simp), if_neg (by show ¬ n ≤ b + x; omega), hm, if_neg (by simp)]
set_option maxHeartbeats 4000000 in
set_option maxRecDepth 100000 in
theorem c_X1_fail (l : Launch) (D : va_G) (cA : ClassId) (rd : Nat) (ro : Nat) (src : Nat) (re : Int) (rx : Int) (rs : Int) (rl : Int) (ra : Int) (rc : Int) (fw : Int) (fp : Int) (hrx : iB rx) : Cv l D vwCl cA yX1_fail (.code yX1_fail cX1_fail 3 none :: UW) ({ frames := 0, cells := 0, slots := 0, locals := 0 }) 0 0 [.ref rd, .int (iI fw), .int (iI fp)] [(rd, .inr (1, [.ref ro, .int (iI re), .int (iI rx), .ref src, .int (iI rs), .int (iI rl), .int (iI ra), .int (iI rc)]))] (fun (w : va_W) => ∃ (fe : Int) (fx : Int), ((rx = 0 ∧ fx = fw ∧ fe = fp) ∨ (rx ≠ 0 ∧ fx = rx ∧ fe = re)) ∧ w = [(rd, .inr (1, [.ref ro, .int (iI fe), .int (iI fx), .ref src, .int (iI rs), .int (iI rl), .int (iI ra), .int (iI rc)]))]) := by
  refine Cv.mk (by decide) (Nat.le_of_ble_eq_true rfl) ?_
  intro p e s m args below meth c A E hin
  refine GG.lvs (lv' := [(0, .ref rd), (1, .int (iI fw)), (2, .int (iI fp))]) [0, 1, 2] rfl ?_
  refine g_aload_n E dX1_fail_0 rfl 0 rfl ?_
  refine g_getfield E dX1_fail_1 0 2 rfl rfl (by decide) iX1 wd_66 rfl rfl ?_
  refine g_if_ne (tgt := 17) E dX1_fail_4 (by decide) ⟨(by omega), (by omega)⟩ (fun c_4 => ?_) (fun c_4 => ?_)
  · skip
    refine g_return E dX1_fail_17 ?_
    first | exact ⟨re, rx, Or.inr ⟨c_4, rfl, rfl⟩, rfl⟩ | exact ⟨fp, fw, Or.inl ⟨c_4, rfl, rfl⟩, rfl⟩
  · skip
    refine g_aload_n E dX1_fail_7 rfl 0 rfl ?_
    refine g_iload_n E dX1_fail_8 rfl 1 rfl ?_
    refine g_putfield (ws' := [(rd, .inr (1, [.ref ro, .int (iI re), .int (iI fw), .ref src, .int (iI rs), .int (iI rl), .int (iI ra), .int (iI rc)]))]) E dX1_fail_9 0 2 rfl rfl (by decide) iX1 tyX1 tyX1_ok nmX1 wd_66 rfl rfl rfl rfl rfl (Nat.le_of_ble_eq_true rfl) rfl ?_
    refine g_aload_n E dX1_fail_12 rfl 0 rfl ?_
    refine g_iload_n E dX1_fail_13 rfl 2 rfl ?_
    refine g_putfield (ws' := [(rd, .inr (1, [.ref ro, .int (iI fp), .int (iI fw), .ref src, .int (iI rs), .int (iI rl), .int (iI ra), .int (iI rc)]))]) E dX1_fail_14 0 1 rfl rfl (by decide) iX1 tyX1 tyX1_ok nmX1 wd_67 rfl rfl rfl rfl rfl (Nat.le_of_ble_eq_true rfl) rfl ?_
    refine g_return E dX1_fail_17 ?_
    first | exact ⟨re, rx, Or.inr ⟨c_4, rfl, rfl⟩, rfl⟩ | exact ⟨fp, fw, Or.inl ⟨c_4, rfl, rfl⟩, rfl⟩
set_option maxHeartbeats 4000000 in
set_option maxRecDepth 100000 in
theorem c_X1_next (l : Launch) (D : va_G) (cA : ClassId) (rd : Nat) (ro : Nat) (src : Nat) (re : Int) (rx : Int) (rs : Int) (rl : Int) (ra : Int) (rc : Int) (N : Nat) (F : Int → Int) (hR : 0 ≤ rs ∧ rs + rl ≤ N ∧ 0 ≤ rl) (hN : N ≤ 4096) (ha : 0 ≤ ra ∧ ra ≤ rl) (hrx : iB rx) : Ci l D vwCl cA yX1_next (.code yX1_next cX1_next 1 (some .int) :: UW) ({ frames := 1, cells := 0, slots := 0, locals := 22 }) 0 0 [.ref rd] [(rd, .inr (1, [.ref ro, .int (iI re), .int (iI rx), .ref src, .int (iI rs), .int (iI rl), .int (iI ra), .int (iI rc)])), (src, aE cA N F)] (fun (r : Int) (w : va_W) => ∃ (fe : Int) (fx : Int) (fa : Int), ((ra < rl ∧ r = F (rs + ra) ∧ fa = ra + 1 ∧ fx = rx ∧ fe = re) ∨ (rl ≤ ra ∧ r = 0 ∧ fa = ra ∧ ((rx = 0 ∧ fx = 1 ∧ fe = rl) ∨ (rx ≠ 0 ∧ fx = rx ∧ fe = re)))) ∧ w = [(rd, .inr (1, [.ref ro, .int (iI fe), .int (iI fx), .ref src, .int (iI rs), .int (iI rl), .int (iI fa), .int (iI rc)])), (src, aE cA N F)]) := by
  refine Ci.mk (by decide) (Nat.le_of_ble_eq_true rfl) ?_
  intro p e s m args below meth c A E
  refine GG.lvs (lv' := [(0, .ref rd)]) [0] rfl ?_
  refine g_aload_n E dX1_next_0 rfl 0 rfl ?_
  refine g_getfield E dX1_next_1 0 6 rfl rfl (by decide) iX1 wd_68 rfl rfl ?_
  refine g_aload_n E dX1_next_4 rfl 0 rfl ?_
  refine g_getfield E dX1_next_5 0 5 rfl rfl (by decide) iX1 wd_69 rfl rfl ?_
  refine g_icmp_lt (tgt := 22) E dX1_next_8 (by decide) ⟨(by omega), (by omega)⟩ ⟨(by omega), (by omega)⟩ (fun c_8 => ?_) (fun c_8 => ?_)
  · skip
    refine g_aload_n E dX1_next_22 rfl 0 rfl ?_
    refine g_dup E dX1_next_23 rfl ?_
    refine g_getfield E dX1_next_24 0 6 rfl rfl (by decide) iX1 wd_68 rfl rfl ?_
    refine g_iconst E dX1_next_27 ?_
    refine g_iadd E dX1_next_28 ?_
    refine g_putfield (ws' := [(rd, .inr (1, [.ref ro, .int (iI re), .int (iI rx), .ref src, .int (iI rs), .int (iI rl), .int (iI (ra + 1)), .int (iI rc)])), (src, aE cA N F)]) E dX1_next_29 0 6 rfl rfl (by decide) iX1 tyX1 tyX1_ok nmX1 wd_68 rfl rfl rfl rfl rfl (Nat.le_of_ble_eq_true rfl) rfl ?_
    refine g_aload_n E dX1_next_32 rfl 0 rfl ?_
    refine g_getfield E dX1_next_33 0 3 rfl rfl (by decide) iX1 wd_70 rfl rfl ?_
    refine g_aload_n E dX1_next_36 rfl 0 rfl ?_
    refine g_getfield E dX1_next_37 0 4 rfl rfl (by decide) iX1 wd_71 rfl rfl ?_
    refine g_aload_n E dX1_next_40 rfl 0 rfl ?_
    refine g_getfield E dX1_next_41 0 6 rfl rfl (by decide) iX1 wd_68 rfl rfl ?_
    refine g_iadd E dX1_next_44 ?_
    refine g_iconst E dX1_next_45 ?_
    refine g_isub E dX1_next_46 ?_
    refine g_iaload E dX1_next_47 1 rfl (by omega) (by omega) (by omega) ?_
    refine g_ireturn E dX1_next_48 ?_
    exact ⟨re, rx, ra + 1, Or.inl ⟨by omega, by rw [show rs + (ra + 1) - 1 = rs + ra by omega], rfl, rfl, rfl⟩, rfl⟩
  · skip
    refine g_aload_n E dX1_next_11 rfl 0 rfl ?_
    refine g_iconst E dX1_next_12 ?_
    refine g_aload_n E dX1_next_13 rfl 0 rfl ?_
    refine g_getfield E dX1_next_14 0 5 rfl rfl (by decide) iX1 wd_69 rfl rfl ?_
    refine g_callVv (n := 2) (As := [.int (iI 1), .int (iI rl)]) (rest := []) (wr := [(src, aE cA N F)]) E dX1_next_17 (c_X1_fail l D cA rd ro src re rx rs rl ra rc 1 rl (by omega)) wd_code_X1_fail wd_72 wd_73 wd_74 wd_75 (by decide +kernel) ⟨⟨rfl, rfl⟩, ⟨(Nat.le_of_ble_eq_true rfl), (Nat.le_of_ble_eq_true rfl)⟩, ⟨(Nat.le_of_ble_eq_true rfl), (Nat.le_of_ble_eq_true rfl)⟩⟩ [0] [1] rfl rfl (by decide) 0 rfl rfl rfl rfl (Nat.le_of_ble_eq_true rfl) (fun w_17 hw_17 => ?_)
    obtain ⟨fe_17, fx_17, hf_17, rfl⟩ := hw_17
    refine GG.wss (ws' := [(rd, .inr (1, [.ref ro, .int (iI fe_17), .int (iI fx_17), .ref src, .int (iI rs), .int (iI rl), .int (iI ra), .int (iI rc)])), (src, aE cA N F)]) [1, 0] (by decide) rfl ?_
    refine g_iconst E dX1_next_20 ?_
    refine g_ireturn E dX1_next_21 ?_
    exact ⟨fe_17, fx_17, ra, Or.inr ⟨by omega, rfl, rfl, hf_17⟩, rfl⟩
set_option maxHeartbeats 4000000 in
set_option maxRecDepth 100000 in
theorem c_X1_putOut (l : Launch) (D : va_G) (cA : ClassId) (rd : Nat) (ro : Nat) (src : Nat) (re : Int) (rx : Int) (rs : Int) (rl : Int) (ra : Int) (rc : Int) (RO : Int → Int) (b : Int) (hrc : 0 ≤ rc ∧ rc < 256) : Cv l D vwCl cA yX1_putOut (.code yX1_putOut cX1_putOut 2 none :: UW) ({ frames := 0, cells := 0, slots := 0, locals := 0 }) 0 0 [.ref rd, .int (iI b)] [(rd, .inr (1, [.ref ro, .int (iI re), .int (iI rx), .ref src, .int (iI rs), .int (iI rl), .int (iI ra), .int (iI rc)])), (ro, aE cA 256 RO)] (fun (w : va_W) => w = [(rd, .inr (1, [.ref ro, .int (iI re), .int (iI rx), .ref src, .int (iI rs), .int (iI rl), .int (iI ra), .int (iI (rc + 1))])), (ro, aE cA 256 (up RO rc b))]) := by
  refine Cv.mk (by decide) (Nat.le_of_ble_eq_true rfl) ?_
  intro p e s m args below meth c A E hin
  refine GG.lvs (lv' := [(0, .ref rd), (1, .int (iI b))]) [0, 1] rfl ?_
  refine g_aload_n E dX1_putOut_0 rfl 0 rfl ?_
  refine g_getfield E dX1_putOut_1 0 0 rfl rfl (by decide) iX1 wd_76 rfl rfl ?_
  refine g_aload_n E dX1_putOut_4 rfl 0 rfl ?_
  refine g_getfield E dX1_putOut_5 0 7 rfl rfl (by decide) iX1 wd_77 rfl rfl ?_
  refine g_iload_n E dX1_putOut_8 rfl 1 rfl ?_
  refine g_iastore (ws' := [(rd, .inr (1, [.ref ro, .int (iI re), .int (iI rx), .ref src, .int (iI rs), .int (iI rl), .int (iI ra), .int (iI rc)])), (ro, aE cA 256 (up RO rc b))]) E dX1_putOut_9 1 rfl (by omega) (by omega) (by omega) rfl ?_
  refine g_aload_n E dX1_putOut_10 rfl 0 rfl ?_
  refine g_dup E dX1_putOut_11 rfl ?_
  refine g_getfield E dX1_putOut_12 0 7 rfl rfl (by decide) iX1 wd_77 rfl rfl ?_
  refine g_iconst E dX1_putOut_15 ?_
  refine g_iadd E dX1_putOut_16 ?_
  refine g_putfield (ws' := [(rd, .inr (1, [.ref ro, .int (iI re), .int (iI rx), .ref src, .int (iI rs), .int (iI rl), .int (iI ra), .int (iI (rc + 1))])), (ro, aE cA 256 (up RO rc b))]) E dX1_putOut_17 0 7 rfl rfl (by decide) iX1 tyX1 tyX1_ok nmX1 wd_77 rfl rfl rfl rfl rfl (Nat.le_of_ble_eq_true rfl) rfl ?_
  refine g_return E dX1_putOut_20 ?_
  rfl
set_option maxHeartbeats 4000000 in
set_option maxRecDepth 100000 in
theorem c_X1_readNumber (l : Launch) (D : va_G) (cA : ClassId) (rd : Nat) (ro : Nat) (src : Nat) (re : Int) (rx : Int) (rs : Int) (rl : Int) (ra : Int) (rc : Int) (N : Nat) (F : Int → Int) (h : Int) (hR : 0 ≤ rs ∧ rs + rl ≤ N ∧ 0 ≤ rl) (hN : N ≤ 4096) (ha : 0 ≤ ra ∧ ra ≤ rl) (hS : byR rl (sh F rs)) (hrx : iB rx) (hh : 0 ≤ h ∧ h ≤ 15) : Ci l D vwCl cA yX1_readNumber (.code yX1_readNumber cX1_readNumber 6 (some .int) :: UW) ({ frames := 2, cells := 0, slots := 0, locals := 42 }) 0 0 [.ref rd, .int (iI h)] [(rd, .inr (1, [.ref ro, .int (iI re), .int (iI rx), .ref src, .int (iI rs), .int (iI rl), .int (iI ra), .int (iI rc)])), (src, aE cA N F)] (fun (r : Int) (w : va_W) => ∃ (ne : Int) (nx : Int) (na : Int), ((numb (sh F rs) rl h ra = some (r, na) ∧ nx = rx ∧ ne = re) ∨ (numb (sh F rs) rl h ra = none ∧ ((rx = 0 ∧ nx = 1 ∧ ne = rl) ∨ (rx ≠ 0 ∧ nx = rx ∧ ne = re)))) ∧ (0 ≤ r ∧ r ≤ 2000000 ∧ ra ≤ na ∧ na ≤ rl) ∧ iB nx ∧ w = [(rd, .inr (1, [.ref ro, .int (iI ne), .int (iI nx), .ref src, .int (iI rs), .int (iI rl), .int (iI na), .int (iI rc)])), (src, aE cA N F)]) := by
  refine Ci.mk (by decide) (Nat.le_of_ble_eq_true rfl) ?_
  intro p e s m args below meth c A E
  refine GG.lvs (lv' := [(0, .ref rd), (1, .int (iI h))]) [0, 1] rfl ?_
  have L13 : ∀ (mo : Int), (mo = 1 ∧ h = 15) ∨ (mo = 0 ∧ h ≠ 15) → GG p l e ({ frames := 2, cells := 0, slots := 0, locals := 42 }) s m args below meth c D vwCl A 6 (QI D vwCl cA A below args s 0 0 (fun (r : Int) (w : va_W) => ∃ (ne : Int) (nx : Int) (na : Int), ((numb (sh F rs) rl h ra = some (r, na) ∧ nx = rx ∧ ne = re) ∨ (numb (sh F rs) rl h ra = none ∧ ((rx = 0 ∧ nx = 1 ∧ ne = rl) ∨ (rx ≠ 0 ∧ nx = rx ∧ ne = re)))) ∧ (0 ≤ r ∧ r ≤ 2000000 ∧ ra ≤ na ∧ na ≤ rl) ∧ iB nx ∧ w = [(rd, .inr (1, [.ref ro, .int (iI ne), .int (iI nx), .ref src, .int (iI rs), .int (iI rl), .int (iI na), .int (iI rc)])), (src, aE cA N F)])) 0 0 [(rd, .inr (1, [.ref ro, .int (iI re), .int (iI rx), .ref src, .int (iI rs), .int (iI rl), .int (iI ra), .int (iI rc)])), (src, aE cA N F)] [(0, .ref rd), (1, .int (iI h)), (2, .int (iI h))] 13 [.int (iI mo)] := by
    intro mo hmo
    refine g_istore_n (lv' := [(3, .int (iI mo)), (0, .ref rd), (1, .int (iI h)), (2, .int (iI h))]) E dX1_readNumber_13 rfl (by decide) rfl ?_
    refine g_iconst E dX1_readNumber_14 ?_
    refine g_istore (lv' := [(4, .int (iI 0)), (3, .int (iI mo)), (0, .ref rd), (1, .int (iI h)), (2, .int (iI h))]) E dX1_readNumber_15 (by decide) rfl ?_
    have L17 : ∀ (fu17 : Nat) (nu : Int) (mo : Int) (k : Int) (a : Int) (xx : Int) (xe : Int), 0 ≤ nu ∧ nu ≤ 15 + 255 * (a - ra) ∧ ra ≤ a ∧ a ≤ rl ∧ 0 ≤ k ∧ k ≤ a - ra + 1 → iB xx → (mo = 1 ∧ h = 15 ∧ k = a - ra ∧ xx = rx ∧ xe = re ∧ ad (sh F rs) rl ra 0 = ad (sh F rs) rl a (nu - 15)) ∨ (mo = 0 ∧ ((numb (sh F rs) rl h ra = some (nu, a) ∧ xx = rx ∧ xe = re) ∨ (numb (sh F rs) rl h ra = none ∧ ((rx = 0 ∧ xx = 1 ∧ xe = rl) ∨ (rx ≠ 0 ∧ xx = rx ∧ xe = re))))) → (2 * (rl - a) + mo) < (fu17 : Int) → GG p l e ({ frames := 2, cells := 0, slots := 0, locals := 42 }) s m args below meth c D vwCl A 6 (QI D vwCl cA A below args s 0 0 (fun (r : Int) (w : va_W) => ∃ (ne : Int) (nx : Int) (na : Int), ((numb (sh F rs) rl h ra = some (r, na) ∧ nx = rx ∧ ne = re) ∨ (numb (sh F rs) rl h ra = none ∧ ((rx = 0 ∧ nx = 1 ∧ ne = rl) ∨ (rx ≠ 0 ∧ nx = rx ∧ ne = re)))) ∧ (0 ≤ r ∧ r ≤ 2000000 ∧ ra ≤ na ∧ na ≤ rl) ∧ iB nx ∧ w = [(rd, .inr (1, [.ref ro, .int (iI ne), .int (iI nx), .ref src, .int (iI rs), .int (iI rl), .int (iI na), .int (iI rc)])), (src, aE cA N F)])) 0 0 [(rd, .inr (1, [.ref ro, .int (iI xe), .int (iI xx), .ref src, .int (iI rs), .int (iI rl), .int (iI a), .int (iI rc)])), (src, aE cA N F)] [(0, .ref rd), (1, .int (iI h)), (2, .int (iI nu)), (3, .int (iI mo)), (4, .int (iI k))] 17 [] := by
      intro fu17
      induction fu17 with
      | zero => intro nu mo k a xx xe hbb hxx hI hmu17; exfalso; omega
      | succ fu17 ih17 =>
        intro nu mo k a xx xe hbb hxx hI hmu17
        refine g_iload E dX1_readNumber_17 4 rfl ?_
        refine g_aload_n E dX1_readNumber_19 rfl 0 rfl ?_
        refine g_getfield E dX1_readNumber_20 0 5 rfl rfl (by decide) iX1 wd_69 rfl rfl ?_
        refine g_icmp_gt (tgt := 61) E dX1_readNumber_23 (by decide) ⟨(by omega), (by omega)⟩ ⟨(by omega), (by omega)⟩ (fun c_23 => ?_) (fun c_23 => ?_)
        · skip
          refine g_iload_n E dX1_readNumber_61 rfl 2 rfl ?_
          refine g_ireturn E dX1_readNumber_62 ?_
          exact ⟨xe, xx, a, hI.elim (fun q => absurd q.1 (by omega)) (fun q => q.2), by omega, hxx, rfl⟩
        · skip
          refine g_iload_n E dX1_readNumber_26 rfl 3 rfl ?_
          refine g_if_eq (tgt := 61) E dX1_readNumber_27 (by decide) ⟨(by omega), (by omega)⟩ (fun c_27 => ?_) (fun c_27 => ?_)
          · skip
            refine g_iload_n E dX1_readNumber_61 rfl 2 rfl ?_
            refine g_ireturn E dX1_readNumber_62 ?_
            exact ⟨xe, xx, a, hI.elim (fun q => absurd q.1 (by omega)) (fun q => q.2), by omega, hxx, rfl⟩
          · skip
            refine g_aload_n E dX1_readNumber_30 rfl 0 rfl ?_
            refine g_callV (n := 0) (As := []) (rest := []) (wr := []) E dX1_readNumber_31 (c_X1_next l D cA rd ro src xe xx rs rl a rc N F (by omega) (by omega) (by omega) (by omega)) wd_code_X1_next wd_78 wd_79 wd_80 wd_81 (by decide +kernel) ⟨⟨rfl, rfl⟩, ⟨(Nat.le_of_ble_eq_true rfl), (Nat.le_of_ble_eq_true rfl)⟩, ⟨(Nat.le_of_ble_eq_true rfl), (Nat.le_of_ble_eq_true rfl)⟩⟩ [0, 1] [] rfl rfl (by decide) 0 rfl rfl rfl rfl (Nat.le_of_ble_eq_true rfl) (fun z_31 w_31 hw_31 => ?_)
            obtain ⟨fe_31, fx_31, fa_31, hf_31, rfl⟩ := hw_31
            refine GG.wss (ws' := [(rd, .inr (1, [.ref ro, .int (iI fe_31), .int (iI fx_31), .ref src, .int (iI rs), .int (iI rl), .int (iI fa_31), .int (iI rc)])), (src, aE cA N F)]) [0, 1] (by decide) rfl ?_
            have hsb : a < rl → 0 ≤ F (rs + a) ∧ F (rs + a) < 256 := fun q => hS a (by omega) q
            have hz31 : 0 ≤ z_31 ∧ z_31 < 256 := hf_31.elim (fun q => by have := hsb q.1; omega) (fun q => by omega)
            have hI1 : h = 15 ∧ k = a - ra ∧ xx = rx ∧ xe = re ∧ ad (sh F rs) rl ra 0 = ad (sh F rs) rl a (nu - 15) := hI.elim (fun q => q.2) (fun q => absurd q.1 (by omega))
            refine g_istore (lv' := [(5, .int (iI z_31)), (0, .ref rd), (1, .int (iI h)), (2, .int (iI nu)), (3, .int (iI mo)), (4, .int (iI k))]) E dX1_readNumber_34 (by decide) rfl ?_
            have L54 : ∀ (mo2 : Int), (mo2 = 1 ∧ z_31 = 255) ∨ (mo2 = 0 ∧ z_31 ≠ 255) → GG p l e ({ frames := 2, cells := 0, slots := 0, locals := 42 }) s m args below meth c D vwCl A 6 (QI D vwCl cA A below args s 0 0 (fun (r : Int) (w : va_W) => ∃ (ne : Int) (nx : Int) (na : Int), ((numb (sh F rs) rl h ra = some (r, na) ∧ nx = rx ∧ ne = re) ∨ (numb (sh F rs) rl h ra = none ∧ ((rx = 0 ∧ nx = 1 ∧ ne = rl) ∨ (rx ≠ 0 ∧ nx = rx ∧ ne = re)))) ∧ (0 ≤ r ∧ r ≤ 2000000 ∧ ra ≤ na ∧ na ≤ rl) ∧ iB nx ∧ w = [(rd, .inr (1, [.ref ro, .int (iI ne), .int (iI nx), .ref src, .int (iI rs), .int (iI rl), .int (iI na), .int (iI rc)])), (src, aE cA N F)])) 0 0 [(rd, .inr (1, [.ref ro, .int (iI fe_31), .int (iI fx_31), .ref src, .int (iI rs), .int (iI rl), .int (iI fa_31), .int (iI rc)])), (src, aE cA N F)] [(0, .ref rd), (1, .int (iI h)), (2, .int (iI (nu + z_31))), (4, .int (iI k))] 54 [.int (iI mo2)] := by
              intro mo2 hm2
              have hnx : (mo2 = 1 ∧ h = 15 ∧ k + 1 = fa_31 - ra ∧ fx_31 = rx ∧ fe_31 = re ∧ ad (sh F rs) rl ra 0 = ad (sh F rs) rl fa_31 (nu + z_31 - 15)) ∨ (mo2 = 0 ∧ ((numb (sh F rs) rl h ra = some (nu + z_31, fa_31) ∧ fx_31 = rx ∧ fe_31 = re) ∨ (numb (sh F rs) rl h ra = none ∧ ((rx = 0 ∧ fx_31 = 1 ∧ fe_31 = rl) ∨ (rx ≠ 0 ∧ fx_31 = rx ∧ fe_31 = re))))) := by
                obtain ⟨e15, ek, ex1, ex2, ead⟩ := hI1
                have en : numb (sh F rs) rl h ra = (ad (sh F rs) rl a (nu - 15)).map (fun p => (15 + p.1, p.2)) := by rw [numb, if_pos e15, ead]
                rcases hf_31 with ⟨q1, q2, q3, q4, q5⟩ | ⟨q1, q2, q3, q4⟩
                · rcases hm2 with ⟨w1, w2⟩ | ⟨w1, w2⟩
                  · refine Or.inl ⟨w1, e15, by omega, by omega, by omega, ?_⟩
                    rw [ead, ad_more q1 (by show F (rs + a) = 255; omega), q3, show nu - 15 + 255 = nu + z_31 - 15 by omega]
                  · refine Or.inr ⟨w1, Or.inl ⟨?_, by omega, by omega⟩⟩
                    rw [en, ad_end q1 (by show F (rs + a) ≠ 255; omega), q3]
                    show some (15 + (nu - 15 + F (rs + a)), a + 1) = _
                    rw [show 15 + (nu - 15 + F (rs + a)) = nu + z_31 by omega]
                · refine Or.inr ⟨by omega, Or.inr ⟨by rw [en, ad_lack q1]; rfl, by omega⟩⟩
              refine g_istore_n (lv' := [(3, .int (iI mo2)), (0, .ref rd), (1, .int (iI h)), (2, .int (iI (nu + z_31))), (4, .int (iI k))]) E dX1_readNumber_54 rfl (by decide) rfl ?_
              refine g_iinc (lv' := [(4, .int (iI (k + 1))), (3, .int (iI mo2)), (0, .ref rd), (1, .int (iI h)), (2, .int (iI (nu + z_31)))]) E dX1_readNumber_55 4 rfl (by decide) rfl ?_
              refine g_goto (tgt := 17) E dX1_readNumber_58 (by decide) ?_
              refine GG.lvs (lv' := [(0, .ref rd), (1, .int (iI h)), (2, .int (iI (nu + z_31))), (3, .int (iI mo2)), (4, .int (iI (k + 1)))]) [2, 3, 4, 1, 0] rfl ?_
              exact ih17 (nu + z_31) mo2 (k + 1) fa_31 fx_31 fe_31 (by omega) (by omega) (by exact hnx) (by omega)
            refine g_iload_n E dX1_readNumber_36 rfl 3 rfl ?_
            refine g_iload E dX1_readNumber_37 0 rfl ?_
            refine g_iadd E dX1_readNumber_39 ?_
            refine g_istore_n (lv' := [(2, .int (iI (nu + z_31))), (5, .int (iI z_31)), (0, .ref rd), (1, .int (iI h)), (3, .int (iI mo)), (4, .int (iI k))]) E dX1_readNumber_40 rfl (by decide) rfl ?_
            refine g_iload E dX1_readNumber_41 1 rfl ?_
            refine g_sipush E dX1_readNumber_43 (by decide) ?_
            refine g_icmp_ne (tgt := 53) E dX1_readNumber_46 (by decide) ⟨(by omega), (by omega)⟩ ⟨(by omega), (by omega)⟩ (fun c_46 => ?_) (fun c_46 => ?_)
            · skip
              refine g_iconst E dX1_readNumber_53 ?_
              refine GG.lvs (lv' := [(0, .ref rd), (1, .int (iI h)), (2, .int (iI (nu + z_31))), (4, .int (iI k))]) [2, 3, 0, 5] rfl ?_
              exact L54 0 (by omega)
            · skip
              refine g_iconst E dX1_readNumber_49 ?_
              refine g_goto (tgt := 54) E dX1_readNumber_50 (by decide) ?_
              refine GG.lvs (lv' := [(0, .ref rd), (1, .int (iI h)), (2, .int (iI (nu + z_31))), (4, .int (iI k))]) [2, 3, 0, 5] rfl ?_
              exact L54 1 (by omega)
    refine GG.lvs (lv' := [(0, .ref rd), (1, .int (iI h)), (2, .int (iI h)), (3, .int (iI mo)), (4, .int (iI 0))]) [2, 3, 4, 1, 0] rfl ?_
    exact L17 ((2 * (rl - ra) + mo : Int).toNat + 1) h mo 0 ra rx re (by omega) (by omega) (by exact hmo.elim (fun q => Or.inl ⟨q.1, q.2, by omega, rfl, rfl, by rw [show h - 15 = 0 by omega]⟩) (fun q => Or.inr ⟨q.1, Or.inl ⟨by rw [numb, if_neg q.2], rfl, rfl⟩⟩)) (by omega)
  refine g_iload_n E dX1_readNumber_0 rfl 1 rfl ?_
  refine g_istore_n (lv' := [(2, .int (iI h)), (0, .ref rd), (1, .int (iI h))]) E dX1_readNumber_1 rfl (by decide) rfl ?_
  refine g_iload_n E dX1_readNumber_2 rfl 2 rfl ?_
  refine g_bipush E dX1_readNumber_3 (by decide) ?_
  refine g_icmp_ne (tgt := 12) E dX1_readNumber_5 (by decide) ⟨(by omega), (by omega)⟩ ⟨(by omega), (by omega)⟩ (fun c_5 => ?_) (fun c_5 => ?_)
  · skip
    refine g_iconst E dX1_readNumber_12 ?_
    refine GG.lvs (lv' := [(0, .ref rd), (1, .int (iI h)), (2, .int (iI h))]) [1, 2, 0] rfl ?_
    exact L13 0 (by omega)
  · skip
    refine g_iconst E dX1_readNumber_8 ?_
    refine g_goto (tgt := 13) E dX1_readNumber_9 (by decide) ?_
    refine GG.lvs (lv' := [(0, .ref rd), (1, .int (iI h)), (2, .int (iI h))]) [1, 2, 0] rfl ?_
    exact L13 1 (by omega)
