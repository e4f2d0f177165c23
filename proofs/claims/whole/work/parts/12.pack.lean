theorem wd_18 : Cond.fieldLink RX0 23 "PackedSlots$Packer" "bestLength" "I" ∈ UW := uw (by decide +kernel) rfl
theorem wd_19 : Cond.methodLink RX0 37 yX0_sameLength ∈ UW := uw (by decide +kernel) rfl
theorem wd_20 : Cond.static yX0_sameLength ∈ UW := uw (by decide +kernel) rfl
theorem wd_21 : Cond.initialized yX0_sameLength.cls ∈ UW := uw (by decide +kernel) rfl
theorem wd_22 : Cond.fieldLink RX0 30 "PackedSlots$Packer" "bestPlace" "I" ∈ UW := uw (by decide +kernel) rfl
theorem wd_23 : Cond.fieldLink RX0 15 "PackedSlots$Packer" "count" "I" ∈ UW := uw (by decide +kernel) rfl
theorem wd_24 : Cond.fieldLink RX0 11 "PackedSlots$Packer" "out" "[I" ∈ UW := uw (by decide +kernel) rfl
theorem wd_25 : Cond.methodLink RX0 47 yX0_put ∈ UW := uw (by decide +kernel) rfl
theorem wd_26 : Cond.instanceMethod yX0_put ∈ UW := uw (by decide +kernel) rfl
theorem wd_27 : Cond.selects RX0 yX0_put yX0_put ∈ UW := uw (by decide +kernel) rfl
theorem wd_28 : Cond.initialized yX0_put.cls ∈ UW := uw (by decide +kernel) rfl
theorem wd_29 : Cond.methodLink RX0 51 yX0_putRest ∈ UW := uw (by decide +kernel) rfl
theorem wd_30 : Cond.instanceMethod yX0_putRest ∈ UW := uw (by decide +kernel) rfl
theorem wd_31 : Cond.selects RX0 yX0_putRest yX0_putRest ∈ UW := uw (by decide +kernel) rfl
theorem wd_32 : Cond.initialized yX0_putRest.cls ∈ UW := uw (by decide +kernel) rfl
theorem wd_33 : Cond.methodLink RX0 41 Lib.Math.min.name ∈ UW := uw (by decide +kernel) rfl
theorem wd_34 : Cond.static Lib.Math.min.name ∈ UW := uw (by decide +kernel) rfl
theorem wd_35 : Cond.initialized "java/lang/Math" ∈ UW := uw (by decide +kernel) rfl
theorem wd_36 : Cond.methodLink RX0 26 yX0_putSequence ∈ UW := uw (by decide +kernel) rfl
theorem wd_37 : Cond.instanceMethod yX0_putSequence ∈ UW := uw (by decide +kernel) rfl
theorem wd_38 : Cond.selects RX0 yX0_putSequence yX0_putSequence ∈ UW := uw (by decide +kernel) rfl
theorem wd_39 : Cond.initialized yX0_putSequence.cls ∈ UW := uw (by decide +kernel) rfl
theorem wd_40 : Cond.methodLink RX0 19 yX0_findMatch ∈ UW := uw (by decide +kernel) rfl
theorem wd_41 : Cond.instanceMethod yX0_findMatch ∈ UW := uw (by decide +kernel) rfl
theorem wd_42 : Cond.selects RX0 yX0_findMatch yX0_findMatch ∈ UW := uw (by decide +kernel) rfl
theorem wd_43 : Cond.initialized yX0_findMatch.cls ∈ UW := uw (by decide +kernel) rfl
theorem wd_44 : Cond.methodLink RX0 33 yX0_putMatch ∈ UW := uw (by decide +kernel) rfl
theorem wd_45 : Cond.instanceMethod yX0_putMatch ∈ UW := uw (by decide +kernel) rfl
theorem wd_46 : Cond.selects RX0 yX0_putMatch yX0_putMatch ∈ UW := uw (by decide +kernel) rfl
theorem wd_47 : Cond.initialized yX0_putMatch.cls ∈ UW := uw (by decide +kernel) rfl
def byR (n : Int) (g : Int → Int) : Prop := ∀ k : Int, 0 ≤ k → k < n → 0 ≤ g k ∧ g k < 256
def ml (B : Int → Int) : Nat → Int → Int → Int
  | 0, _, _ => 0
  | n + 1, j, i => if B j = B i then 1 + ml B n (j + 1) (i + 1) else 0
theorem ml_z {B : Int → Int} {z j i : Int} (h : z ≤ 0) : ml B z.toNat j i = 0 := by
  rw [show z.toNat = 0 by omega]; rfl
theorem ml_ne {B : Int → Int} {n : Nat} {j i : Int} (h : B j ≠ B i) : ml B n j i = 0 := by
  cases n with
  | zero => rfl
  | succ n => show (if B j = B i then _ else _) = _; rw [if_neg h]
theorem ml_eq {B : Int → Int} {z j i : Int} (hz : 0 < z) (h : B j = B i) : ml B z.toNat j i = 1 + ml B (z - 1).toNat (j + 1) (i + 1) := by
  rw [show z.toNat = (z - 1).toNat + 1 by omega]
  show (if B j = B i then _ else _) = _
  rw [if_pos h]
theorem ml_b (B : Int → Int) : ∀ (n : Nat) (j i : Int), 0 ≤ ml B n j i ∧ ml B n j i ≤ (n : Int) := by
  intro n
  induction n with
  | zero => intro j i; show 0 ≤ (0 : Int) ∧ (0 : Int) ≤ _; omega
  | succ n ih =>
    intro j i
    show 0 ≤ (if B j = B i then _ else _) ∧ (if B j = B i then _ else _) ≤ _
    have := ih (j + 1) (i + 1)
    split <;> omega
def mlen (B : Int → Int) (j i : Int) : Int := ml B (251 - i).toNat j i
theorem mlen_b {B : Int → Int} {j i : Int} (h : i ≤ 251) : 0 ≤ mlen B j i ∧ i + mlen B j i ≤ 251 := by
  have := ml_b B (251 - i).toNat j i
  unfold mlen; omega
def bsu (B : Int → Int) (i : Int) : Nat → Int × Int
  | 0 => (0, 0)
  | k + 1 => if (bsu B i k).1 ≤ mlen B (k : Int) i then (mlen B (k : Int) i, (k : Int)) else bsu B i k
def bestOn (B : Int → Int) (i lo hi bl bp : Int) : Prop := 0 ≤ bl ∧ (∀ j, lo ≤ j → j < hi → mlen B j i ≤ bl) ∧ (0 < bl → lo ≤ bp ∧ bp < hi ∧ mlen B bp i = bl ∧ ∀ j, bp < j → j < hi → mlen B j i < bl)
theorem bestOn_0 {B : Int → Int} {i a bp : Int} : bestOn B i a a 0 bp := ⟨Int.le_refl 0, fun j h1 h2 => by omega, fun h => by omega⟩
theorem bestOn_new {B : Int → Int} {i f hi bl bp : Int} (hf : f < hi) (h : bestOn B i (f + 1) hi bl bp) (hl : bl < mlen B f i) : bestOn B i f hi (mlen B f i) f := by
  obtain ⟨h1, h2, h3⟩ := h
  refine ⟨by omega, fun j a b => ?_, fun _ => ⟨Int.le_refl f, hf, rfl, fun j a b => ?_⟩⟩
  · by_cases q : j = f
    · subst q; exact Int.le_refl _
    · have := h2 j (by omega) b; omega
  · have := h2 j (by omega) b; omega
theorem bestOn_old {B : Int → Int} {i f hi bl bp : Int} (h : bestOn B i (f + 1) hi bl bp) (hl : mlen B f i ≤ bl) : bestOn B i f hi bl bp := by
  obtain ⟨h1, h2, h3⟩ := h
  refine ⟨h1, fun j a b => ?_, fun h0 => ?_⟩
  · by_cases q : j = f
    · subst q; exact hl
    · exact h2 j (by omega) b
  · obtain ⟨a, b, c, d⟩ := h3 h0
    exact ⟨by omega, b, c, d⟩
theorem bestOn_uniq {B : Int → Int} {i lo hi b1 p1 b2 p2 : Int} (h : bestOn B i lo hi b1 p1) (g : bestOn B i lo hi b2 p2) : b1 = b2 ∧ (0 < b1 → p1 = p2) := by
  obtain ⟨h1, h2, h3⟩ := h
  obtain ⟨g1, g2, g3⟩ := g
  have e : b1 = b2 := by
    by_cases q1 : 0 < b1
    · obtain ⟨a, b, c, _⟩ := h3 q1
      have := g2 p1 a b
      by_cases q2 : 0 < b2
      · obtain ⟨a', b', c', _⟩ := g3 q2
        have := h2 p2 a' b'
        omega
      · omega
    · by_cases q2 : 0 < b2
      · obtain ⟨a', b', c', _⟩ := g3 q2
        have := h2 p2 a' b'
        omega
      · omega
  refine ⟨e, fun q => ?_⟩
  obtain ⟨a, b, c, d⟩ := h3 q
  obtain ⟨a', b', c', d'⟩ := g3 (by omega)
  rcases Int.lt_trichotomy p1 p2 with w | w | w
  · have := d p2 w b'; omega
  · exact w
  · have := d' p1 w b; omega
theorem bsu_best (B : Int → Int) (i : Int) (hi : i ≤ 251) : ∀ k : Nat, bestOn B i 0 (k : Int) (bsu B i k).1 (bsu B i k).2 := by
  intro k
  induction k with
  | zero => exact bestOn_0
  | succ k ih =>
    obtain ⟨h1, h2, h3⟩ := ih
    have hb := mlen_b (B := B) (j := (k : Int)) hi
    by_cases q : (bsu B i k).1 ≤ mlen B (k : Int) i
    · have e : bsu B i (k + 1) = (mlen B (k : Int) i, (k : Int)) := by show (if _ then _ else _) = _; rw [if_pos q]
      rw [e]
      refine ⟨hb.1, fun j a b => ?_, fun _ => ⟨by omega, by omega, rfl, fun j a b => by omega⟩⟩
      by_cases w : j = (k : Int)
      · subst w; exact Int.le_refl _
      · have := h2 j a (by omega); show _ ≤ mlen B (k : Int) i; omega
    · have e : bsu B i (k + 1) = bsu B i k := by show (if _ then _ else _) = _; rw [if_neg q]
      rw [e]
      refine ⟨h1, fun j a b => ?_, fun w => ?_⟩
      · by_cases w : j = (k : Int)
        · subst w; omega
        · exact h2 j a (by omega)
      · obtain ⟨a, b, c, d⟩ := h3 w
        refine ⟨a, by omega, c, fun j a' b' => ?_⟩
        by_cases w : j = (k : Int)
        · subst w; omega
        · exact d j a' (by omega)
theorem bsu_b (B : Int → Int) {i : Int} (h0 : 0 ≤ i) (hi : i ≤ 251) : 0 ≤ (bsu B i i.toNat).1 ∧ i + (bsu B i i.toNat).1 ≤ 251 ∧ (0 < (bsu B i i.toNat).1 → 0 ≤ (bsu B i i.toNat).2 ∧ (bsu B i i.toNat).2 < i) := by
  have h := bsu_best B i hi i.toNat
  obtain ⟨h1, h2, h3⟩ := h
  refine ⟨h1, ?_, fun q => ?_⟩
  · by_cases q : 0 < (bsu B i i.toNat).1
    · obtain ⟨a, b, c, _⟩ := h3 q
      have := mlen_b (B := B) (j := (bsu B i i.toNat).2) hi
      omega
    · omega
  · obtain ⟨a, b, c, _⟩ := h3 q
    omega
def pt (W : (Int → Int) × Int) (b : Int) : (Int → Int) × Int := (up W.1 W.2 b, W.2 + 1)
def prs (W : (Int → Int) × Int) (n : Int) : (Int → Int) × Int := if 15 ≤ n then pt W (n - 15) else W
def lts (B : Int → Int) (W : (Int → Int) × Int) (f : Int) : Nat → (Int → Int) × Int
  | 0 => W
  | k + 1 => pt (lts B W f k) (B (f + (k : Int)))
def sq (B : Int → Int) (W : (Int → Int) × Int) (f t mr : Int) : (Int → Int) × Int := lts B (prs (pt W (min (t - f) 15 * 16 + min mr 15)) (t - f)) f (t - f).toNat
def mtc (W : (Int → Int) × Int) (o mr : Int) : (Int → Int) × Int := prs (pt (pt W (o % 256)) (o / 256)) mr
def packF (B : Int → Int) : Nat → (Int → Int) × Int → Int → Int → (Int → Int) × Int
  | 0, W, _, _ => W
  | n + 1, W, lf, i => if 244 < i then sq B W lf 256 0 else if (bsu B i i.toNat).1 < 4 then packF B n W lf (i + 1) else packF B n (mtc (sq B W lf i ((bsu B i i.toNat).1 - 4)) (i - (bsu B i i.toNat).2) ((bsu B i i.toNat).1 - 4)) (i + (bsu B i i.toNat).1) (i + (bsu B i i.toNat).1)
theorem packF_end {B : Int → Int} {n : Nat} {W : (Int → Int) × Int} {lf i : Int} (h : 244 < i) : packF B (n + 1) W lf i = sq B W lf 256 0 := by
  show (if _ then _ else _) = _; rw [if_pos h]
theorem packF_lit {B : Int → Int} {n : Nat} {W : (Int → Int) × Int} {lf i : Int} (h : i ≤ 244) (hb : (bsu B i i.toNat).1 < 4) : packF B (n + 1) W lf i = packF B n W lf (i + 1) := by
  show (if _ then _ else _) = _; rw [if_neg (by omega), if_pos hb]
theorem packF_mat {B : Int → Int} {n : Nat} {W : (Int → Int) × Int} {lf i bl bp : Int} (h : i ≤ 244) (e1 : bl = (bsu B i i.toNat).1) (e2 : bp = (bsu B i i.toNat).2) (hb : 4 ≤ bl) : packF B (n + 1) W lf i = packF B n (mtc (sq B W lf i (bl - 4)) (i - bp) (bl - 4)) (i + bl) (i + bl) := by
  subst e1; subst e2
  show (if _ then _ else _) = _; rw [if_neg (by omega), if_neg (by omega)]
set_option maxHeartbeats 4000000 in
set_option maxRecDepth 100000 in
theorem c_X0_sameLength (l : Launch) (D : va_G) (cA : ClassId) (q : Nat) (B : Int → Int) (j : Int) (i : Int) (hj : 0 ≤ j ∧ j < i ∧ i ≤ 251) (hB : byR 256 B) : Ci l D vwCl cA yX0_sameLength (.code yX0_sameLength cX0_sameLength 4 (some .int) :: UW) ({ frames := 0, cells := 0, slots := 0, locals := 0 }) 0 0 [.ref q, .int (iI j), .int (iI i)] [(q, aE cA 256 B)] (fun (r : Int) (w : va_W) => r = mlen B j i ∧ w = [(q, aE cA 256 B)]) := by
  refine Ci.mk (by decide) (Nat.le_of_ble_eq_true rfl) ?_
  intro p e s m args below meth c A E
  refine GG.lvs (lv' := [(0, .ref q), (1, .int (iI j)), (2, .int (iI i))]) [0, 1, 2] rfl ?_
  refine g_iconst E dX0_sameLength_0 ?_
  refine g_istore_n (lv' := [(3, .int (iI 0)), (0, .ref q), (1, .int (iI j)), (2, .int (iI i))]) E dX0_sameLength_1 rfl (by decide) rfl ?_
  have L2 : ∀ (fu2 : Nat) (k : Int), 0 ≤ k ∧ i + k ≤ 251 → mlen B j i = k + ml B (251 - i - k).toNat (j + k) (i + k) → (251 - i - k) < (fu2 : Int) → GG p l e ({ frames := 0, cells := 0, slots := 0, locals := 0 }) s m args below meth c D vwCl A 4 (QI D vwCl cA A below args s 0 0 (fun (r : Int) (w : va_W) => r = mlen B j i ∧ w = [(q, aE cA 256 B)])) 0 0 [(q, aE cA 256 B)] [(0, .ref q), (1, .int (iI j)), (2, .int (iI i)), (3, .int (iI k))] 2 [] := by
    intro fu2
    induction fu2 with
    | zero => intro k hk hm hmu2; exfalso; omega
    | succ fu2 ih2 =>
      intro k hk hm hmu2
      refine g_iload_n E dX0_sameLength_2 rfl 2 rfl ?_
      refine g_iload_n E dX0_sameLength_3 rfl 3 rfl ?_
      refine g_iadd E dX0_sameLength_4 ?_
      refine g_sipush E dX0_sameLength_5 (by decide) ?_
      refine g_icmp_ge (tgt := 30) E dX0_sameLength_8 (by decide) ⟨(by omega), (by omega)⟩ ⟨(by omega), (by omega)⟩ (fun c_8 => ?_) (fun c_8 => ?_)
      · skip
        refine g_iload_n E dX0_sameLength_30 rfl 3 rfl ?_
        refine g_ireturn E dX0_sameLength_31 ?_
        exact ⟨by rw [hm]; first | (rw [ml_z (by omega)]; omega) | (rw [ml_ne c_21]; omega), rfl⟩
      · skip
        refine g_aload_n E dX0_sameLength_11 rfl 0 rfl ?_
        refine g_iload_n E dX0_sameLength_12 rfl 1 rfl ?_
        refine g_iload_n E dX0_sameLength_13 rfl 3 rfl ?_
        refine g_iadd E dX0_sameLength_14 ?_
        refine g_iaload E dX0_sameLength_15 0 rfl (by omega) (by omega) (by omega) ?_
        have hb1 := hB (j + k) (by omega) (by omega)
        refine g_aload_n E dX0_sameLength_16 rfl 0 rfl ?_
        refine g_iload_n E dX0_sameLength_17 rfl 2 rfl ?_
        refine g_iload_n E dX0_sameLength_18 rfl 3 rfl ?_
        refine g_iadd E dX0_sameLength_19 ?_
        refine g_iaload E dX0_sameLength_20 0 rfl (by omega) (by omega) (by omega) ?_
        have hb2 := hB (i + k) (by omega) (by omega)
        refine g_icmp_ne (tgt := 30) E dX0_sameLength_21 (by decide) ⟨(by omega), (by omega)⟩ ⟨(by omega), (by omega)⟩ (fun c_21 => ?_) (fun c_21 => ?_)
        · skip
          refine g_iload_n E dX0_sameLength_30 rfl 3 rfl ?_
          refine g_ireturn E dX0_sameLength_31 ?_
          exact ⟨by rw [hm]; first | (rw [ml_z (by omega)]; omega) | (rw [ml_ne c_21]; omega), rfl⟩
        · skip
          refine g_iinc (lv' := [(3, .int (iI (k + 1))), (0, .ref q), (1, .int (iI j)), (2, .int (iI i))]) E dX0_sameLength_24 3 rfl (by decide) rfl ?_
          refine g_goto (tgt := 2) E dX0_sameLength_27 (by decide) ?_
          refine GG.lvs (lv' := [(0, .ref q), (1, .int (iI j)), (2, .int (iI i)), (3, .int (iI (k + 1)))]) [1, 2, 3, 0] rfl ?_
          exact ih2 (k + 1) (by omega) (by rw [hm, ml_eq (by omega) c_21, show 251 - i - (k + 1) = 251 - i - k - 1 by omega, show j + (k + 1) = j + k + 1 by omega, show i + (k + 1) = i + k + 1 by omega]; omega) (by omega)
  refine GG.lvs (lv' := [(0, .ref q), (1, .int (iI j)), (2, .int (iI i)), (3, .int (iI 0))]) [1, 2, 3, 0] rfl ?_
  exact L2 ((251 - i - 0 : Int).toNat + 1) 0 (by omega) (by unfold mlen; rw [show 251 - i - 0 = 251 - i by omega, show j + 0 = j by omega, show i + 0 = i by omega]; omega) (by omega)
set_option maxHeartbeats 4000000 in
set_option maxRecDepth 100000 in
theorem c_X4_alike (l : Launch) (D : va_G) (cA : ClassId) (y : Nat) (mb : Nat) (ms : Nat) (mm : Nat) (mf : Nat) (mz : Nat) (mt : Nat) (mp : Nat) (mq : Nat) (mo : Nat) (ca : Int) (my : Int) (me : Int) (mn : Int) (mi : Int) (ma : Int) (mu : Int) (mw : Int) (B : Int → Int) (j : Int) (i : Int) (hj : 0 ≤ j ∧ j < i ∧ i ≤ 251) (hB : byR 256 B) : Ci l D vwCl cA yX4_alike (.code yX4_alike cX4_alike 4 (some .int) :: UW) ({ frames := 0, cells := 0, slots := 0, locals := 0 }) 0 0 [.ref y, .int (iI j), .int (iI i)] [(y, .inr (4, [.int (iI ca), .ref mb, .ref ms, .ref mm, .ref mf, .ref mz, .int (iI my), .ref mt, .int (iI me), .int (iI mn), .ref mp, .int (iI mi), .ref mq, .int (iI ma), .int (iI mu), .ref mo, .int (iI mw)])), (mb, aE cA 256 B)] (fun (r : Int) (w : va_W) => r = mlen B j i ∧ w = [(y, .inr (4, [.int (iI ca), .ref mb, .ref ms, .ref mm, .ref mf, .ref mz, .int (iI my), .ref mt, .int (iI me), .int (iI mn), .ref mp, .int (iI mi), .ref mq, .int (iI ma), .int (iI mu), .ref mo, .int (iI mw)])), (mb, aE cA 256 B)]) := by
  refine Ci.mk (by decide) (Nat.le_of_ble_eq_true rfl) ?_
  intro p e s m args below meth c A E
  refine GG.lvs (lv' := [(0, .ref y), (1, .int (iI j)), (2, .int (iI i))]) [0, 1, 2] rfl ?_
  refine g_iconst E dX4_alike_0 ?_
  refine g_istore_n (lv' := [(3, .int (iI 0)), (0, .ref y), (1, .int (iI j)), (2, .int (iI i))]) E dX4_alike_1 rfl (by decide) rfl ?_
  have L2 : ∀ (fu2 : Nat) (k : Int), 0 ≤ k ∧ i + k ≤ 251 → mlen B j i = k + ml B (251 - i - k).toNat (j + k) (i + k) → (251 - i - k) < (fu2 : Int) → GG p l e ({ frames := 0, cells := 0, slots := 0, locals := 0 }) s m args below meth c D vwCl A 4 (QI D vwCl cA A below args s 0 0 (fun (r : Int) (w : va_W) => r = mlen B j i ∧ w = [(y, .inr (4, [.int (iI ca), .ref mb, .ref ms, .ref mm, .ref mf, .ref mz, .int (iI my), .ref mt, .int (iI me), .int (iI mn), .ref mp, .int (iI mi), .ref mq, .int (iI ma), .int (iI mu), .ref mo, .int (iI mw)])), (mb, aE cA 256 B)])) 0 0 [(y, .inr (4, [.int (iI ca), .ref mb, .ref ms, .ref mm, .ref mf, .ref mz, .int (iI my), .ref mt, .int (iI me), .int (iI mn), .ref mp, .int (iI mi), .ref mq, .int (iI ma), .int (iI mu), .ref mo, .int (iI mw)])), (mb, aE cA 256 B)] [(0, .ref y), (1, .int (iI j)), (2, .int (iI i)), (3, .int (iI k))] 2 [] := by
    intro fu2
    induction fu2 with
    | zero => intro k hk hm hmu2; exfalso; omega
    | succ fu2 ih2 =>
      intro k hk hm hmu2
      refine g_iload_n E dX4_alike_2 rfl 2 rfl ?_
      refine g_iload_n E dX4_alike_3 rfl 3 rfl ?_
      refine g_iadd E dX4_alike_4 ?_
      refine g_sipush E dX4_alike_5 (by decide) ?_
      refine g_icmp_ge (tgt := 36) E dX4_alike_8 (by decide) ⟨(by omega), (by omega)⟩ ⟨(by omega), (by omega)⟩ (fun c_8 => ?_) (fun c_8 => ?_)
      · skip
        refine g_iload_n E dX4_alike_36 rfl 3 rfl ?_
        refine g_ireturn E dX4_alike_37 ?_
        exact ⟨by rw [hm]; first | (rw [ml_z (by omega)]; omega) | (rw [ml_ne c_27]; omega), rfl⟩
      · skip
        refine g_aload_n E dX4_alike_11 rfl 0 rfl ?_
        refine g_getfield E dX4_alike_12 0 1 rfl rfl (by decide) iX4 wd_6 rfl rfl ?_
        refine g_iload_n E dX4_alike_15 rfl 1 rfl ?_
        refine g_iload_n E dX4_alike_16 rfl 3 rfl ?_
        refine g_iadd E dX4_alike_17 ?_
        refine g_iaload E dX4_alike_18 1 rfl (by omega) (by omega) (by omega) ?_
        have hb1 := hB (j + k) (by omega) (by omega)
        refine g_aload_n E dX4_alike_19 rfl 0 rfl ?_
        refine g_getfield E dX4_alike_20 0 1 rfl rfl (by decide) iX4 wd_6 rfl rfl ?_
        refine g_iload_n E dX4_alike_23 rfl 2 rfl ?_
        refine g_iload_n E dX4_alike_24 rfl 3 rfl ?_
        refine g_iadd E dX4_alike_25 ?_
        refine g_iaload E dX4_alike_26 1 rfl (by omega) (by omega) (by omega) ?_
        have hb2 := hB (i + k) (by omega) (by omega)
        refine g_icmp_ne (tgt := 36) E dX4_alike_27 (by decide) ⟨(by omega), (by omega)⟩ ⟨(by omega), (by omega)⟩ (fun c_27 => ?_) (fun c_27 => ?_)
        · skip
          refine g_iload_n E dX4_alike_36 rfl 3 rfl ?_
          refine g_ireturn E dX4_alike_37 ?_
          exact ⟨by rw [hm]; first | (rw [ml_z (by omega)]; omega) | (rw [ml_ne c_27]; omega), rfl⟩
        · skip
          refine g_iinc (lv' := [(3, .int (iI (k + 1))), (0, .ref y), (1, .int (iI j)), (2, .int (iI i))]) E dX4_alike_30 3 rfl (by decide) rfl ?_
          refine g_goto (tgt := 2) E dX4_alike_33 (by decide) ?_
          refine GG.lvs (lv' := [(0, .ref y), (1, .int (iI j)), (2, .int (iI i)), (3, .int (iI (k + 1)))]) [1, 2, 3, 0] rfl ?_
          exact ih2 (k + 1) (by omega) (by rw [hm, ml_eq (by omega) c_27, show 251 - i - (k + 1) = 251 - i - k - 1 by omega, show j + (k + 1) = j + k + 1 by omega, show i + (k + 1) = i + k + 1 by omega]; omega) (by omega)
  refine GG.lvs (lv' := [(0, .ref y), (1, .int (iI j)), (2, .int (iI i)), (3, .int (iI 0))]) [1, 2, 3, 0] rfl ?_
  exact L2 ((251 - i - 0 : Int).toNat + 1) 0 (by omega) (by unfold mlen; rw [show 251 - i - 0 = 251 - i by omega, show j + 0 = j by omega, show i + 0 = i by omega]; omega) (by omega)
set_option maxHeartbeats 4000000 in
set_option maxRecDepth 100000 in
theorem c_X0_findMatch (l : Launch) (D : va_G) (cA : ClassId) (pk : Nat) (po : Nat) (pn : Int) (pb : Int) (pl : Int) (q : Nat) (B : Int → Int) (i : Int) (hi : 0 ≤ i ∧ i ≤ 244) (hB : byR 256 B) : Cv l D vwCl cA yX0_findMatch (.code yX0_findMatch cX0_findMatch 5 none :: UW) ({ frames := 1, cells := 0, slots := 0, locals := 23 }) 0 0 [.ref pk, .ref q, .int (iI i)] [(pk, .inr (0, [.ref po, .int (iI pn), .int (iI pb), .int (iI pl)])), (q, aE cA 256 B)] (fun (w : va_W) => ∃ (bp : Int) (bl : Int), bl = (bsu B i i.toNat).1 ∧ (0 < bl → bp = (bsu B i i.toNat).2) ∧ w = [(pk, .inr (0, [.ref po, .int (iI pn), .int (iI bp), .int (iI bl)])), (q, aE cA 256 B)]) := by
  refine Cv.mk (by decide) (Nat.le_of_ble_eq_true rfl) ?_
  intro p e s m args below meth c A E hin
  refine GG.lvs (lv' := [(0, .ref pk), (1, .ref q), (2, .int (iI i))]) [0, 1, 2] rfl ?_
  refine g_aload_n E dX0_findMatch_0 rfl 0 rfl ?_
  refine g_iconst E dX0_findMatch_1 ?_
  refine g_putfield (ws' := [(pk, .inr (0, [.ref po, .int (iI pn), .int (iI pb), .int (iI 0)])), (q, aE cA 256 B)]) E dX0_findMatch_2 0 3 rfl rfl (by decide) iX0 tyX0 tyX0_ok nmX0 wd_18 rfl rfl rfl rfl rfl (Nat.le_of_ble_eq_true rfl) rfl ?_
  refine g_iload_n E dX0_findMatch_5 rfl 2 rfl ?_
  refine g_iconst E dX0_findMatch_6 ?_
  refine g_isub E dX0_findMatch_7 ?_
  refine g_istore_n (lv' := [(3, .int (iI (i - 1))), (0, .ref pk), (1, .ref q), (2, .int (iI i))]) E dX0_findMatch_8 rfl (by decide) rfl ?_
  have L9 : ∀ (fu9 : Nat) (f : Int) (bp : Int) (bl : Int), -1 ≤ f ∧ f ≤ i - 1 → 0 ≤ bl ∧ bl ≤ 251 → bestOn B i (f + 1) i bl bp → (f + 1) < (fu9 : Int) → GG p l e ({ frames := 1, cells := 0, slots := 0, locals := 23 }) s m args below meth c D vwCl A 5 (QV D vwCl cA A below args s 0 0 (fun (w : va_W) => ∃ (bp : Int) (bl : Int), bl = (bsu B i i.toNat).1 ∧ (0 < bl → bp = (bsu B i i.toNat).2) ∧ w = [(pk, .inr (0, [.ref po, .int (iI pn), .int (iI bp), .int (iI bl)])), (q, aE cA 256 B)])) 0 0 [(pk, .inr (0, [.ref po, .int (iI pn), .int (iI bp), .int (iI bl)])), (q, aE cA 256 B)] [(0, .ref pk), (1, .ref q), (2, .int (iI i)), (3, .int (iI f))] 9 [] := by
    intro fu9
    induction fu9 with
    | zero => intro f bp bl hf hbl hb hmu9; exfalso; omega
    | succ fu9 ih9 =>
      intro f bp bl hf hbl hb hmu9
      refine g_iload_n E dX0_findMatch_9 rfl 3 rfl ?_
      refine g_if_lt (tgt := 47) E dX0_findMatch_10 (by decide) ⟨(by omega), (by omega)⟩ (fun c_10 => ?_) (fun c_10 => ?_)
      · skip
        refine g_return E dX0_findMatch_47 ?_
        have hf2 : f = -1 := by omega
        subst hf2
        have hu := bestOn_uniq hb (by have := bsu_best B i (by omega) i.toNat; rw [show ((i.toNat : Nat) : Int) = i by omega] at this; rw [show (-1 : Int) + 1 = 0 by omega]; exact this)
        exact ⟨bp, bl, hu.1, hu.2, rfl⟩
      · skip
        refine g_aload_n E dX0_findMatch_13 rfl 1 rfl ?_
        refine g_iload_n E dX0_findMatch_14 rfl 3 rfl ?_
        refine g_iload_n E dX0_findMatch_15 rfl 2 rfl ?_
        refine g_callS (n := 3) (As := [.ref q, .int (iI f), .int (iI i)]) (rest := []) (wr := [(pk, .inr (0, [.ref po, .int (iI pn), .int (iI bp), .int (iI bl)]))]) E dX0_findMatch_16 (c_X0_sameLength l D cA q B f i (by omega) (by omega)) wd_code_X0_sameLength wd_19 wd_20 wd_21 (by decide +kernel) ⟨⟨rfl, rfl⟩, ⟨(Nat.le_of_ble_eq_true rfl), (Nat.le_of_ble_eq_true rfl)⟩, ⟨(Nat.le_of_ble_eq_true rfl), (Nat.le_of_ble_eq_true rfl)⟩⟩ [1] [0] rfl rfl (by decide) rfl rfl (Nat.le_of_ble_eq_true rfl) (fun z_16 w_16 hw_16 => ?_)
        obtain ⟨hr_16, rfl⟩ := hw_16
        subst hr_16
        refine GG.wss (ws' := [(pk, .inr (0, [.ref po, .int (iI pn), .int (iI bp), .int (iI bl)])), (q, aE cA 256 B)]) [0, 1] (by decide) rfl ?_
        have hml := mlen_b (B := B) (j := f) (i := i) (by omega)
        refine g_istore (lv' := [(4, .int (iI (mlen B f i))), (0, .ref pk), (1, .ref q), (2, .int (iI i)), (3, .int (iI f))]) E dX0_findMatch_19 (by decide) rfl ?_
        refine g_iload E dX0_findMatch_21 0 rfl ?_
        refine g_aload_n E dX0_findMatch_23 rfl 1 rfl ?_
        refine g_getfield E dX0_findMatch_24 0 3 rfl rfl (by decide) iX0 wd_18 rfl rfl ?_
        refine g_icmp_le (tgt := 41) E dX0_findMatch_27 (by decide) ⟨(by omega), (by omega)⟩ ⟨(by omega), (by omega)⟩ (fun c_27 => ?_) (fun c_27 => ?_)
        · skip
          refine g_iinc (lv' := [(3, .int (iI (f + (-1)))), (4, .int (iI (mlen B f i))), (0, .ref pk), (1, .ref q), (2, .int (iI i))]) E dX0_findMatch_41 4 rfl (by decide) rfl ?_
          refine g_goto (tgt := 9) E dX0_findMatch_44 (by decide) ?_
          refine GG.lvs (lv' := [(0, .ref pk), (1, .ref q), (2, .int (iI i)), (3, .int (iI (f + (-1))))]) [2, 3, 4, 0] rfl ?_
          exact ih9 (f + (-1)) bp bl (by omega) (by omega) (by rw [show f + (-1) + 1 = f by omega]; first | exact bestOn_new (by omega) hb c_27 | exact bestOn_old hb c_27) (by omega)
        · skip
          refine g_aload_n E dX0_findMatch_30 rfl 1 rfl ?_
          refine g_iload E dX0_findMatch_31 0 rfl ?_
          refine g_putfield (ws' := [(pk, .inr (0, [.ref po, .int (iI pn), .int (iI bp), .int (iI (mlen B f i))])), (q, aE cA 256 B)]) E dX0_findMatch_33 0 3 rfl rfl (by decide) iX0 tyX0 tyX0_ok nmX0 wd_18 rfl rfl rfl rfl rfl (Nat.le_of_ble_eq_true rfl) rfl ?_
          refine g_aload_n E dX0_findMatch_36 rfl 1 rfl ?_
          refine g_iload_n E dX0_findMatch_37 rfl 4 rfl ?_
          refine g_putfield (ws' := [(pk, .inr (0, [.ref po, .int (iI pn), .int (iI f), .int (iI (mlen B f i))])), (q, aE cA 256 B)]) E dX0_findMatch_38 0 2 rfl rfl (by decide) iX0 tyX0 tyX0_ok nmX0 wd_22 rfl rfl rfl rfl rfl (Nat.le_of_ble_eq_true rfl) rfl ?_
          refine g_iinc (lv' := [(3, .int (iI (f + (-1)))), (4, .int (iI (mlen B f i))), (0, .ref pk), (1, .ref q), (2, .int (iI i))]) E dX0_findMatch_41 4 rfl (by decide) rfl ?_
          refine g_goto (tgt := 9) E dX0_findMatch_44 (by decide) ?_
          refine GG.lvs (lv' := [(0, .ref pk), (1, .ref q), (2, .int (iI i)), (3, .int (iI (f + (-1))))]) [2, 3, 4, 0] rfl ?_
          exact ih9 (f + (-1)) f (mlen B f i) (by omega) (by omega) (by rw [show f + (-1) + 1 = f by omega]; first | exact bestOn_new (by omega) hb c_27 | exact bestOn_old hb c_27) (by omega)
  refine GG.lvs (lv' := [(0, .ref pk), (1, .ref q), (2, .int (iI i)), (3, .int (iI (i - 1)))]) [1, 2, 3, 0] rfl ?_
  exact L9 (((i - 1) + 1 : Int).toNat + 1) (i - 1) pb 0 (by omega) (by omega) (by rw [show i - 1 + 1 = i by omega]; exact bestOn_0) (by omega)
set_option maxHeartbeats 4000000 in
set_option maxRecDepth 100000 in
theorem c_X0_put (l : Launch) (D : va_G) (cA : ClassId) (pk : Nat) (po : Nat) (pb : Int) (pl : Int) (W : (Int → Int) × Int) (b : Int) (hW : 0 ≤ W.2 ∧ W.2 < 258) : Cv l D vwCl cA yX0_put (.code yX0_put cX0_put 2 none :: UW) ({ frames := 0, cells := 0, slots := 0, locals := 0 }) 0 0 [.ref pk, .int (iI b)] [(pk, .inr (0, [.ref po, .int (iI W.2), .int (iI pb), .int (iI pl)])), (po, aE cA 258 W.1)] (fun (w : va_W) => ∃ (V : (Int → Int) × Int), V = pt W b ∧ V.2 = W.2 + 1 ∧ w = [(pk, .inr (0, [.ref po, .int (iI V.2), .int (iI pb), .int (iI pl)])), (po, aE cA 258 V.1)]) := by
  refine Cv.mk (by decide) (Nat.le_of_ble_eq_true rfl) ?_
  intro p e s m args below meth c A E hin
  refine GG.lvs (lv' := [(0, .ref pk), (1, .int (iI b))]) [0, 1] rfl ?_
  refine g_aload_n E dX0_put_0 rfl 0 rfl ?_
  refine g_getfield E dX0_put_1 0 1 rfl rfl (by decide) iX0 wd_23 rfl rfl ?_
  refine g_aload_n E dX0_put_4 rfl 0 rfl ?_
  refine g_getfield E dX0_put_5 0 0 rfl rfl (by decide) iX0 wd_24 rfl rfl ?_
  refine g_arraylength E dX0_put_8 1 rfl ?_
  refine g_icmp_ge (tgt := 32) E dX0_put_9 (by decide) ⟨(by omega), (by omega)⟩ ⟨(by omega), (by omega)⟩ (fun c_9 => ?_) (fun c_9 => ?_)
  · skip
    exfalso; omega
  · skip
    refine g_aload_n E dX0_put_12 rfl 0 rfl ?_
    refine g_getfield E dX0_put_13 0 0 rfl rfl (by decide) iX0 wd_24 rfl rfl ?_
    refine g_aload_n E dX0_put_16 rfl 0 rfl ?_
    refine g_getfield E dX0_put_17 0 1 rfl rfl (by decide) iX0 wd_23 rfl rfl ?_
    refine g_iload_n E dX0_put_20 rfl 1 rfl ?_
    refine g_iastore (ws' := [(pk, .inr (0, [.ref po, .int (iI W.2), .int (iI pb), .int (iI pl)])), (po, aE cA 258 (up W.1 W.2 b))]) E dX0_put_21 1 rfl (by omega) (by omega) (by omega) rfl ?_
    refine g_aload_n E dX0_put_22 rfl 0 rfl ?_
    refine g_dup E dX0_put_23 rfl ?_
    refine g_getfield E dX0_put_24 0 1 rfl rfl (by decide) iX0 wd_23 rfl rfl ?_
    refine g_iconst E dX0_put_27 ?_
    refine g_iadd E dX0_put_28 ?_
    refine g_putfield (ws' := [(pk, .inr (0, [.ref po, .int (iI (W.2 + 1)), .int (iI pb), .int (iI pl)])), (po, aE cA 258 (up W.1 W.2 b))]) E dX0_put_29 0 1 rfl rfl (by decide) iX0 tyX0 tyX0_ok nmX0 wd_23 rfl rfl rfl rfl rfl (Nat.le_of_ble_eq_true rfl) rfl ?_
    refine g_return E dX0_put_32 ?_
    exact ⟨pt W b, rfl, rfl, rfl⟩
set_option maxHeartbeats 4000000 in
set_option maxRecDepth 100000 in
theorem c_X0_putRest (l : Launch) (D : va_G) (cA : ClassId) (pk : Nat) (po : Nat) (pb : Int) (pl : Int) (W : (Int → Int) × Int) (n : Int) (hW : 0 ≤ W.2 ∧ W.2 < 258) (hn : 0 ≤ n ∧ n ≤ 256) : Cv l D vwCl cA yX0_putRest (.code yX0_putRest cX0_putRest 2 none :: UW) ({ frames := 1, cells := 0, slots := 0, locals := 21 }) 0 0 [.ref pk, .int (iI n)] [(pk, .inr (0, [.ref po, .int (iI W.2), .int (iI pb), .int (iI pl)])), (po, aE cA 258 W.1)] (fun (w : va_W) => ∃ (V : (Int → Int) × Int), V = prs W n ∧ ((n < 15 ∧ V.2 = W.2) ∨ (15 ≤ n ∧ V.2 = W.2 + 1)) ∧ w = [(pk, .inr (0, [.ref po, .int (iI V.2), .int (iI pb), .int (iI pl)])), (po, aE cA 258 V.1)]) := by
  refine Cv.mk (by decide) (Nat.le_of_ble_eq_true rfl) ?_
  intro p e s m args below meth c A E hin
  refine GG.lvs (lv' := [(0, .ref pk), (1, .int (iI n))]) [0, 1] rfl ?_
  refine g_iload_n E dX0_putRest_0 rfl 1 rfl ?_
  refine g_bipush E dX0_putRest_1 (by decide) ?_
  refine g_icmp_lt (tgt := 14) E dX0_putRest_3 (by decide) ⟨(by omega), (by omega)⟩ ⟨(by omega), (by omega)⟩ (fun c_3 => ?_) (fun c_3 => ?_)
  · skip
    refine g_return E dX0_putRest_14 ?_
    first | exact ⟨W, by rw [prs, if_neg (by omega)], by omega, rfl⟩ | exact ⟨V_11, by rw [prs, if_pos (by omega)]; exact hV_11, by omega, rfl⟩
  · skip
    refine g_aload_n E dX0_putRest_6 rfl 0 rfl ?_
    refine g_iload_n E dX0_putRest_7 rfl 1 rfl ?_
    refine g_bipush E dX0_putRest_8 (by decide) ?_
    refine g_isub E dX0_putRest_10 ?_
    refine g_callVv (n := 1) (As := [.int (iI (n - 15))]) (rest := []) (wr := []) E dX0_putRest_11 (c_X0_put l D cA pk po pb pl W (n - 15) (by omega)) wd_code_X0_put wd_25 wd_26 wd_27 wd_28 (by decide +kernel) ⟨⟨rfl, rfl⟩, ⟨(Nat.le_of_ble_eq_true rfl), (Nat.le_of_ble_eq_true rfl)⟩, ⟨(Nat.le_of_ble_eq_true rfl), (Nat.le_of_ble_eq_true rfl)⟩⟩ [0, 1] [] rfl rfl (by decide) 0 rfl rfl rfl rfl (Nat.le_of_ble_eq_true rfl) (fun w_11 hw_11 => ?_)
    obtain ⟨V_11, hV_11, hV2_11, rfl⟩ := hw_11
    refine GG.wss (ws' := [(pk, .inr (0, [.ref po, .int (iI V_11.2), .int (iI pb), .int (iI pl)])), (po, aE cA 258 V_11.1)]) [0, 1] (by decide) rfl ?_
    refine g_return E dX0_putRest_14 ?_
    first | exact ⟨W, by rw [prs, if_neg (by omega)], by omega, rfl⟩ | exact ⟨V_11, by rw [prs, if_pos (by omega)]; exact hV_11, by omega, rfl⟩
set_option maxHeartbeats 4000000 in
set_option maxRecDepth 100000 in
theorem c_X0_putMatch (l : Launch) (D : va_G) (cA : ClassId) (pk : Nat) (po : Nat) (pb : Int) (pl : Int) (W : (Int → Int) × Int) (o : Int) (n : Int) (hW : 0 ≤ W.2 ∧ W.2 + 3 ≤ 258) (ho : 1 ≤ o ∧ o ≤ 256) (hn : 0 ≤ n ∧ n ≤ 256) : Cv l D vwCl cA yX0_putMatch (.code yX0_putMatch cX0_putMatch 3 none :: UW) ({ frames := 2, cells := 0, slots := 0, locals := 42 }) 0 0 [.ref pk, .int (iI o), .int (iI n)] [(pk, .inr (0, [.ref po, .int (iI W.2), .int (iI pb), .int (iI pl)])), (po, aE cA 258 W.1)] (fun (w : va_W) => ∃ (V : (Int → Int) × Int), V = mtc W o n ∧ ((n < 15 ∧ V.2 = W.2 + 2) ∨ (15 ≤ n ∧ V.2 = W.2 + 3)) ∧ w = [(pk, .inr (0, [.ref po, .int (iI V.2), .int (iI pb), .int (iI pl)])), (po, aE cA 258 V.1)]) := by
  refine Cv.mk (by decide) (Nat.le_of_ble_eq_true rfl) ?_
  intro p e s m args below meth c A E hin
  refine GG.lvs (lv' := [(0, .ref pk), (1, .int (iI o)), (2, .int (iI n))]) [0, 1, 2] rfl ?_
  refine g_aload_n E dX0_putMatch_0 rfl 0 rfl ?_
  refine g_iload_n E dX0_putMatch_1 rfl 1 rfl ?_
  refine g_sipush E dX0_putMatch_2 (by decide) ?_
  refine g_irem E dX0_putMatch_5 (by omega) (by omega) (by omega) (by omega) ?_
  refine g_callVv (n := 1) (As := [.int (iI (o % 256))]) (rest := []) (wr := []) E dX0_putMatch_6 (c_X0_put l D cA pk po pb pl W (o % 256) (by omega)) wd_code_X0_put wd_25 wd_26 wd_27 wd_28 (by decide +kernel) ⟨⟨rfl, rfl⟩, ⟨(Nat.le_of_ble_eq_true rfl), (Nat.le_of_ble_eq_true rfl)⟩, ⟨(Nat.le_of_ble_eq_true rfl), (Nat.le_of_ble_eq_true rfl)⟩⟩ [0, 1] [] rfl rfl (by decide) 0 rfl rfl rfl rfl (Nat.le_of_ble_eq_true rfl) (fun w_6 hw_6 => ?_)
  obtain ⟨V_6, hV_6, hV2_6, rfl⟩ := hw_6
  refine GG.wss (ws' := [(pk, .inr (0, [.ref po, .int (iI V_6.2), .int (iI pb), .int (iI pl)])), (po, aE cA 258 V_6.1)]) [0, 1] (by decide) rfl ?_
  refine g_aload_n E dX0_putMatch_9 rfl 0 rfl ?_
  refine g_iload_n E dX0_putMatch_10 rfl 1 rfl ?_
  refine g_sipush E dX0_putMatch_11 (by decide) ?_
  refine g_idiv E dX0_putMatch_14 (by omega) (by omega) (by omega) (by omega) ?_
  refine g_callVv (n := 1) (As := [.int (iI (o / 256))]) (rest := []) (wr := []) E dX0_putMatch_15 (c_X0_put l D cA pk po pb pl V_6 (o / 256) (by omega)) wd_code_X0_put wd_25 wd_26 wd_27 wd_28 (by decide +kernel) ⟨⟨rfl, rfl⟩, ⟨(Nat.le_of_ble_eq_true rfl), (Nat.le_of_ble_eq_true rfl)⟩, ⟨(Nat.le_of_ble_eq_true rfl), (Nat.le_of_ble_eq_true rfl)⟩⟩ [0, 1] [] rfl rfl (by decide) 0 rfl rfl rfl rfl (Nat.le_of_ble_eq_true rfl) (fun w_15 hw_15 => ?_)
  obtain ⟨V_15, hV_15, hV2_15, rfl⟩ := hw_15
  refine GG.wss (ws' := [(pk, .inr (0, [.ref po, .int (iI V_15.2), .int (iI pb), .int (iI pl)])), (po, aE cA 258 V_15.1)]) [0, 1] (by decide) rfl ?_
  refine g_aload_n E dX0_putMatch_18 rfl 0 rfl ?_
  refine g_iload_n E dX0_putMatch_19 rfl 2 rfl ?_
  refine g_callVv (n := 1) (As := [.int (iI n)]) (rest := []) (wr := []) E dX0_putMatch_20 (c_X0_putRest l D cA pk po pb pl V_15 n (by omega) (by omega)) wd_code_X0_putRest wd_29 wd_30 wd_31 wd_32 (by decide +kernel) ⟨⟨rfl, rfl⟩, ⟨(Nat.le_of_ble_eq_true rfl), (Nat.le_of_ble_eq_true rfl)⟩, ⟨(Nat.le_of_ble_eq_true rfl), (Nat.le_of_ble_eq_true rfl)⟩⟩ [0, 1] [] rfl rfl (by decide) 0 rfl rfl rfl rfl (Nat.le_of_ble_eq_true rfl) (fun w_20 hw_20 => ?_)
  obtain ⟨V_20, hV_20, hV2_20, rfl⟩ := hw_20
  refine GG.wss (ws' := [(pk, .inr (0, [.ref po, .int (iI V_20.2), .int (iI pb), .int (iI pl)])), (po, aE cA 258 V_20.1)]) [0, 1] (by decide) rfl ?_
  refine g_return E dX0_putMatch_23 ?_
  exact ⟨V_20, by rw [hV_20, hV_15, hV_6]; rfl, by omega, rfl⟩
set_option maxHeartbeats 4000000 in
set_option maxRecDepth 100000 in
theorem c_X0_putSequence (l : Launch) (D : va_G) (cA : ClassId) (pk : Nat) (po : Nat) (pb : Int) (pl : Int) (W : (Int → Int) × Int) (q : Nat) (B : Int → Int) (f : Int) (t : Int) (n : Int) (hf : 0 ≤ f ∧ f ≤ t ∧ t ≤ 256) (hW : 0 ≤ W.2 ∧ W.2 + 2 + (t - f) ≤ 258) (hn : 0 ≤ n ∧ n ≤ 256) : Cv l D vwCl cA yX0_putSequence (.code yX0_putSequence cX0_putSequence 7 none :: UW) ({ frames := 2, cells := 0, slots := 0, locals := 42 }) 0 0 [.ref pk, .ref q, .int (iI f), .int (iI t), .int (iI n)] [(pk, .inr (0, [.ref po, .int (iI W.2), .int (iI pb), .int (iI pl)])), (po, aE cA 258 W.1), (q, aE cA 256 B)] (fun (w : va_W) => ∃ (V : (Int → Int) × Int), V = sq B W f t n ∧ ((t - f < 15 ∧ V.2 = W.2 + 1 + (t - f)) ∨ (15 ≤ t - f ∧ V.2 = W.2 + 2 + (t - f))) ∧ w = [(pk, .inr (0, [.ref po, .int (iI V.2), .int (iI pb), .int (iI pl)])), (po, aE cA 258 V.1), (q, aE cA 256 B)]) := by
  refine Cv.mk (by decide) (Nat.le_of_ble_eq_true rfl) ?_
  intro p e s m args below meth c A E hin
  refine GG.lvs (lv' := [(0, .ref pk), (1, .ref q), (2, .int (iI f)), (3, .int (iI t)), (4, .int (iI n))]) [0, 1, 2, 3, 4] rfl ?_
  refine g_iload_n E dX0_putSequence_0 rfl 3 rfl ?_
  refine g_iload_n E dX0_putSequence_1 rfl 2 rfl ?_
  refine g_isub E dX0_putSequence_2 ?_
  refine g_istore (lv' := [(5, .int (iI (t - f))), (0, .ref pk), (1, .ref q), (2, .int (iI f)), (3, .int (iI t)), (4, .int (iI n))]) E dX0_putSequence_3 (by decide) rfl ?_
  refine g_aload_n E dX0_putSequence_5 rfl 1 rfl ?_
  refine g_iload E dX0_putSequence_6 0 rfl ?_
  refine g_bipush E dX0_putSequence_8 (by decide) ?_
  refine g_min E dX0_putSequence_10 wd_33 wd_34 wd_35 wd_mincode (Nat.le_of_ble_eq_true rfl) (Nat.le_of_ble_eq_true rfl) (Nat.le_of_ble_eq_true rfl) (Nat.le_of_ble_eq_true rfl) ⟨(by omega), (by omega)⟩ ⟨(by omega), (by omega)⟩ ?_
  refine g_bipush E dX0_putSequence_13 (by decide) ?_
  refine g_imul E dX0_putSequence_15 ?_
  refine g_iload E dX0_putSequence_16 5 rfl ?_
  refine g_bipush E dX0_putSequence_18 (by decide) ?_
  refine g_min E dX0_putSequence_20 wd_33 wd_34 wd_35 wd_mincode (Nat.le_of_ble_eq_true rfl) (Nat.le_of_ble_eq_true rfl) (Nat.le_of_ble_eq_true rfl) (Nat.le_of_ble_eq_true rfl) ⟨(by omega), (by omega)⟩ ⟨(by omega), (by omega)⟩ ?_
  refine g_iadd E dX0_putSequence_23 ?_
  refine g_callVv (n := 1) (As := [.int (iI (((min (t - f) 15) * 16) + (min n 15)))]) (rest := []) (wr := [(q, aE cA 256 B)]) E dX0_putSequence_24 (c_X0_put l D cA pk po pb pl W (((min (t - f) 15) * 16) + (min n 15)) (by omega)) wd_code_X0_put wd_25 wd_26 wd_27 wd_28 (by decide +kernel) ⟨⟨rfl, rfl⟩, ⟨(Nat.le_of_ble_eq_true rfl), (Nat.le_of_ble_eq_true rfl)⟩, ⟨(Nat.le_of_ble_eq_true rfl), (Nat.le_of_ble_eq_true rfl)⟩⟩ [0, 1] [2] rfl rfl (by decide) 0 rfl rfl rfl rfl (Nat.le_of_ble_eq_true rfl) (fun w_24 hw_24 => ?_)
  obtain ⟨V_24, hV_24, hV2_24, rfl⟩ := hw_24
  refine GG.wss (ws' := [(pk, .inr (0, [.ref po, .int (iI V_24.2), .int (iI pb), .int (iI pl)])), (po, aE cA 258 V_24.1), (q, aE cA 256 B)]) [1, 2, 0] (by decide) rfl ?_
  refine g_aload_n E dX0_putSequence_27 rfl 1 rfl ?_
  refine g_iload E dX0_putSequence_28 0 rfl ?_
  refine g_callVv (n := 1) (As := [.int (iI (t - f))]) (rest := []) (wr := [(q, aE cA 256 B)]) E dX0_putSequence_30 (c_X0_putRest l D cA pk po pb pl V_24 (t - f) (by omega) (by omega)) wd_code_X0_putRest wd_29 wd_30 wd_31 wd_32 (by decide +kernel) ⟨⟨rfl, rfl⟩, ⟨(Nat.le_of_ble_eq_true rfl), (Nat.le_of_ble_eq_true rfl)⟩, ⟨(Nat.le_of_ble_eq_true rfl), (Nat.le_of_ble_eq_true rfl)⟩⟩ [0, 1] [2] rfl rfl (by decide) 0 rfl rfl rfl rfl (Nat.le_of_ble_eq_true rfl) (fun w_30 hw_30 => ?_)
  obtain ⟨V_30, hV_30, hV2_30, rfl⟩ := hw_30
  refine GG.wss (ws' := [(pk, .inr (0, [.ref po, .int (iI V_30.2), .int (iI pb), .int (iI pl)])), (po, aE cA 258 V_30.1), (q, aE cA 256 B)]) [1, 2, 0] (by decide) rfl ?_
  refine g_iload_n E dX0_putSequence_33 rfl 3 rfl ?_
  refine g_istore (lv' := [(6, .int (iI f)), (5, .int (iI (t - f))), (0, .ref pk), (1, .ref q), (2, .int (iI f)), (3, .int (iI t)), (4, .int (iI n))]) E dX0_putSequence_34 (by decide) rfl ?_
  have L36 : ∀ (fu36 : Nat) (k : Int) (U : (Int → Int) × Int), f ≤ k ∧ k ≤ t → U = lts B V_30 f (k - f).toNat → U.2 = V_30.2 + (k - f) → (t - k) < (fu36 : Int) → GG p l e ({ frames := 2, cells := 0, slots := 0, locals := 42 }) s m args below meth c D vwCl A 7 (QV D vwCl cA A below args s 0 0 (fun (w : va_W) => ∃ (V : (Int → Int) × Int), V = sq B W f t n ∧ ((t - f < 15 ∧ V.2 = W.2 + 1 + (t - f)) ∨ (15 ≤ t - f ∧ V.2 = W.2 + 2 + (t - f))) ∧ w = [(pk, .inr (0, [.ref po, .int (iI V.2), .int (iI pb), .int (iI pl)])), (po, aE cA 258 V.1), (q, aE cA 256 B)])) 0 0 [(pk, .inr (0, [.ref po, .int (iI U.2), .int (iI pb), .int (iI pl)])), (po, aE cA 258 U.1), (q, aE cA 256 B)] [(0, .ref pk), (1, .ref q), (2, .int (iI f)), (3, .int (iI t)), (6, .int (iI k))] 36 [] := by
    intro fu36
    induction fu36 with
    | zero => intro k U hk hU hU2 hmu36; exfalso; omega
    | succ fu36 ih36 =>
      intro k U hk hU hU2 hmu36
      refine g_iload E dX0_putSequence_36 4 rfl ?_
      refine g_iload_n E dX0_putSequence_38 rfl 3 rfl ?_
      refine g_icmp_ge (tgt := 56) E dX0_putSequence_39 (by decide) ⟨(by omega), (by omega)⟩ ⟨(by omega), (by omega)⟩ (fun c_39 => ?_) (fun c_39 => ?_)
      · skip
        refine g_return E dX0_putSequence_56 ?_
        have hk2 : k = t := by omega
        subst hk2
        exact ⟨U, by rw [hU, hV_30, hV_24]; rfl, by omega, rfl⟩
      · skip
        refine g_aload_n E dX0_putSequence_42 rfl 0 rfl ?_
        refine g_aload_n E dX0_putSequence_43 rfl 1 rfl ?_
        refine g_iload E dX0_putSequence_44 4 rfl ?_
        refine g_iaload E dX0_putSequence_46 2 rfl (by omega) (by omega) (by omega) ?_
        refine g_callVv (n := 1) (As := [.int (iI (B k))]) (rest := []) (wr := [(q, aE cA 256 B)]) E dX0_putSequence_47 (c_X0_put l D cA pk po pb pl U (B k) (by omega)) wd_code_X0_put wd_25 wd_26 wd_27 wd_28 (by decide +kernel) ⟨⟨rfl, rfl⟩, ⟨(Nat.le_of_ble_eq_true rfl), (Nat.le_of_ble_eq_true rfl)⟩, ⟨(Nat.le_of_ble_eq_true rfl), (Nat.le_of_ble_eq_true rfl)⟩⟩ [0, 1] [2] rfl rfl (by decide) 0 rfl rfl rfl rfl (Nat.le_of_ble_eq_true rfl) (fun w_47 hw_47 => ?_)
        obtain ⟨V_47, hV_47, hV2_47, rfl⟩ := hw_47
        refine GG.wss (ws' := [(pk, .inr (0, [.ref po, .int (iI V_47.2), .int (iI pb), .int (iI pl)])), (po, aE cA 258 V_47.1), (q, aE cA 256 B)]) [1, 2, 0] (by decide) rfl ?_
        refine g_iinc (lv' := [(6, .int (iI (k + 1))), (0, .ref pk), (1, .ref q), (2, .int (iI f)), (3, .int (iI t))]) E dX0_putSequence_50 4 rfl (by decide) rfl ?_
        refine g_goto (tgt := 36) E dX0_putSequence_53 (by decide) ?_
        refine GG.lvs (lv' := [(0, .ref pk), (1, .ref q), (2, .int (iI f)), (3, .int (iI t)), (6, .int (iI (k + 1)))]) [1, 2, 3, 4, 0] rfl ?_
        exact ih36 (k + 1) V_47 (by omega) (by rw [hV_47, hU, show (k + 1 - f).toNat = (k - f).toNat + 1 by omega]; show _ = pt _ _; rw [show f + (((k - f).toNat : Nat) : Int) = k by omega]) (by omega) (by omega)
  refine GG.lvs (lv' := [(0, .ref pk), (1, .ref q), (2, .int (iI f)), (3, .int (iI t)), (6, .int (iI f))]) [2, 3, 4, 5, 0] rfl ?_
  exact L36 ((t - f : Int).toNat + 1) f V_30 (by omega) (by rw [show f - f = 0 by omega]; rfl) (by omega) (by omega)
set_option maxHeartbeats 4000000 in
set_option maxRecDepth 100000 in
theorem c_X0_pack (l : Launch) (D : va_G) (cA : ClassId) (pk : Nat) (po : Nat) (pn : Int) (pb : Int) (pl : Int) (PO : Int → Int) (q : Nat) (B : Int → Int) (hB : byR 256 B) : Ci l D vwCl cA yX0_pack (.code yX0_pack cX0_pack 4 (some .int) :: UW) ({ frames := 3, cells := 0, slots := 0, locals := 68 }) 0 0 [.ref pk, .ref q] [(pk, .inr (0, [.ref po, .int (iI pn), .int (iI pb), .int (iI pl)])), (po, aE cA 258 PO), (q, aE cA 256 B)] (fun (r : Int) (w : va_W) => ∃ (V : (Int → Int) × Int) (bp : Int) (bl : Int), r = V.2 ∧ V = packF B 300 (PO, 0) 0 0 ∧ (1 ≤ V.2 ∧ V.2 ≤ 258) ∧ w = [(pk, .inr (0, [.ref po, .int (iI V.2), .int (iI bp), .int (iI bl)])), (po, aE cA 258 V.1), (q, aE cA 256 B)]) := by
  refine Ci.mk (by decide) (Nat.le_of_ble_eq_true rfl) ?_
  intro p e s m args below meth c A E
  refine GG.lvs (lv' := [(0, .ref pk), (1, .ref q)]) [0, 1] rfl ?_
  refine g_aload_n E dX0_pack_0 rfl 0 rfl ?_
  refine g_iconst E dX0_pack_1 ?_
  refine g_putfield (ws' := [(pk, .inr (0, [.ref po, .int (iI 0), .int (iI pb), .int (iI pl)])), (po, aE cA 258 PO), (q, aE cA 256 B)]) E dX0_pack_2 0 1 rfl rfl (by decide) iX0 tyX0 tyX0_ok nmX0 wd_23 rfl rfl rfl rfl rfl (Nat.le_of_ble_eq_true rfl) rfl ?_
  refine g_iconst E dX0_pack_5 ?_
  refine g_istore_n (lv' := [(2, .int (iI 0)), (0, .ref pk), (1, .ref q)]) E dX0_pack_6 rfl (by decide) rfl ?_
  refine g_iconst E dX0_pack_7 ?_
  refine g_istore_n (lv' := [(3, .int (iI 0)), (2, .int (iI 0)), (0, .ref pk), (1, .ref q)]) E dX0_pack_8 rfl (by decide) rfl ?_
  have L9 : ∀ (fu9 : Nat) (f : Int) (i : Int) (U : (Int → Int) × Int) (bp : Int) (bl : Int), 0 ≤ f ∧ f ≤ i ∧ i ≤ 251 → 0 ≤ U.2 ∧ U.2 ≤ f → (∃ n : Nat, 257 - i ≤ (n : Int) ∧ packF B 300 (PO, 0) 0 0 = packF B n U f i) → (251 - i) < (fu9 : Int) → GG p l e ({ frames := 3, cells := 0, slots := 0, locals := 68 }) s m args below meth c D vwCl A 4 (QI D vwCl cA A below args s 0 0 (fun (r : Int) (w : va_W) => ∃ (V : (Int → Int) × Int) (bp : Int) (bl : Int), r = V.2 ∧ V = packF B 300 (PO, 0) 0 0 ∧ (1 ≤ V.2 ∧ V.2 ≤ 258) ∧ w = [(pk, .inr (0, [.ref po, .int (iI V.2), .int (iI bp), .int (iI bl)])), (po, aE cA 258 V.1), (q, aE cA 256 B)])) 0 0 [(pk, .inr (0, [.ref po, .int (iI U.2), .int (iI bp), .int (iI bl)])), (po, aE cA 258 U.1), (q, aE cA 256 B)] [(0, .ref pk), (1, .ref q), (2, .int (iI f)), (3, .int (iI i))] 9 [] := by
    intro fu9
    induction fu9 with
    | zero => intro f i U bp bl hf hU2 hF hmu9; exfalso; omega
    | succ fu9 ih9 =>
      intro f i U bp bl hf hU2 hF hmu9
      obtain ⟨n0, hn0, hF⟩ := hF
      obtain ⟨n0, rfl⟩ : ∃ k : Nat, n0 = k + 1 := ⟨n0 - 1, by omega⟩
      refine g_iload_n E dX0_pack_9 rfl 3 rfl ?_
      refine g_sipush E dX0_pack_10 (by decide) ?_
      refine g_icmp_gt (tgt := 77) E dX0_pack_13 (by decide) ⟨(by omega), (by omega)⟩ ⟨(by omega), (by omega)⟩ (fun c_13 => ?_) (fun c_13 => ?_)
      · skip
        refine g_aload_n E dX0_pack_77 rfl 0 rfl ?_
        refine g_aload_n E dX0_pack_78 rfl 1 rfl ?_
        refine g_iload_n E dX0_pack_79 rfl 2 rfl ?_
        refine g_sipush E dX0_pack_80 (by decide) ?_
        refine g_iconst E dX0_pack_83 ?_
        refine g_callVv (n := 4) (As := [.ref q, .int (iI f), .int (iI 256), .int (iI 0)]) (rest := []) (wr := []) E dX0_pack_84 (c_X0_putSequence l D cA pk po bp bl U q B f 256 0 (by omega) (by omega) (by omega)) wd_code_X0_putSequence wd_36 wd_37 wd_38 wd_39 (by decide +kernel) ⟨⟨rfl, rfl⟩, ⟨(Nat.le_of_ble_eq_true rfl), (Nat.le_of_ble_eq_true rfl)⟩, ⟨(Nat.le_of_ble_eq_true rfl), (Nat.le_of_ble_eq_true rfl)⟩⟩ [0, 1, 2] [] rfl rfl (by decide) 0 rfl rfl rfl rfl (Nat.le_of_ble_eq_true rfl) (fun w_84 hw_84 => ?_)
        obtain ⟨V_84, hV_84, hV2_84, rfl⟩ := hw_84
        refine GG.wss (ws' := [(pk, .inr (0, [.ref po, .int (iI V_84.2), .int (iI bp), .int (iI bl)])), (po, aE cA 258 V_84.1), (q, aE cA 256 B)]) [0, 1, 2] (by decide) rfl ?_
        refine g_aload_n E dX0_pack_87 rfl 0 rfl ?_
        refine g_getfield E dX0_pack_88 0 1 rfl rfl (by decide) iX0 wd_23 rfl rfl ?_
        refine g_ireturn E dX0_pack_91 ?_
        exact ⟨V_84, bp, bl, rfl, by rw [hF, packF_end (by omega)]; exact hV_84, by omega, rfl⟩
      · skip
        refine g_aload_n E dX0_pack_16 rfl 0 rfl ?_
        refine g_aload_n E dX0_pack_17 rfl 1 rfl ?_
        refine g_iload_n E dX0_pack_18 rfl 3 rfl ?_
        refine g_callVv (n := 2) (As := [.ref q, .int (iI i)]) (rest := []) (wr := [(po, aE cA 258 U.1)]) E dX0_pack_19 (c_X0_findMatch l D cA pk po U.2 bp bl q B i (by omega) (by omega)) wd_code_X0_findMatch wd_40 wd_41 wd_42 wd_43 (by decide +kernel) ⟨⟨rfl, rfl⟩, ⟨(Nat.le_of_ble_eq_true rfl), (Nat.le_of_ble_eq_true rfl)⟩, ⟨(Nat.le_of_ble_eq_true rfl), (Nat.le_of_ble_eq_true rfl)⟩⟩ [0, 2] [1] rfl rfl (by decide) 0 rfl rfl rfl rfl (Nat.le_of_ble_eq_true rfl) (fun w_19 hw_19 => ?_)
        obtain ⟨bp_19, bl_19, e1_19, e2_19, rfl⟩ := hw_19
        refine GG.wss (ws' := [(pk, .inr (0, [.ref po, .int (iI U.2), .int (iI bp_19), .int (iI bl_19)])), (po, aE cA 258 U.1), (q, aE cA 256 B)]) [1, 0, 2] (by decide) rfl ?_
        have hbs := bsu_b B (i := i) (by omega) (by omega)
        rw [← e1_19] at hbs
        refine g_aload_n E dX0_pack_22 rfl 0 rfl ?_
        refine g_getfield E dX0_pack_23 0 3 rfl rfl (by decide) iX0 wd_18 rfl rfl ?_
        refine g_iconst E dX0_pack_26 ?_
        refine g_icmp_ge (tgt := 36) E dX0_pack_27 (by decide) ⟨(by omega), (by omega)⟩ ⟨(by omega), (by omega)⟩ (fun c_27 => ?_) (fun c_27 => ?_)
        · skip
          have he2 := e2_19 (by omega)
          rw [← he2] at hbs
          have hbs3 := hbs.2.2 (by omega)
          refine g_aload_n E dX0_pack_36 rfl 0 rfl ?_
          refine g_aload_n E dX0_pack_37 rfl 1 rfl ?_
          refine g_iload_n E dX0_pack_38 rfl 2 rfl ?_
          refine g_iload_n E dX0_pack_39 rfl 3 rfl ?_
          refine g_aload_n E dX0_pack_40 rfl 0 rfl ?_
          refine g_getfield E dX0_pack_41 0 3 rfl rfl (by decide) iX0 wd_18 rfl rfl ?_
          refine g_iconst E dX0_pack_44 ?_
          refine g_isub E dX0_pack_45 ?_
          refine g_callVv (n := 4) (As := [.ref q, .int (iI f), .int (iI i), .int (iI (bl_19 - 4))]) (rest := []) (wr := []) E dX0_pack_46 (c_X0_putSequence l D cA pk po bp_19 bl_19 U q B f i (bl_19 - 4) (by omega) (by omega) (by omega)) wd_code_X0_putSequence wd_36 wd_37 wd_38 wd_39 (by decide +kernel) ⟨⟨rfl, rfl⟩, ⟨(Nat.le_of_ble_eq_true rfl), (Nat.le_of_ble_eq_true rfl)⟩, ⟨(Nat.le_of_ble_eq_true rfl), (Nat.le_of_ble_eq_true rfl)⟩⟩ [0, 1, 2] [] rfl rfl (by decide) 0 rfl rfl rfl rfl (Nat.le_of_ble_eq_true rfl) (fun w_46 hw_46 => ?_)
          obtain ⟨V_46, hV_46, hV2_46, rfl⟩ := hw_46
          refine GG.wss (ws' := [(pk, .inr (0, [.ref po, .int (iI V_46.2), .int (iI bp_19), .int (iI bl_19)])), (po, aE cA 258 V_46.1), (q, aE cA 256 B)]) [0, 1, 2] (by decide) rfl ?_
          refine g_aload_n E dX0_pack_49 rfl 0 rfl ?_
          refine g_iload_n E dX0_pack_50 rfl 3 rfl ?_
          refine g_aload_n E dX0_pack_51 rfl 0 rfl ?_
          refine g_getfield E dX0_pack_52 0 2 rfl rfl (by decide) iX0 wd_22 rfl rfl ?_
          refine g_isub E dX0_pack_55 ?_
          refine g_aload_n E dX0_pack_56 rfl 0 rfl ?_
          refine g_getfield E dX0_pack_57 0 3 rfl rfl (by decide) iX0 wd_18 rfl rfl ?_
          refine g_iconst E dX0_pack_60 ?_
          refine g_isub E dX0_pack_61 ?_
          refine g_callVv (n := 2) (As := [.int (iI (i - bp_19)), .int (iI (bl_19 - 4))]) (rest := []) (wr := [(q, aE cA 256 B)]) E dX0_pack_62 (c_X0_putMatch l D cA pk po bp_19 bl_19 V_46 (i - bp_19) (bl_19 - 4) (by omega) (by omega) (by omega)) wd_code_X0_putMatch wd_44 wd_45 wd_46 wd_47 (by decide +kernel) ⟨⟨rfl, rfl⟩, ⟨(Nat.le_of_ble_eq_true rfl), (Nat.le_of_ble_eq_true rfl)⟩, ⟨(Nat.le_of_ble_eq_true rfl), (Nat.le_of_ble_eq_true rfl)⟩⟩ [0, 1] [2] rfl rfl (by decide) 0 rfl rfl rfl rfl (Nat.le_of_ble_eq_true rfl) (fun w_62 hw_62 => ?_)
          obtain ⟨V_62, hV_62, hV2_62, rfl⟩ := hw_62
          refine GG.wss (ws' := [(pk, .inr (0, [.ref po, .int (iI V_62.2), .int (iI bp_19), .int (iI bl_19)])), (po, aE cA 258 V_62.1), (q, aE cA 256 B)]) [1, 2, 0] (by decide) rfl ?_
          refine g_iload_n E dX0_pack_65 rfl 3 rfl ?_
          refine g_aload_n E dX0_pack_66 rfl 0 rfl ?_
          refine g_getfield E dX0_pack_67 0 3 rfl rfl (by decide) iX0 wd_18 rfl rfl ?_
          refine g_iadd E dX0_pack_70 ?_
          refine g_istore_n (lv' := [(3, .int (iI (i + bl_19))), (0, .ref pk), (1, .ref q), (2, .int (iI f))]) E dX0_pack_71 rfl (by decide) rfl ?_
          refine g_iload_n E dX0_pack_72 rfl 0 rfl ?_
          refine g_istore_n (lv' := [(2, .int (iI (i + bl_19))), (3, .int (iI (i + bl_19))), (0, .ref pk), (1, .ref q)]) E dX0_pack_73 rfl (by decide) rfl ?_
          refine g_goto (tgt := 9) E dX0_pack_74 (by decide) ?_
          refine GG.lvs (lv' := [(0, .ref pk), (1, .ref q), (2, .int (iI (i + bl_19))), (3, .int (iI (i + bl_19)))]) [2, 3, 0, 1] rfl ?_
          exact ih9 (i + bl_19) (i + bl_19) V_62 bp_19 bl_19 (by omega) (by omega) (by exact ⟨n0, by omega, by rw [hF, packF_mat (by omega) e1_19 (e2_19 (by omega)) (by omega), ← hV_46, ← hV_62]⟩) (by omega)
        · skip
          refine g_iinc (lv' := [(3, .int (iI (i + 1))), (0, .ref pk), (1, .ref q), (2, .int (iI f))]) E dX0_pack_30 3 rfl (by decide) rfl ?_
          refine g_goto (tgt := 9) E dX0_pack_33 (by decide) ?_
          refine GG.lvs (lv' := [(0, .ref pk), (1, .ref q), (2, .int (iI f)), (3, .int (iI (i + 1)))]) [1, 2, 3, 0] rfl ?_
          exact ih9 f (i + 1) U bp_19 bl_19 (by omega) (by omega) (by exact ⟨n0, by omega, by rw [hF, packF_lit (by omega) (by omega)]⟩) (by omega)
  refine GG.lvs (lv' := [(0, .ref pk), (1, .ref q), (2, .int (iI 0)), (3, .int (iI 0))]) [2, 3, 1, 0] rfl ?_
  exact L9 ((251 - 0 : Int).toNat + 1) 0 0 (PO, 0) pb pl (by omega) (by show 0 ≤ (0 : Int) ∧ (0 : Int) ≤ 0; omega) (by exact ⟨300, by omega, rfl⟩) (by omega)
