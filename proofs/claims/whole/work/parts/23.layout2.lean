theorem cz_up {Z : Int → Int} {b v : Int} (hb : 0 ≤ b) : ∀ k : Nat, cz (up Z b v) k = cz Z k - (if b < (k : Int) ∧ 0 < Z b then 1 else 0) + (if b < (k : Int) ∧ 0 < v then 1 else 0) := by
  intro k
  induction k with
  | zero => rw [if_neg (by omega), if_neg (by omega)]; rfl
  | succ k ih =>
    rw [cz, cz, ih]
    push_cast
    by_cases q : b = (k : Int)
    · subst q
      rw [up_s, if_neg (show ¬ ((k : Int) < (k : Int) ∧ 0 < Z (k : Int)) by omega), if_neg (show ¬ ((k : Int) < (k : Int) ∧ 0 < v) by omega)]
      by_cases w : 0 < v
      · rw [if_pos w, if_pos (show (k : Int) < (k : Int) + 1 ∧ 0 < v by omega)]
        by_cases u : 0 < Z (k : Int)
        · rw [if_pos u, if_pos (show (k : Int) < (k : Int) + 1 ∧ 0 < Z (k : Int) by omega)]; omega
        · rw [if_neg u, if_neg (show ¬ ((k : Int) < (k : Int) + 1 ∧ 0 < Z (k : Int)) by omega)]; omega
      · rw [if_neg w, if_neg (show ¬ ((k : Int) < (k : Int) + 1 ∧ 0 < v) by omega)]
        by_cases u : 0 < Z (k : Int)
        · rw [if_pos u, if_pos (show (k : Int) < (k : Int) + 1 ∧ 0 < Z (k : Int) by omega)]; omega
        · rw [if_neg u, if_neg (show ¬ ((k : Int) < (k : Int) + 1 ∧ 0 < Z (k : Int)) by omega)]; try omega
    · rw [up_n (fun g => q g.symm)]
      have e1 : (if b < (k : Int) + 1 ∧ 0 < Z b then (1 : Int) else 0) = (if b < (k : Int) ∧ 0 < Z b then 1 else 0) := by
        by_cases u : b < (k : Int) ∧ 0 < Z b
        · rw [if_pos u, if_pos (by omega)]
        · rw [if_neg u, if_neg (by omega)]
      have e2 : (if b < (k : Int) + 1 ∧ 0 < v then (1 : Int) else 0) = (if b < (k : Int) ∧ 0 < v then 1 else 0) := by
        by_cases u : b < (k : Int) ∧ 0 < v
        · rw [if_pos u, if_pos (by omega)]
        · rw [if_neg u, if_neg (by omega)]
      rw [e1, e2]
      split <;> omega
theorem cz_le (Z : Int → Int) : ∀ k : Nat, 0 ≤ cz Z k ∧ cz Z k ≤ (k : Int) := by
  intro k
  induction k with
  | zero => exact ⟨Int.le_refl 0, Int.le_refl 0⟩
  | succ k ih => rw [cz]; push_cast; split <;> omega
theorem cz_room {Z : Int → Int} {b : Int} (hb : 0 ≤ b ∧ b < 32) (hz : Z b = 0) : cz Z 32 ≤ 31 := by
  have h := cz_up (Z := Z) (b := b) (v := 1) hb.1 32
  have h2 := (cz_le (up Z b 1) 32).2
  rw [if_neg (show ¬ (b < ((32 : Nat) : Int) ∧ 0 < Z b) by omega), if_pos (show b < ((32 : Nat) : Int) ∧ (0 : Int) < 1 by omega)] at h
  omega
theorem SI.inj {cap n : Int} {S Z O : Int → Int} (h : SI cap n S Z O) {i k : Int} (i0 : 0 ≤ i) (i1 : i < n) (k0 : 0 ≤ k) (k1 : k < n) (e : O i = O k) : i = k := by
  obtain ⟨a, b, c, d, f⟩ := h
  have h1 := b i i0 i1
  rcases Int.lt_trichotomy i k with w | w | w
  · have := c i k i0 w k1; rw [e] at this h1; omega
  · exact w
  · have := c k i k0 w i1; rw [e] at this h1; omega
def shl (O : Int → Int) (k0 m : Int) : Int → Int := fun j => if k0 ≤ j ∧ j < m then O (j + 1) else O j
def ins (O : Int → Int) (g n b : Int) : Int → Int := fun j => if j = g then b else if g < j ∧ j ≤ n then O (j - 1) else O j
theorem LR.rel_id {cap n : Int} {S Z O Mk : Int → Int} (h : LR cap n S Z O Mk) {b : Int} (hb : 0 ≤ b ∧ b < 32) (hz : Z b = 0) : rel cap Mk b = Mk := by
  funext j
  unfold rel
  by_cases q : 0 ≤ j ∧ j < cap ∧ Mk j = b + 1
  · have := (h.2.1 j q.1 q.2.1 b hb.1 hb.2).mp q.2.2
    omega
  · rw [if_neg q]
theorem LR.release {cap n : Int} {S Z O Mk : Int → Int} (h : LR cap n S Z O Mk) {b k0 : Int} (hb : 0 ≤ b ∧ b < 32) (k1 : 0 ≤ k0) (k2 : k0 < n) (e : O k0 = b) : LR cap (n - 1) (up S b (-1)) (up Z b 0) (shl O k0 (n - 1)) (rel cap Mk b) := by
  obtain ⟨hSI, m1, m2, m3⟩ := id h
  obtain ⟨a1, a2, a3, a4, a5⟩ := id hSI
  have hix : ∀ k, 0 ≤ k → k < n - 1 → ∃ i, 0 ≤ i ∧ i < n ∧ shl O k0 (n - 1) k = O i ∧ O i ≠ b ∧ ((k < k0 ∧ i = k) ∨ (k0 ≤ k ∧ i = k + 1)) := by
    intro k x y
    by_cases q : k0 ≤ k
    · refine ⟨k + 1, by omega, by omega, by unfold shl; rw [if_pos ⟨q, y⟩], fun g => ?_, Or.inr ⟨q, rfl⟩⟩
      have := hSI.inj (by omega) (by omega) k1 k2 (g.trans e.symm); omega
    · refine ⟨k, x, by omega, by unfold shl; rw [if_neg (by omega)], fun g => ?_, Or.inl ⟨by omega, rfl⟩⟩
      have := hSI.inj (by omega) (by omega) k1 k2 (g.trans e.symm); omega
  refine ⟨⟨by omega, fun k x y => ?_, fun i k x y z => ?_, fun b' x y => ?_, ?_⟩, fun j x y b' u v => ?_, fun j => ?_, fun j x => ?_⟩
  · obtain ⟨i, i1, i2, i3, i4, i5⟩ := hix k x y
    rw [i3, up_n i4, up_n i4]
    exact a2 i i1 i2
  · obtain ⟨i', i1, i2, i3, i4, i5⟩ := hix i x (by omega)
    obtain ⟨k', j1, j2, j3, j4, j5⟩ := hix k (by omega) z
    rw [i3, j3, up_n i4, up_n i4, up_n j4]
    exact a3 i' k' i1 (by omega) j2
  · by_cases q : b' = b
    · subst q; exact Or.inl ⟨up_s, up_s⟩
    · rw [up_n q, up_n q]
      rcases a4 b' x y with w | ⟨k, w1, w2, w3⟩
      · exact Or.inl w
      · refine Or.inr ?_
        by_cases r : k < k0
        · exact ⟨k, w1, by omega, by unfold shl; rw [if_neg (by omega)]; exact w3⟩
        · have : k ≠ k0 := fun g => q (by rw [← w3, g, e])
          exact ⟨k - 1, by omega, by omega, by unfold shl; rw [if_pos (by omega), show k - 1 + 1 = k by omega]; exact w3⟩
  · have hz := a2 k0 k1 k2
    rw [e] at hz
    rw [cz_up hb.1, if_pos (show b < ((32 : Nat) : Int) ∧ 0 < Z b by omega), if_neg (by omega), ← a5]; omega
  · by_cases q : b' = b
    · subst q
      rw [up_s, up_s]
      have : rel cap Mk b' j ≠ b' + 1 := by
        unfold rel
        by_cases w : 0 ≤ j ∧ j < cap ∧ Mk j = b' + 1
        · rw [if_pos w]; omega
        · rw [if_neg w]; intro g; exact w ⟨x, y, g⟩
      exact ⟨fun g => absurd g this, fun g => by omega⟩
    · rw [up_n q, up_n q, ← m1 j x y b' u v]
      unfold rel
      by_cases w : 0 ≤ j ∧ j < cap ∧ Mk j = b + 1
      · rw [if_pos w]; exact ⟨fun g => by omega, fun g => by omega⟩
      · rw [if_neg w]
  · unfold rel
    have := m2 j
    split <;> omega
  · unfold rel
    rw [if_neg (by omega)]; exact m3 j x
theorem SI.end_le {cap n : Int} {S Z O : Int → Int} (h : SI cap n S Z O) {i g : Int} (i0 : 0 ≤ i) (i1 : i < g) (g1 : g ≤ n) : S (O i) + Z (O i) ≤ gs S Z O g := by
  obtain ⟨t, rfl⟩ : ∃ t, g = t + 1 := ⟨g - 1, by omega⟩
  rw [gs_s (by omega)]
  by_cases q : i = t
  · subst q; omega
  · have := h.2.2.1 i t i0 (by omega) (by omega)
    have := h.2.1 t (by omega) (by omega)
    omega
theorem LR.insert {cap n : Int} {S Z O Mk : Int → Int} (h : LR cap n S Z O Mk) (hc : 0 ≤ cap) {b g m : Int} (hb : 0 ≤ b ∧ b < 32) (hz : Z b = 0) (g0 : 0 ≤ g) (g1 : g ≤ n) (hm : 1 ≤ m ∧ m ≤ 256) (hg : m ≤ gz cap n S Z O g) : LR cap (n + 1) (up S b (gs S Z O g)) (up Z b m) (ins O g n b) (rnf Mk (gs S Z O g) m (b + 1)) := by
  obtain ⟨hSI, m1, m2, m3⟩ := id h
  obtain ⟨a1, a2, a3, a4, a5⟩ := id hSI
  have hgap := hSI.gap hc g0 g1
  unfold gz at hg
  have hcr := cz_room hb hz
  have hne : ∀ i, 0 ≤ i → i < n → O i ≠ b := fun i x y e => by
    have := a2 i x y; rw [e] at this; omega
  have hix : ∀ k, 0 ≤ k → k < n + 1 → k ≠ g → ∃ i, 0 ≤ i ∧ i < n ∧ ins O g n b k = O i ∧ ((k < g ∧ i = k) ∨ (g < k ∧ i = k - 1)) := by
    intro k x y q
    by_cases w : k < g
    · exact ⟨k, x, by omega, by unfold ins; rw [if_neg q, if_neg (by omega)], Or.inl ⟨w, rfl⟩⟩
    · exact ⟨k - 1, by omega, by omega, by unfold ins; rw [if_neg q, if_pos (by omega)], Or.inr ⟨by omega, rfl⟩⟩
  have hig : ins O g n b g = b := by unfold ins; rw [if_pos rfl]
  refine ⟨⟨by omega, fun k x y => ?_, fun i k x y z => ?_, fun b' x y => ?_, ?_⟩, fun j x y b' u v => ?_, fun j => ?_, fun j x => ?_⟩
  · by_cases q : k = g
    · subst q; rw [hig, up_s, up_s]; omega
    · obtain ⟨i, i1, i2, i3, i5⟩ := hix k x y q
      rw [i3, up_n (hne i i1 i2), up_n (hne i i1 i2)]
      exact a2 i i1 i2
  · by_cases q : i = g
    · subst q
      obtain ⟨k', j1, j2, j3, j5⟩ := hix k (by omega) z (by omega)
      rw [hig, j3, up_s, up_s, up_n (hne k' j1 j2)]
      rw [ge_lt (by omega)] at hg hgap
      by_cases w : k' = i
      · subst w; omega
      · have := a3 i k' g0 (by omega) j2
        have := a2 i g0 (by omega)
        omega
    · obtain ⟨i', i1, i2, i3, i5⟩ := hix i x (by omega) q
      rw [i3, up_n (hne i' i1 i2), up_n (hne i' i1 i2)]
      by_cases w : k = g
      · subst w
        rw [hig, up_s]
        exact hSI.end_le i1 (by omega) g1
      · obtain ⟨k', j1, j2, j3, j5⟩ := hix k (by omega) z w
        rw [j3, up_n (hne k' j1 j2)]
        exact a3 i' k' i1 (by omega) j2
  · by_cases q : b' = b
    · subst q; exact Or.inr ⟨g, g0, by omega, hig⟩
    · rw [up_n q, up_n q]
      rcases a4 b' x y with w | ⟨k, w1, w2, w3⟩
      · exact Or.inl w
      · refine Or.inr ?_
        by_cases r : k < g
        · exact ⟨k, w1, by omega, by unfold ins; rw [if_neg (by omega), if_neg (by omega)]; exact w3⟩
        · exact ⟨k + 1, by omega, by omega, by unfold ins; rw [if_neg (by omega), if_pos (by omega), show k + 1 - 1 = k by omega]; exact w3⟩
  · rw [cz_up hb.1, if_neg (by omega), if_pos (show b < ((32 : Nat) : Int) ∧ 0 < m by omega), ← a5]; omega
  · unfold rnf
    by_cases w : gs S Z O g ≤ j ∧ j < gs S Z O g + m
    · rw [if_pos w]
      by_cases q : b' = b
      · subst q; rw [up_s, up_s]; exact ⟨fun _ => w, fun _ => rfl⟩
      · rw [up_n q, up_n q]
        have h0 := h.gap0 g0 g1 x y w.1 (by omega)
        have := m1 j x y b' u v
        exact ⟨fun g' => by omega, fun g' => by have := this.mpr g'; omega⟩
    · rw [if_neg w]
      by_cases q : b' = b
      · subst q
        rw [up_s, up_s]
        have := m1 j x y b' u v
        exact ⟨fun g' => by have := this.mp g'; omega, fun g' => absurd g' w⟩
      · rw [up_n q, up_n q]; exact m1 j x y b' u v
  · unfold rnf
    have := m2 j
    split <;> omega
  · unfold rnf
    rw [if_neg (by omega)]; exact m3 j x
-- putting together
theorem tg_gapL {St Mk A B : Int → Int} {a t v : Int} (ha : 0 ≤ a) (h : tg St Mk a.toNat = (A, B, t, v)) : ∀ d : Nat, (∀ j, a ≤ j → j < a + (d : Int) → Mk j = 0) → tg St Mk (a + (d : Int)).toNat = (A, B, t, v) := by
  intro d
  induction d with
  | zero => intro _; rw [show a + ((0 : Nat) : Int) = a by omega]; exact h
  | succ d ih =>
    intro hz
    have h1 := ih (fun j x y => hz j x (by push_cast; omega))
    have hi := (tg_inv St Mk (a + (d : Int)).toNat).2.2.2.1 (a + (d : Int)) (by omega)
    rw [h1] at hi
    have h2 := tg_z (k := a + (d : Int)) (by omega) h1 (by rw [show B (a + (d : Int)) = Mk (a + (d : Int)) from hi]; exact hz _ (by omega) (by push_cast; omega))
    rw [show a + ((d + 1 : Nat) : Int) = a + (d : Int) + 1 by push_cast; omega]
    exact h2
theorem tg_slotE {St Mk A B : Int → Int} {a v : Int} (ha : 0 ≤ a) (h : tg St Mk a.toNat = (A, B, a, v)) : ∀ d : Nat, (∀ j, a ≤ j → j < a + (d : Int) → Mk j ≠ 0) → tg St Mk (a + (d : Int)).toNat = (A, B, a + (d : Int), v) := by
  intro d
  induction d with
  | zero => intro _; rw [show a + ((0 : Nat) : Int) = a by omega]; exact h
  | succ d ih =>
    intro hz
    have h1 := ih (fun j x y => hz j x (by push_cast; omega))
    have hi := (tg_inv St Mk (a + (d : Int)).toNat).2.2.2.1 (a + (d : Int)) (by omega)
    rw [h1] at hi
    have h2 := tg_e (k := a + (d : Int)) (by omega) h1 (by rw [show B (a + (d : Int)) = Mk (a + (d : Int)) from hi]; exact hz _ (by omega) (by push_cast; omega)) rfl
    rw [show a + ((d + 1 : Nat) : Int) = a + (d : Int) + 1 by push_cast; omega]
    exact h2
def mvB (B : Int → Int) (a t d w : Int) : Int → Int := fun j => if t ≤ j ∧ j < t + d then w else if a ≤ j ∧ j < a + d then 0 else B j
theorem tg_slotM {St Mk A B : Int → Int} {a t v w : Int} (ha : 0 ≤ a) (ht : 0 ≤ t) (hta : t < a) (hw : w ≠ 0) (h : tg St Mk a.toNat = (A, B, t, v)) : ∀ d : Nat, (∀ j, a ≤ j → j < a + (d : Int) → Mk j = w) → tg St Mk (a + (d : Int)).toNat = (cp A A a t (d : Int), mvB B a t (d : Int) w, t + (d : Int), v + (d : Int)) := by
  have hB : ∀ j, a ≤ j → B j = Mk j := fun j x => by
    have hi := (tg_inv St Mk a.toNat).2.2.2.1 j (by omega)
    rw [h] at hi; exact hi
  intro d
  induction d with
  | zero =>
    intro _
    rw [show a + ((0 : Nat) : Int) = a by omega, h]
    show _ = (cp A A a t 0, mvB B a t 0 w, t + 0, v + 0)
    rw [cp_0, Int.add_zero, Int.add_zero]
    congr 2
    funext j
    unfold mvB
    rw [if_neg (by omega), if_neg (by omega)]
  | succ d ih =>
    intro hz
    have h1 := ih (fun j x y => hz j x (by push_cast; omega))
    have e1 : mvB B a t (d : Int) w (a + (d : Int)) = w := by
      unfold mvB
      rw [if_neg (by omega), if_neg (by omega), hB _ (by omega)]; exact hz _ (by omega) (by push_cast; omega)
    have e2 : cp A A a t (d : Int) (a + (d : Int)) = A (a + (d : Int)) := by
      unfold cp; rw [if_neg (by omega)]
    have h2 := tg_m (k := a + (d : Int)) (by omega) h1 (by rw [e1]; exact hw) (by omega)
    rw [show a + ((d + 1 : Nat) : Int) = a + (d : Int) + 1 by push_cast; omega, h2, e1, e2, cp_s (f := A) (g := A) (by omega) rfl rfl]
    push_cast
    rw [show t + (d : Int) + 1 = t + ((d : Int) + 1) by omega, show v + (d : Int) + 1 = v + ((d : Int) + 1) by omega]
    congr 2
    funext j
    unfold up mvB
    by_cases q1 : j = a + (d : Int)
    · rw [if_pos q1, if_neg (show ¬ (t ≤ j ∧ j < t + ((d : Int) + 1)) by omega), if_pos (show a ≤ j ∧ j < a + ((d : Int) + 1) by omega)]
    · rw [if_neg q1]
      by_cases q2 : j = t + (d : Int)
      · rw [if_pos q2, if_pos (show t ≤ j ∧ j < t + ((d : Int) + 1) by omega)]
      · rw [if_neg q2]
        by_cases q3 : t ≤ j ∧ j < t + (d : Int)
        · rw [if_pos q3, if_pos (show t ≤ j ∧ j < t + ((d : Int) + 1) by omega)]
        · rw [if_neg q3, if_neg (show ¬ (t ≤ j ∧ j < t + ((d : Int) + 1)) by omega)]
          by_cases q4 : a ≤ j ∧ j < a + (d : Int)
          · rw [if_pos q4, if_pos (show a ≤ j ∧ j < a + ((d : Int) + 1) by omega)]
          · rw [if_neg q4, if_neg (show ¬ (a ≤ j ∧ j < a + ((d : Int) + 1)) by omega)]
