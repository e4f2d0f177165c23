-- THE STORE AS SLOTS IN AN ORDER, AND AS MARKS
def cz (Z : Int → Int) : Nat → Int
  | 0 => 0
  | k + 1 => if 0 < Z (k : Int) then cz Z k + 1 else cz Z k
def SI (cap n : Int) (S Z O : Int → Int) : Prop :=
  (0 ≤ n ∧ n ≤ 32) ∧ (∀ k, 0 ≤ k → k < n → 0 ≤ O k ∧ O k < 32 ∧ 1 ≤ Z (O k) ∧ Z (O k) ≤ 256 ∧ 0 ≤ S (O k) ∧ S (O k) + Z (O k) ≤ cap) ∧
  (∀ i k, 0 ≤ i → i < k → k < n → S (O i) + Z (O i) ≤ S (O k)) ∧ (∀ b, 0 ≤ b → b < 32 → (Z b = 0 ∧ S b = -1) ∨ ∃ k, 0 ≤ k ∧ k < n ∧ O k = b) ∧ n = cz Z 32
def LR (cap n : Int) (S Z O Mk : Int → Int) : Prop :=
  SI cap n S Z O ∧ (∀ j, 0 ≤ j → j < cap → ∀ b, 0 ≤ b → b < 32 → (Mk j = b + 1 ↔ S b ≤ j ∧ j < S b + Z b)) ∧ (∀ j, 0 ≤ Mk j ∧ Mk j ≤ 32) ∧ (∀ j, cap ≤ j → Mk j = 0)
def gs (S Z O : Int → Int) (k : Int) : Int := if k = 0 then 0 else S (O (k - 1)) + Z (O (k - 1))
def ge (cap n : Int) (S O : Int → Int) (k : Int) : Int := if k = n then cap else S (O k)
def gz (cap n : Int) (S Z O : Int → Int) (k : Int) : Int := ge cap n S O k - gs S Z O k
theorem gs_0 (S Z O : Int → Int) : gs S Z O 0 = 0 := if_pos rfl
theorem gs_s {S Z O : Int → Int} {k : Int} (h : 0 ≤ k) : gs S Z O (k + 1) = S (O k) + Z (O k) := by
  unfold gs; rw [if_neg (by omega), show k + 1 - 1 = k by omega]
theorem ge_lt {cap n : Int} {S O : Int → Int} {k : Int} (h : k < n) : ge cap n S O k = S (O k) := if_neg (by omega)
theorem ge_n {cap n : Int} {S O : Int → Int} : ge cap n S O n = cap := if_pos rfl
theorem SI.gap {cap n : Int} {S Z O : Int → Int} (h : SI cap n S Z O) (hc : 0 ≤ cap) {k : Int} (h0 : 0 ≤ k) (h1 : k ≤ n) : 0 ≤ gs S Z O k ∧ gs S Z O k ≤ ge cap n S O k ∧ ge cap n S O k ≤ cap := by
  obtain ⟨a, b, c, d, e⟩ := h
  by_cases q : k = 0
  · subst q
    rw [gs_0]
    by_cases w : (0 : Int) = n
    · rw [← w, ge_n]; omega
    · rw [ge_lt (by omega)]
      have := b 0 (by omega) (by omega)
      omega
  · obtain ⟨i, rfl⟩ : ∃ i, k = i + 1 := ⟨k - 1, by omega⟩
    rw [gs_s (by omega)]
    have hi := b i (by omega) (by omega)
    by_cases w : i + 1 = n
    · rw [← w, ge_n]; omega
    · rw [ge_lt (by omega)]
      have := b (i + 1) (by omega) (by omega)
      have := c i (i + 1) (by omega) (by omega) (by omega)
      omega
theorem LR.gap0 {cap n : Int} {S Z O Mk : Int → Int} (h : LR cap n S Z O Mk) {k j : Int} (h0 : 0 ≤ k) (h1 : k ≤ n) (hj : 0 ≤ j) (hj2 : j < cap) (g1 : gs S Z O k ≤ j) (g2 : j < ge cap n S O k) : Mk j = 0 := by
  obtain ⟨⟨a, b, c, d, e⟩, m1, m2, m3⟩ := h
  by_cases q : Mk j = 0
  · exact q
  exfalso
  have hm := m2 j
  have hb := (m1 j hj hj2 (Mk j - 1) (by omega) (by omega)).mp (by omega)
  rcases d (Mk j - 1) (by omega) (by omega) with w | ⟨i, i1, i2, i3⟩
  · omega
  · rw [← i3] at hb
    rcases Int.lt_trichotomy i k with w | w | w
    · obtain ⟨t, rfl⟩ : ∃ t, k = t + 1 := ⟨k - 1, by omega⟩
      rw [gs_s (by omega)] at g1
      by_cases w2 : i = t
      · subst w2; omega
      · have := c i t i1 (by omega) (by omega)
        have := b t (by omega) (by omega)
        omega
    · subst w
      rw [ge_lt (by omega)] at g2; omega
    · rw [ge_lt (by omega)] at g2
      have := c k i h0 w i2
      have := b k h0 (by omega)
      omega
theorem LR.slot1 {cap n : Int} {S Z O Mk : Int → Int} (h : LR cap n S Z O Mk) {k j : Int} (h0 : 0 ≤ k) (h1 : k < n) (g1 : S (O k) ≤ j) (g2 : j < S (O k) + Z (O k)) : Mk j = O k + 1 := by
  obtain ⟨⟨a, b, c, d, e⟩, m1, m2, m3⟩ := h
  have hb := b k h0 h1
  exact (m1 j (by omega) (by omega) (O k) (by omega) (by omega)).mpr ⟨g1, g2⟩
def sG (g : Int → Int) : Nat → Int
  | 0 => 0
  | k + 1 => sG g k + g (k : Int)
def mG (g : Int → Int) : Nat → Int
  | 0 => 0
  | k + 1 => max (mG g k) (g (k : Int))
def cG (g : Int → Int) : Nat → Int
  | 0 => 0
  | k + 1 => if 0 < g (k : Int) then cG g k + 1 else cG g k
theorem fre_gap {Mk : Int → Int} {a al lg rws : Int} (ha : 0 ≤ a) (hl : 0 ≤ lg) (h : fre Mk a.toNat = (al, lg, rws, 0)) : ∀ d : Nat, (∀ j, a ≤ j → j < a + (d : Int) → Mk j = 0) → fre Mk (a + (d : Int)).toNat = (al + (d : Int), max lg (d : Int), (if 0 < (d : Int) then rws + 1 else rws), (d : Int)) := by
  intro d
  induction d with
  | zero =>
    intro _
    rw [show a + ((0 : Nat) : Int) = a by omega, h, if_neg (by omega), show max lg ((0 : Nat) : Int) = lg by omega, show al + ((0 : Nat) : Int) = al by omega]
    rfl
  | succ d ih =>
    intro hz
    have h1 := ih (fun j x y => hz j x (by push_cast; omega))
    have h2 := fre_y (Mk := Mk) (k := a + (d : Int)) (by omega) h1 (hz _ (by omega) (by push_cast; omega))
    rw [show a + ((d + 1 : Nat) : Int) = a + (d : Int) + 1 by push_cast; omega, h2]
    push_cast
    congr 1
    · omega
    · congr 1
      · split <;> omega
      · congr 1
        · by_cases q : (d : Int) = 0
          · rw [if_pos (by omega), if_neg (by omega), if_pos (by omega)]
          · rw [if_neg (by omega), if_pos (by omega), if_pos (by omega)]
theorem fre_slot {Mk : Int → Int} {a al lg rws row : Int} (ha : 0 ≤ a) (h : fre Mk a.toNat = (al, lg, rws, row)) : ∀ d : Nat, 1 ≤ d → (∀ j, a ≤ j → j < a + (d : Int) → Mk j ≠ 0) → fre Mk (a + (d : Int)).toNat = (al, lg, rws, 0) := by
  intro d
  induction d with
  | zero => intro h1; omega
  | succ d ih =>
    intro _ hz
    by_cases q : d = 0
    · subst q
      have h2 := fre_n (Mk := Mk) (k := a) ha h (hz a (by omega) (by push_cast; omega))
      rw [show a + ((0 + 1 : Nat) : Int) = a + 1 by omega, h2]
    · have h1 := ih (by omega) (fun j x y => hz j x (by push_cast; omega))
      have h2 := fre_n (Mk := Mk) (k := a + (d : Int)) (by omega) h1 (hz _ (by omega) (by push_cast; omega))
      rw [show a + ((d + 1 : Nat) : Int) = a + (d : Int) + 1 by push_cast; omega, h2]
theorem mG_nn (g : Int → Int) : ∀ k, 0 ≤ mG g k := by
  intro k
  induction k with
  | zero => exact Int.le_refl 0
  | succ k ih => show 0 ≤ max (mG g k) _; omega
theorem LR.fre_at {cap n : Int} {S Z O Mk : Int → Int} (h : LR cap n S Z O Mk) (hc : 0 ≤ cap) : ∀ k : Nat, (k : Int) ≤ n → fre Mk (gs S Z O (k : Int)).toNat = (sG (gz cap n S Z O) k, mG (gz cap n S Z O) k, cG (gz cap n S Z O) k, 0) := by
  intro k
  induction k with
  | zero => intro _; show fre Mk (gs S Z O 0).toNat = _; rw [gs_0]; rfl
  | succ k ih =>
    intro hk
    push_cast at hk
    have h1 := ih (by omega)
    have g1 := h.1.gap hc (k := (k : Int)) (by omega) (by omega)
    have hb := h.1.2.1 (k : Int) (by omega) (by omega)
    have e1 : ge cap n S O (k : Int) = S (O (k : Int)) := ge_lt (by omega)
    rw [e1] at g1
    have eg : gz cap n S Z O (k : Int) = S (O (k : Int)) - gs S Z O (k : Int) := by unfold gz; rw [e1]
    have h2 := fre_gap (a := gs S Z O (k : Int)) g1.1 (mG_nn _ k) h1 (S (O (k : Int)) - gs S Z O (k : Int)).toNat (fun j x y => h.gap0 (k := (k : Int)) (by omega) (by omega) (by omega) (by omega) x (by rw [e1]; omega))
    rw [show gs S Z O (k : Int) + ((S (O (k : Int)) - gs S Z O (k : Int)).toNat : Int) = S (O (k : Int)) by omega, show (((S (O (k : Int)) - gs S Z O (k : Int)).toNat : Nat) : Int) = gz cap n S Z O (k : Int) by rw [eg]; omega] at h2
    have h3 := fre_slot (a := S (O (k : Int))) (by omega) h2 (Z (O (k : Int))).toNat (by omega) (fun j x y => by rw [h.slot1 (k := (k : Int)) (by omega) (by omega) x (by omega)]; omega)
    rw [show S (O (k : Int)) + ((Z (O (k : Int))).toNat : Int) = S (O (k : Int)) + Z (O (k : Int)) by omega] at h3
    push_cast
    rw [gs_s (by omega), h3]
    rfl
theorem LR.fre_all {cap n : Int} {S Z O Mk : Int → Int} (h : LR cap n S Z O Mk) (hc : 0 ≤ cap) : fre Mk cap.toNat = (sG (gz cap n S Z O) (n.toNat + 1), mG (gz cap n S Z O) (n.toNat + 1), cG (gz cap n S Z O) (n.toNat + 1), gz cap n S Z O n) := by
  have hn := h.1.1
  have hnn : ((n.toNat : Nat) : Int) = n := by omega
  have h1 := h.fre_at hc n.toNat (by omega)
  rw [hnn] at h1
  have g1 := h.1.gap hc (k := n) (by omega) (by omega)
  rw [ge_n] at g1
  have h2 := fre_gap (a := gs S Z O n) g1.1 (mG_nn _ _) h1 (cap - gs S Z O n).toNat (fun j x y => h.gap0 (k := n) (by omega) (by omega) (by omega) (by omega) x (by rw [ge_n]; omega))
  have eg : gz cap n S Z O n = cap - gs S Z O n := by unfold gz; rw [ge_n]
  rw [show gs S Z O n + ((cap - gs S Z O n).toNat : Int) = cap by omega, show (((cap - gs S Z O n).toNat : Nat) : Int) = gz cap n S Z O n by rw [eg]; omega] at h2
  rw [h2]
  show _ = (sG _ _ + gz cap n S Z O ((n.toNat : Nat) : Int), max (mG _ _) (gz cap n S Z O ((n.toNat : Nat) : Int)), (if 0 < gz cap n S Z O ((n.toNat : Nat) : Int) then _ else _), _)
  rw [hnn]
theorem LR.before {cap n : Int} {S Z O Mk : Int → Int} (h : LR cap n S Z O Mk) (hc : 0 ≤ cap) {b m : Int} (hb : 0 ≤ b ∧ b < 32) (hz : Z b = 0) (hm : 1 ≤ m) : ∀ k : Nat, (k : Int) ≤ n → (∀ i, 0 ≤ i → i < (k : Int) → gz cap n S Z O i < m) → ∀ q, 0 ≤ q → q < gs S Z O (k : Int) → ∃ j, q ≤ j ∧ j < q + m ∧ ¬ isF Mk b j := by
  intro k
  induction k with
  | zero => intro _ _ q q0 q1; exact absurd q1 (by show ¬ q < gs S Z O 0; rw [gs_0]; omega)
  | succ k ih =>
    intro hk hg q q0 q1
    push_cast at hk
    have g1 := h.1.gap hc (k := (k : Int)) (by omega) (by omega)
    have hbk := h.1.2.1 (k : Int) (by omega) (by omega)
    have hne : O (k : Int) ≠ b := fun e => by rw [e] at hbk; omega
    push_cast at q1
    rw [gs_s (by omega)] at q1
    rcases Int.lt_or_le q (gs S Z O (k : Int)) with w | w
    · exact ih (by omega) (fun i a c => hg i a (by push_cast; omega)) q q0 w
    · have hgk := hg (k : Int) (by omega) (by push_cast; omega)
      unfold gz at hgk
      rw [ge_lt (by omega)] at hgk g1
      rcases Int.lt_or_le q (S (O (k : Int))) with v | v
      · refine ⟨S (O (k : Int)), by omega, by omega, ?_⟩
        unfold isF
        rw [h.slot1 (k := (k : Int)) (j := S (O (k : Int))) (by omega) (by omega) (by omega) (by omega)]
        omega
      · refine ⟨q, by omega, by omega, ?_⟩
        unfold isF
        rw [h.slot1 (k := (k : Int)) (j := q) (by omega) (by omega) v q1]
        omega
theorem LR.room {cap n : Int} {S Z O Mk : Int → Int} (h : LR cap n S Z O Mk) (hc : 0 ≤ cap) {b m k : Int} (hb : 0 ≤ b ∧ b < 32) (hz : Z b = 0) (hm : 1 ≤ m) (k0 : 0 ≤ k) (k1 : k ≤ n) (hk : m ≤ gz cap n S Z O k) (hg : ∀ i, 0 ≤ i → i < k → gz cap n S Z O i < m) : roomAt Mk b cap m (gs S Z O k) := by
  have g1 := h.1.gap hc k0 k1
  unfold gz at hk
  refine ⟨g1.1, by omega, fun j x y => Or.inl (h.gap0 k0 k1 (by omega) (by omega) x (by omega)), ?_⟩
  have := h.before hc hb hz hm k.toNat (by omega) (fun i a c => hg i a (by omega))
  rw [show ((k.toNat : Nat) : Int) = k by omega] at this
  exact this
theorem LR.none {cap n : Int} {S Z O Mk : Int → Int} (h : LR cap n S Z O Mk) (hc : 0 ≤ cap) {b m : Int} (hb : 0 ≤ b ∧ b < 32) (hz : Z b = 0) (hm : 1 ≤ m) (hg : ∀ i, 0 ≤ i → i ≤ n → gz cap n S Z O i < m) : noRoom Mk b cap m := by
  intro q q0 q1
  have hn := h.1.1
  have h1 := h.before hc hb hz hm n.toNat (by omega) (fun i a c => hg i a (by omega))
  rw [show ((n.toNat : Nat) : Int) = n by omega] at h1
  have h2 := hg n (by omega) (by omega)
  unfold gz at h2
  rw [ge_n] at h2
  exact h1 q q0 (by omega)
theorem room_rel {ca : Int} {Mk : Int → Int} {b m x : Int} (hb : 0 ≤ b) (hm : 0 ≤ m) (h : roomAt (rel ca Mk b) b ca m x) : roomAt Mk b ca m x := by
  have key : ∀ j, 0 ≤ j → j < ca → (isF (rel ca Mk b) b j ↔ isF Mk b j) := by
    intro j a c
    unfold isF rel
    by_cases q : Mk j = b + 1
    · rw [if_pos ⟨a, c, q⟩]; exact ⟨fun _ => Or.inr q, fun _ => Or.inl rfl⟩
    · rw [if_neg (fun g => q g.2.2)]
  obtain ⟨h1, h2, h3, h4⟩ := h
  refine ⟨h1, h2, fun j a c => (key j (by omega) (by omega)).mp (h3 j a c), fun q a c => ?_⟩
  obtain ⟨j, j1, j2, j3⟩ := h4 q a c
  exact ⟨j, j1, j2, fun g => j3 ((key j (by omega) (by omega)).mpr g)⟩
theorem noRoom_rel {ca : Int} {Mk : Int → Int} {b m : Int} (hb : 0 ≤ b) (hm : 0 ≤ m) (h : noRoom (rel ca Mk b) b ca m) : noRoom Mk b ca m := by
  intro q a c
  obtain ⟨j, j1, j2, j3⟩ := h q a c
  refine ⟨j, j1, j2, fun g => j3 ?_⟩
  unfold isF rel at *
  by_cases w : Mk j = b + 1
  · rw [if_pos ⟨by omega, by omega, w⟩]; exact Or.inl rfl
  · rw [if_neg (fun g => w g.2.2)]; exact g
