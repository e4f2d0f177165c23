def tgc (Z O St S : Int → Int) : Nat → (Int → Int) × (Int → Int) × Int × Int
  | 0 => (St, S, 0, 0)
  | k + 1 => if (tgc Z O St S k).2.1 (O (k : Int)) = (tgc Z O St S k).2.2.1 then ((tgc Z O St S k).1, (tgc Z O St S k).2.1, (tgc Z O St S k).2.2.1 + Z (O (k : Int)), (tgc Z O St S k).2.2.2)
    else (cp (tgc Z O St S k).1 (tgc Z O St S k).1 ((tgc Z O St S k).2.1 (O (k : Int))) (tgc Z O St S k).2.2.1 (Z (O (k : Int))), up (tgc Z O St S k).2.1 (O (k : Int)) (tgc Z O St S k).2.2.1, (tgc Z O St S k).2.2.1 + Z (O (k : Int)), (tgc Z O St S k).2.2.2 + Z (O (k : Int)))
theorem tgc_e {Z O St S A P : Int → Int} {k t v : Int} (hk : 0 ≤ k) (h : tgc Z O St S k.toNat = (A, P, t, v)) (h0 : P (O k) = t) : tgc Z O St S (k + 1).toNat = (A, P, t + Z (O k), v) := by
  rw [show (k + 1).toNat = k.toNat + 1 by omega, tgc, show ((k.toNat : Nat) : Int) = k by omega, h, if_pos h0]
theorem tgc_m {Z O St S A P : Int → Int} {k t v : Int} (hk : 0 ≤ k) (h : tgc Z O St S k.toNat = (A, P, t, v)) (h0 : P (O k) ≠ t) : tgc Z O St S (k + 1).toNat = (cp A A (P (O k)) t (Z (O k)), up P (O k) t, t + Z (O k), v + Z (O k)) := by
  rw [show (k + 1).toNat = k.toNat + 1 by omega, tgc, show ((k.toNat : Nat) : Int) = k by omega, h, if_neg h0]
def TI (n : Int) (Z O S : Int → Int) (k : Int) (P : Int → Int) (t v : Int) : Prop :=
  0 ≤ t ∧ t ≤ gs S Z O k ∧ t = gs P Z O k ∧ (∀ i, k ≤ i → i < n → P (O i) = S (O i)) ∧ (∀ i, 0 ≤ i → i < k → 0 ≤ P (O i) ∧ P (O i) + Z (O i) ≤ t) ∧ (∀ i j, 0 ≤ i → i < j → j < k → P (O i) + Z (O i) ≤ P (O j)) ∧ (∀ b, (∀ i, 0 ≤ i → i < n → O i ≠ b) → P b = S b) ∧ (∀ j, 0 ≤ j → j < t → ∃ i, 0 ≤ i ∧ i < k ∧ P (O i) ≤ j ∧ j < P (O i) + Z (O i)) ∧ 0 ≤ v ∧ v ≤ t
theorem TI_0 {n : Int} {Z O S : Int → Int} : TI n Z O S 0 S 0 0 := by
  refine ⟨Int.le_refl 0, by rw [gs_0]; omega, by rw [gs_0], fun i _ _ => rfl, fun i x y => by omega, fun i j x y z => by omega, fun b _ => rfl, fun j x y => by omega, Int.le_refl 0, Int.le_refl 0⟩
theorem TI_s {cap n : Int} {Z O S P P' : Int → Int} {k t v v' : Int} (h : SI cap n S Z O) (hc : 0 ≤ cap) (k0 : 0 ≤ k) (k1 : k < n) (hT : TI n Z O S k P t v) (hP : P' = up P (O k) t) (hv : 0 ≤ v' ∧ v' ≤ v + Z (O k)) : TI n Z O S (k + 1) P' (t + Z (O k)) v' ∧ t ≤ S (O k) ∧ P (O k) = S (O k) := by
  obtain ⟨t1, t2, t3, t4, t5, t6, t7, t8, t9, t10⟩ := hT
  subst hP
  have hb := h.2.1 k k0 k1
  have hg := h.gap hc k0 (by omega)
  rw [ge_lt k1] at hg
  have hinj : ∀ i, 0 ≤ i → i < n → i ≠ k → O i ≠ O k := fun i x y q e => q (h.inj x y k0 k1 e)
  refine ⟨⟨by omega, by rw [gs_s k0]; omega, by rw [gs_s k0, up_s], fun i x y => ?_, fun i x y => ?_, fun i j x y z => ?_, fun b hb' => ?_, fun j x y => ?_, hv.1, by omega⟩, by omega, t4 k (Int.le_refl k) k1⟩
  · rw [up_n (hinj i (by omega) y (by omega))]; exact t4 i (by omega) y
  · by_cases q : i = k
    · subst q; rw [up_s]; omega
    · rw [up_n (hinj i x (by omega) q)]
      have := t5 i x (by omega)
      omega
  · rw [up_n (hinj i x (by omega) (by omega))]
    by_cases q : j = k
    · subst q; rw [up_s]; exact (t5 i x (by omega)).2
    · rw [up_n (hinj j (by omega) (by omega) q)]; exact t6 i j x y (by omega)
  · rw [up_n (fun e => hb' k k0 k1 e.symm)]; exact t7 b hb'
  · by_cases q : j < t
    · obtain ⟨i, i1, i2, i3, i4⟩ := t8 j x q
      refine ⟨i, i1, by omega, ?_⟩
      rw [up_n (hinj i i1 (by omega) (by omega))]
      exact ⟨i3, i4⟩
    · refine ⟨k, k0, by omega, ?_⟩
      rw [up_s]; omega
theorem up_self {P : Int → Int} {z v : Int} (h : P z = v) : up P z v = P := by
  funext j; unfold up
  by_cases q : j = z
  · rw [if_pos q, q, h]
  · rw [if_neg q]
theorem tgc_TI {cap n : Int} {Z O St S : Int → Int} (h : SI cap n S Z O) (hc : 0 ≤ cap) : ∀ k : Nat, (k : Int) ≤ n → TI n Z O S (k : Int) (tgc Z O St S k).2.1 (tgc Z O St S k).2.2.1 (tgc Z O St S k).2.2.2 := by
  intro k
  induction k with
  | zero => intro _; exact TI_0
  | succ k ih =>
    intro hk
    push_cast at hk
    have h1 := ih (by omega)
    rcases hp : tgc Z O St S k with ⟨A, P, t, v⟩
    rw [hp] at h1
    dsimp only at h1
    have hp' : tgc Z O St S ((k : Int)).toNat = (A, P, t, v) := by rw [show ((k : Int)).toNat = k by omega]; exact hp
    have hz := h.2.1 (k : Int) (by omega) (by omega)
    have hv : 0 ≤ v ∧ v ≤ t := ⟨h1.2.2.2.2.2.2.2.2.1, h1.2.2.2.2.2.2.2.2.2⟩
    by_cases q : P (O (k : Int)) = t
    · have e := tgc_e (k := (k : Int)) (by omega) hp' q
      rw [show ((k : Int) + 1).toNat = k + 1 by omega] at e
      rw [e]
      push_cast
      exact (TI_s h hc (by omega) (by omega) h1 (up_self q).symm (by omega)).1
    · have e := tgc_m (k := (k : Int)) (by omega) hp' q
      rw [show ((k : Int) + 1).toNat = k + 1 by omega] at e
      rw [e]
      push_cast
      exact (TI_s h hc (by omega) (by omega) h1 rfl (by omega)).1
theorem tgc_tg {cap n : Int} {S Z O Mk : Int → Int} (h : LR cap n S Z O Mk) (hc : 0 ≤ cap) (St : Int → Int) : ∀ k : Nat, (k : Int) ≤ n → ∃ B : Int → Int, tg St Mk (gs S Z O (k : Int)).toNat = ((tgc Z O St S k).1, B, (tgc Z O St S k).2.2.1, (tgc Z O St S k).2.2.2) ∧ ∀ i, 0 ≤ i → i < (k : Int) → ∀ j, (tgc Z O St S k).2.1 (O i) ≤ j → j < (tgc Z O St S k).2.1 (O i) + Z (O i) → B j = O i + 1 := by
  intro k
  induction k with
  | zero => intro _; exact ⟨Mk, by show tg St Mk (gs S Z O 0).toNat = _; rw [gs_0]; rfl, fun i x y => by omega⟩
  | succ k ih =>
    intro hk
    push_cast at hk
    obtain ⟨B, hB1, hB2⟩ := ih (by omega)
    have hT := tgc_TI (St := St) h.1 hc k (by omega)
    rcases hp : tgc Z O St S k with ⟨A, P, t, v⟩
    rw [hp] at hB1 hB2 hT
    dsimp only at hB1 hB2 hT
    have hp' : tgc Z O St S ((k : Int)).toNat = (A, P, t, v) := by rw [show ((k : Int)).toNat = k by omega]; exact hp
    have hz := h.1.2.1 (k : Int) (by omega) (by omega)
    have hg := h.1.gap hc (k := (k : Int)) (by omega) (by omega)
    have hv : 0 ≤ v ∧ v ≤ t := ⟨hT.2.2.2.2.2.2.2.2.1, hT.2.2.2.2.2.2.2.2.2⟩
    obtain ⟨hT2, hts, hPs⟩ := TI_s (v' := v) h.1 hc (by omega) (by omega) hT rfl (by omega)
    have e1 : ge cap n S O (k : Int) = S (O (k : Int)) := ge_lt (by omega)
    have h1 := tg_gapL (a := gs S Z O (k : Int)) hg.1 hB1 (S (O (k : Int)) - gs S Z O (k : Int)).toNat (fun j x y => h.gap0 (k := (k : Int)) (by omega) (by omega) (by omega) (by omega) x (by rw [e1]; omega))
    rw [e1] at hg
    rw [show gs S Z O (k : Int) + (((S (O (k : Int)) - gs S Z O (k : Int)).toNat : Nat) : Int) = S (O (k : Int)) by omega] at h1
    have hinj : ∀ i, 0 ≤ i → i < n → i ≠ (k : Int) → O i ≠ O (k : Int) := fun i x y q e => q (h.1.inj x y (by omega) (by omega) e)
    have hzz : (((Z (O (k : Int))).toNat : Nat) : Int) = Z (O (k : Int)) := by omega
    by_cases q : P (O (k : Int)) = t
    · have e := tgc_e (k := (k : Int)) (by omega) hp' q
      rw [show ((k : Int) + 1).toNat = k + 1 by omega] at e
      rw [e]
      push_cast
      rw [gs_s (by omega)]
      have ht : t = S (O (k : Int)) := by omega
      rw [ht] at h1
      have h2 := tg_slotE (a := S (O (k : Int))) (by omega) h1 (Z (O (k : Int))).toNat (fun j x y => by rw [h.slot1 (k := (k : Int)) (by omega) (by omega) x (by omega)]; omega)
      rw [hzz] at h2
      refine ⟨B, by rw [h2, ht], fun i x y j u w => ?_⟩
      by_cases q2 : i = (k : Int)
      · subst q2
        try dsimp only at u w
        have hi := (tg_inv St Mk (S (O (k : Int))).toNat).2.2.2.1 j (by omega)
        rw [h1] at hi
        rw [show B j = Mk j from hi]
        exact h.slot1 (k := (k : Int)) (by omega) (by omega) (by omega) (by omega)
      · exact hB2 i x (by omega) j u w
    · have e := tgc_m (k := (k : Int)) (by omega) hp' q
      rw [show ((k : Int) + 1).toNat = k + 1 by omega] at e
      rw [e]
      push_cast
      rw [gs_s (by omega)]
      have h2 := tg_slotM (a := S (O (k : Int))) (w := O (k : Int) + 1) (by omega) hT.1 (by omega) (by omega) h1 (Z (O (k : Int))).toNat (fun j x y => h.slot1 (k := (k : Int)) (by omega) (by omega) x (by omega))
      rw [hzz] at h2
      refine ⟨_, by rw [h2, hPs], fun i x y j u w => ?_⟩
      try dsimp only at u w
      unfold mvB
      by_cases q2 : i = (k : Int)
      · subst q2
        rw [up_s] at u w
        rw [if_pos ⟨u, w⟩]
      · rw [up_n (hinj i x (by omega) q2)] at u w
        have := (hT.2.2.2.2.1 i x (by omega))
        rw [if_neg (by omega), if_neg (by omega)]
        exact hB2 i x (by omega) j u w
theorem tg_neg (St Mk : Int → Int) : ∀ k : Nat, ∀ j, j < 0 → (tg St Mk k).2.1 j = Mk j := by
  intro k
  induction k with
  | zero => intro j _; rfl
  | succ k ih =>
    intro j hj
    have hi := (tg_inv St Mk k).1
    have h1 := ih j hj
    rw [tg]
    split
    · exact h1
    · split
      · exact h1
      · show up (up _ _ _) _ 0 j = Mk j
        rw [up_n (by omega), up_n (by omega)]; exact h1
theorem LR.together {cap n : Int} {S Z O Mk : Int → Int} (h : LR cap n S Z O Mk) (hc : 0 ≤ cap) (St : Int → Int) : LR cap n (tgc Z O St S n.toNat).2.1 Z O (tg St Mk cap.toNat).2.1 ∧ (tg St Mk cap.toNat).1 = (tgc Z O St S n.toNat).1 ∧ (tg St Mk cap.toNat).2.2.1 = gs (tgc Z O St S n.toNat).2.1 Z O n ∧ (tg St Mk cap.toNat).2.2.2 = (tgc Z O St S n.toNat).2.2.2 := by
  have hn := h.1.1
  have hnn : ((n.toNat : Nat) : Int) = n := by omega
  obtain ⟨B, hB1, hB2⟩ := tgc_tg h hc St n.toNat (by omega)
  have hT := tgc_TI (St := St) h.1 hc n.toNat (by omega)
  rcases hp : tgc Z O St S n.toNat with ⟨A, P, t, v⟩
  rw [hp, hnn] at hB1 hB2 hT
  dsimp only at hB1 hB2 hT
  have hg := h.1.gap hc (k := n) (by omega) (by omega)
  rw [ge_n] at hg
  have h1 := tg_gapL (a := gs S Z O n) hg.1 hB1 (cap - gs S Z O n).toNat (fun j x y => h.gap0 (k := n) (by omega) (by omega) (by omega) (by omega) x (by rw [ge_n]; omega))
  rw [show gs S Z O n + (((cap - gs S Z O n).toNat : Nat) : Int) = cap by omega] at h1
  have hi := tg_inv St Mk cap.toNat
  rw [h1] at hi ⊢
  dsimp only at hi ⊢
  obtain ⟨i1, i2, i3, i4, i5, i6, i7⟩ := hi
  obtain ⟨t1, t2, t3, t4, t5, t6, t7, t8, t9, t10⟩ := hT
  obtain ⟨⟨a1, a2, a3, a4, a5⟩, m1, m2, m3⟩ := id h
  refine ⟨⟨⟨a1, fun k x y => ?_, t6, fun b x y => ?_, a5⟩, fun j x y b u w => ?_, fun j => ?_, fun j x => ?_⟩, rfl, t3, rfl⟩
  · have hz := a2 k x y
    have := t5 k x y
    omega
  · rcases a4 b x y with q | q
    · by_cases r : ∃ k, 0 ≤ k ∧ k < n ∧ O k = b
      · exact Or.inr r
      · refine Or.inl ⟨q.1, ?_⟩
        rw [t7 b (fun i i0 i1 e => r ⟨i, i0, i1, e⟩)]; exact q.2
    · exact Or.inr q
  · constructor
    · intro e
      have hjt : j < t := by
        rcases Int.lt_or_le j t with q | q
        · exact q
        · have := i3 j q (by omega); omega
      obtain ⟨i, q1, q2, q3, q4⟩ := t8 j x hjt
      have := hB2 i q1 q2 j q3 q4
      have eb : O i = b := by omega
      rw [eb] at q3 q4
      exact ⟨q3, q4⟩
    · intro e
      rcases a4 b u w with q | ⟨i, q1, q2, q3⟩
      · omega
      · rw [← q3] at e ⊢
        exact hB2 i q1 q2 j e.1 e.2
  · by_cases hjc : 0 ≤ j ∧ j < t
    · obtain ⟨i, q1, q2, q3, q4⟩ := t8 j hjc.1 hjc.2
      have := hB2 i q1 q2 j q3 q4
      have := a2 i q1 q2
      omega
    · rcases Int.lt_or_le j 0 with q | q
      · have := tg_neg St Mk cap.toNat j q
        rw [h1] at this
        rw [show B j = Mk j from this]; exact m2 j
      · rcases Int.lt_or_le j cap with r | r
        · have := i3 j (by omega) (by omega); omega
        · rw [i4 j (by omega)]; exact m2 j
  · rw [i4 j (by omega)]; exact m3 j x
