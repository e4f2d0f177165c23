-- WHAT BOTH SIDES MAKE IS THE SAME
theorem xr_byte {a b : Int} (ha : 0 ≤ a ∧ a < 256) (hb : 0 ≤ b ∧ b < 256) : 0 ≤ xr a b ∧ xr a b < 256 := by
  unfold xr
  have h : a.toNat ^^^ b.toNat < 2 ^ 8 := Nat.xor_lt_two_pow (by omega) (by omega)
  omega
theorem byt_byte (v j : Int) : 0 ≤ byt v j ∧ byt v j < 256 := by
  unfold byt; omega
theorem byR_up {n z v : Int} {g : Int → Int} (h : byR n g) (hv : 0 ≤ v ∧ v < 256) : byR n (up g z v) := fun k a b => by
  unfold up; split
  · exact hv
  · exact h k a b
theorem byR_phf {n v m a k : Int} {g : Int → Int} (h : ∀ j, 0 ≤ j → j < n → ¬ (a ≤ j ∧ j < a + k) → 0 ≤ g j ∧ g j < 256) : byR n (phf v m g a k) := fun j x y => by
  unfold phf
  by_cases q : a ≤ j ∧ j < a + k
  · rw [if_pos q]; exact byt_byte _ _
  · rw [if_neg q]; exact h j x y q
theorem byR_rnf {n a k v : Int} {g : Int → Int} (h : byR n g) (hv : 0 ≤ v ∧ v < 256) : byR n (rnf g a k v) := fun j x y => by
  unfold rnf; split
  · exact hv
  · exact h j x y
theorem byR_cpk {B : Int → Int} {t f : Int} (h : byR 256 B) (ht : 0 ≤ t) (hf : 0 ≤ f) : ∀ k : Nat, t + (k : Int) ≤ 256 → f + (k : Int) ≤ 256 → byR 256 (cpk B t f k) := by
  intro k
  induction k with
  | zero => intro _ _; exact h
  | succ k ih =>
    intro h1 h2
    have := ih (by omega) (by omega)
    exact byR_up this (this _ (by omega) (by omega))
theorem byR_fillB {B : Int → Int} {a v : Int} (h : byR 256 B) : byR 256 (fillB B a v) := by
  unfold fillB; split
  · exact byR_phf (fun j x y _ => h j x y)
  · exact h
theorem byR_runB {B : Int → Int} {a n b : Int} (h : byR 256 B) : byR 256 (runB B a n b) := by
  unfold runB; split
  · exact byR_rnf h (by omega)
  · exact h
theorem byR_copyB {B : Int → Int} {t f n : Int} (h : byR 256 B) : byR 256 (copyB B t f n) := by
  unfold copyB; split
  · exact byR_cpk h (by omega) (by omega) n.toNat (by omega) (by omega)
  · exact h
theorem typeN_b {tn n : Int} (h : 0 ≤ tn ∧ tn ≤ 600) : 0 ≤ typeN tn n ∧ typeN tn n ≤ 600 := by
  unfold typeN; split <;> omega
theorem byR_type {T : Int → Int} {tn v n : Int} (h : byR tn T) : byR (typeN tn n) (typeT T tn v n) := by
  unfold typeN typeT
  by_cases q : 1 ≤ n ∧ n ≤ 4 ∧ tn + n ≤ 600
  · rw [if_pos q, if_pos q]; exact byR_phf (fun j x y w => h j x (by omega))
  · rw [if_neg q, if_neg q]; exact h
theorem byR_alterS {ca i v : Int} {St : Int → Int} (h : byR ca St) : byR ca (alterS ca St i v) := by
  unfold alterS; split
  · exact byR_up h (xr_byte (h i (by omega) (by omega)) (by omega))
  · exact h
theorem byR_tg {ca : Int} {St Mk : Int → Int} (h : byR ca St) : ∀ k : Nat, (k : Int) ≤ ca → byR ca (tg St Mk k).1 := by
  intro k
  induction k with
  | zero => intro _; exact h
  | succ k ih =>
    intro hk
    have h1 := ih (by omega)
    rw [tg]
    split
    · exact h1
    · split
      · exact h1
      · exact byR_up h1 (h1 _ (by omega) (by omega))
-- packing
def wE (R : Int → Int → Prop) (W U : (Int → Int) × Int) : Prop := W.2 = U.2 ∧ ∀ j, 0 ≤ j → j < W.2 → R (W.1 j) (U.1 j)
theorem wE_pt {R : Int → Int → Prop} {W U : (Int → Int) × Int} {b : Int} (h : wE R W U) (hb : R b b) : wE R (pt W b) (pt U b) := by
  obtain ⟨h1, h2⟩ := h
  refine ⟨by show W.2 + 1 = U.2 + 1; omega, fun j x y => ?_⟩
  have y' : j < W.2 + 1 := y
  show R (up W.1 W.2 b j) (up U.1 U.2 b j)
  by_cases q : j = W.2
  · rw [← h1, q, up_s, up_s]; exact hb
  · rw [← h1, up_n q, up_n q]; exact h2 j x (by omega)
theorem wE_prs {R : Int → Int → Prop} (hR : ∀ b, 0 ≤ b → b < 256 → R b b) {W U : (Int → Int) × Int} {n : Int} (h : wE R W U) (hn : n ≤ 270) : wE R (prs W n) (prs U n) := by
  unfold prs
  by_cases q : 15 ≤ n
  · rw [if_pos q, if_pos q]; exact wE_pt h (hR _ (by omega) (by omega))
  · rw [if_neg q, if_neg q]; exact h
theorem wE_lts {R : Int → Int → Prop} (hR : ∀ b, 0 ≤ b → b < 256 → R b b) {B : Int → Int} (hB : byR 256 B) {W U : (Int → Int) × Int} {f : Int} (hf : 0 ≤ f) (h : wE R W U) : ∀ k : Nat, f + (k : Int) ≤ 256 → wE R (lts B W f k) (lts B U f k) := by
  intro k
  induction k with
  | zero => intro _; exact h
  | succ k ih =>
    intro hk
    have := hB (f + (k : Int)) (by omega) (by omega)
    exact wE_pt (ih (by omega)) (hR _ this.1 this.2)
theorem wE_sq {R : Int → Int → Prop} (hR : ∀ b, 0 ≤ b → b < 256 → R b b) {B : Int → Int} (hB : byR 256 B) {W U : (Int → Int) × Int} {f t mr : Int} (hf : 0 ≤ f) (hft : f ≤ t) (ht : t ≤ 256) (hm : 0 ≤ mr) (h : wE R W U) : wE R (sq B W f t mr) (sq B U f t mr) :=
  wE_lts hR hB hf (wE_prs hR (wE_pt h (hR _ (by omega) (by omega))) (by omega)) _ (by omega)
theorem wE_mtc {R : Int → Int → Prop} (hR : ∀ b, 0 ≤ b → b < 256 → R b b) {W U : (Int → Int) × Int} {o mr : Int} (ho : 0 ≤ o ∧ o ≤ 256) (hm : mr ≤ 270) (h : wE R W U) : wE R (mtc W o mr) (mtc U o mr) :=
  wE_prs hR (wE_pt (wE_pt h (hR _ (by omega) (by omega))) (hR _ (by omega) (by omega))) hm
theorem wE_pack {R : Int → Int → Prop} (hR : ∀ b, 0 ≤ b → b < 256 → R b b) {B : Int → Int} (hB : byR 256 B) : ∀ (n : Nat) (W U : (Int → Int) × Int) (f i : Int), 0 ≤ f → f ≤ i → i ≤ 251 → wE R W U → wE R (packF B n W f i) (packF B n U f i) := by
  intro n
  induction n with
  | zero => intro W U f i _ _ _ h; exact h
  | succ n ih =>
    intro W U f i h0 h1 h2 h
    by_cases q : 244 < i
    · rw [packF_end q, packF_end q]; exact wE_sq hR hB h0 (by omega) (by omega) (by omega) h
    · have hb := bsu_b B (i := i) (by omega) (by omega)
      by_cases w : (bsu B i i.toNat).1 < 4
      · rw [packF_lit (by omega) w, packF_lit (by omega) w]; exact ih _ _ _ _ h0 (by omega) (by omega) h
      · rw [packF_mat (by omega) rfl rfl (by omega), packF_mat (by omega) rfl rfl (by omega)]
        have hb3 := hb.2.2 (by omega)
        exact ih _ _ _ _ (by omega) (by omega) (by omega) (wE_mtc hR (by omega) (by omega) (wE_sq hR hB h0 h1 (by omega) (by omega) h))
theorem pack_eq {B P Q : Int → Int} (hB : byR 256 B) : (packF B 300 (P, 0) 0 0).2 = (packF B 300 (Q, 0) 0 0).2 ∧ ∀ j, 0 ≤ j → j < (packF B 300 (P, 0) 0 0).2 → (packF B 300 (P, 0) 0 0).1 j = (packF B 300 (Q, 0) 0 0).1 j :=
  wE_pack (R := Eq) (fun _ _ _ => rfl) hB 300 (P, 0) (Q, 0) 0 0 (by omega) (by omega) (by omega) ⟨rfl, fun j x y => absurd y (by show ¬ j < 0; omega)⟩
theorem pack_byR {B P : Int → Int} (hB : byR 256 B) : byR (packF B 300 (P, 0) 0 0).2 (packF B 300 (P, 0) 0 0).1 :=
  (wE_pack (R := fun x _ => 0 ≤ x ∧ x < 256) (fun _ a b => ⟨a, b⟩) hB 300 (P, 0) (P, 0) 0 0 (by omega) (by omega) (by omega) ⟨rfl, fun j x y => absurd y (by show ¬ j < 0; omega)⟩).2
-- reading
theorem cp_rel {R : Int → Int → Prop} {S O U : Int → Int} {b cc x : Int} (hS : ∀ k, b ≤ k → k < b + x → R (S k) (S k)) (h : ∀ k, 0 ≤ k → k < cc → R (O k) (U k)) : ∀ k, 0 ≤ k → k < cc + x → R (cp S O b cc x k) (cp S U b cc x k) := by
  intro k k0 k1
  unfold cp
  by_cases q : cc ≤ k ∧ k < cc + x
  · rw [if_pos q, if_pos q]; exact hS _ (by omega) (by omega)
  · rw [if_neg q, if_neg q]; exact h k k0 (by omega)
theorem rpk_rel {R : Int → Int → Prop} {O U : Int → Int} {cc o : Int} (ho : 1 ≤ o ∧ o ≤ cc) (h : ∀ k, 0 ≤ k → k < cc → R (O k) (U k)) : ∀ m : Nat, ∀ k, 0 ≤ k → k < cc + (m : Int) → R (rpk O cc o m k) (rpk U cc o m k) := by
  intro m
  induction m with
  | zero => intro k k0 k1; exact h k k0 (by omega)
  | succ m ih =>
    intro k k0 k1
    show R (up (rpk O cc o m) (cc + (m : Int)) (rpk O cc o m (cc + (m : Int) - o)) k) (up (rpk U cc o m) (cc + (m : Int)) (rpk U cc o m (cc + (m : Int) - o)) k)
    by_cases q : k = cc + (m : Int)
    · rw [q, up_s, up_s]; exact ih _ (by omega) (by omega)
    · rw [up_n q, up_n q]; exact ih k k0 (by omega)
theorem rdf_rel {R : Int → Int → Prop} {S : Int → Int} {n : Int} (hS : byR n S) (hR : ∀ k, 0 ≤ k → k < n → R (S k) (S k)) : ∀ (f : Nat) (a cc : Int) (O U : Int → Int), 0 ≤ a → 0 ≤ cc → cc ≤ 256 → (∀ k, 0 ≤ k → k < cc → R (O k) (U k)) → (rdf S n f a cc O).1 = (rdf S n f a cc U).1 ∧ (rdf S n f a cc O).2.1 = (rdf S n f a cc U).2.1 ∧ (rdf S n f a cc O).2.2.1 = (rdf S n f a cc U).2.2.1 ∧ (∀ k, 0 ≤ k → k < (rdf S n f a cc O).2.2.1 → R ((rdf S n f a cc O).2.2.2 k) ((rdf S n f a cc U).2.2.2 k)) ∧ (rdf S n f a cc O).2.2.1 ≤ 256 := by
  intro f
  induction f with
  | zero => intro a cc O U _ _ h2 h; exact ⟨rfl, rfl, rfl, h, h2⟩
  | succ f ih =>
    intro a cc O U ha hc h2 h
    by_cases q : n ≤ a
    · rw [rdf_lack q, rdf_lack q]; exact ⟨rfl, rfl, rfl, h, h2⟩
    · have g1 := hS a ha (by omega)
      rcases hl : ltk S n (S a / 16) (a + 1) a cc with ⟨e0, pl, x, b⟩
      by_cases q0 : e0 = 0
      · subst q0
        have g2 := ltk_ok hS (by omega) (by omega) hl
        have h3 := cp_rel (R := R) (S := S) (O := O) (U := U) (b := b) (cc := cc) (x := x) (fun k u v => hR k (by omega) (by omega)) h
        by_cases q2 : n ≤ b + x
        · rw [rdf_fin (by omega) hl q2, rdf_fin (by omega) hl q2]
          exact ⟨rfl, rfl, rfl, h3, by show cc + x ≤ 256; omega⟩
        · rcases hm : mtk S n (S a % 16) (b + x) a (cc + x) with ⟨e2, pm, o, ln, d⟩
          by_cases q3 : e2 = 0
          · subst q3
            have g3 := mtk_ok hS (by omega) (by omega) hm
            rw [rdf_more (by omega) hl (by omega) hm, rdf_more (by omega) hl (by omega) hm]
            have h4 := rpk_rel (R := R) (O := cp S O b cc x) (U := cp S U b cc x) (cc := cc + x) (o := o) (by omega) h3 ln.toNat
            exact ih _ _ _ _ (by omega) (by omega) (by omega) (fun k u v => h4 k u (by omega))
          · rw [rdf_merr (by omega) hl (by omega) hm q3, rdf_merr (by omega) hl (by omega) hm q3]; exact ⟨rfl, rfl, rfl, h, h2⟩
      · rw [rdf_lerr (by omega) hl q0, rdf_lerr (by omega) hl q0]; exact ⟨rfl, rfl, rfl, h, h2⟩
theorem read_eq {S : Int → Int} {n : Int} (hS : byR n S) (P Q : Int → Int) : (rdf S n 5000 0 0 P).1 = (rdf S n 5000 0 0 Q).1 ∧ (rdf S n 5000 0 0 P).2.1 = (rdf S n 5000 0 0 Q).2.1 ∧ (rdf S n 5000 0 0 P).2.2.1 = (rdf S n 5000 0 0 Q).2.2.1 ∧ (∀ k, 0 ≤ k → k < (rdf S n 5000 0 0 P).2.2.1 → (rdf S n 5000 0 0 P).2.2.2 k = (rdf S n 5000 0 0 Q).2.2.2 k) ∧ (rdf S n 5000 0 0 P).2.2.1 ≤ 256 :=
  rdf_rel (R := Eq) hS (fun _ _ _ => rfl) 5000 0 0 P Q (by omega) (by omega) (by omega) (fun k x y => by omega)
theorem read_byR {S : Int → Int} {n : Int} (hS : byR n S) (P : Int → Int) : byR (rdf S n 5000 0 0 P).2.2.1 (rdf S n 5000 0 0 P).2.2.2 :=
  (rdf_rel (R := fun x _ => 0 ≤ x ∧ x < 256) hS hS 5000 0 0 P P (by omega) (by omega) (by omega) (fun k x y => by omega)).2.2.2.1
-- the law's state
def Inv (cap ns tn : Int) (S Z O Mk K B St Sm TA : Int → Int) : Prop := LR cap ns S Z O Mk ∧ KZ K Z ∧ kR K ∧ byR 256 B ∧ byR cap St ∧ byR 32 Sm ∧ byR tn TA ∧ 0 ≤ tn ∧ tn ≤ 600
theorem LR.mkR {cap n : Int} {S Z O Mk : Int → Int} (h : LR cap n S Z O Mk) : mkR Mk := fun k _ _ => h.2.2.1 k
theorem wr_eq {ca : Int} {B St Mk K Sm P Q : Int → Int} {b r r' : Int} {St2 Mk2 K2 Sm2 St3 Mk3 K3 Sm3 : Int → Int} (hB : byR 256 B) (h : wrSpec ca B St Mk K Sm (packF B 300 (P, 0) 0 0) b r St2 Mk2 K2 Sm2) (g : wrSpec ca B St Mk K Sm (packF B 300 (Q, 0) 0 0) b r' St3 Mk3 K3 Sm3) : r = r' ∧ St2 = St3 ∧ Mk2 = Mk3 ∧ K2 = K3 ∧ Sm2 = Sm3 := by
  have hp := pack_eq (P := P) (Q := Q) hB
  rcases h with ⟨a1, a2, a3, a4, a5, a6⟩ | ⟨a1, a2, a3, a4, a5, a6, a7, a8⟩ | ⟨a1, a2, a3, n, kd, src, a4, a5, a6⟩
  · rcases g with ⟨c1, c2, c3, c4, c5, c6⟩ | ⟨c1, c2, _⟩ | ⟨c1, c2, _⟩
    · exact ⟨by omega, by rw [a3, c3], by rw [a4, c4], by rw [a5, c5], by rw [a6, c6]⟩
    · omega
    · omega
  · rcases g with ⟨c1, c2, _⟩ | ⟨c1, c2, c3, c4, c5, c6, c7, c8⟩ | ⟨c1, c2, ⟨k, k1, k2, k3⟩, _⟩
    · omega
    · exact ⟨by omega, by rw [a5, c5], by rw [a6, c6], by rw [a7, c7], by rw [a8, c8]⟩
    · exact absurd (a3 k k1 k2) k3
  · rcases g with ⟨c1, c2, _⟩ | ⟨c1, c2, c3, _⟩ | ⟨c1, c2, c3, n', kd', src', c4, c5, c6⟩
    · omega
    · obtain ⟨k, k1, k2, k3⟩ := a3; exact absurd (c3 k k1 k2) k3
    · have hn : n = n' ∧ kd = kd' ∧ ∀ j, 0 ≤ j → j < n → src j = src' j := by
        rcases a4 with ⟨q1, q2, q3, q4⟩ | ⟨q1, q2, q3, q4⟩
        · rcases c4 with ⟨s1, s2, s3, s4⟩ | ⟨s1, s2, s3, s4⟩
          · exact ⟨by omega, by omega, fun j x y => by rw [q4, s4]; exact hp.2 j x (by omega)⟩
          · omega
        · rcases c4 with ⟨s1, s2, s3, s4⟩ | ⟨s1, s2, s3, s4⟩
          · omega
          · exact ⟨by omega, by omega, fun j x y => by rw [q4, s4]⟩
      obtain ⟨rfl, rfl, hs⟩ := hn
      have hcp : ∀ (T : Int → Int) (x : Int), cp src T 0 x n = cp src' T 0 x n := fun T x => cp_congr (fun k u v => hs k (by omega) (by omega))
      refine ⟨?_, ?_, ?_, ?_, by rw [a5, c5]⟩
      all_goals
        rcases a6 with ⟨q1, q2, q3, q4, q5⟩ | ⟨q1, q2, q3, x, q4, q5, q6⟩ | ⟨q1, q2, q3, q4, q5, q6⟩
        · rcases c6 with ⟨s1, s2, s3, s4, s5⟩ | ⟨s1, s2, s3, y, s4, s5, s6⟩ | ⟨s1, s2, s3, s4, s5, s6⟩
          · first | omega | rw [q3, s3] | rw [q4, s4] | rw [q5, s5]
          · omega
          · omega
        · rcases c6 with ⟨s1, s2, s3, s4, s5⟩ | ⟨s1, s2, s3, y, s4, s5, s6⟩ | ⟨s1, s2, s3, s4, s5, s6⟩
          · omega
          · have hxy := room_uniq q4 s4
            subst hxy
            first | omega | rw [q3, s3] | rw [q5, s5] | rw [q6, s6, hcp]
          · exact absurd s4 (fun w => room_no q4 w)
        · rcases c6 with ⟨s1, s2, s3, s4, s5⟩ | ⟨s1, s2, s3, y, s4, s5, s6⟩ | ⟨s1, s2, s3, s4, s5, s6⟩
          · omega
          · exact absurd q4 (fun w => room_no s4 w)
          · first | omega | rw [q3, s3] | rw [q5, s5] | rw [q6, s6, hcp]
theorem byR_cpn {n : Int} {f g : Int → Int} {a cc x : Int} (hg : byR n g) (hf : ∀ k, a ≤ k → k < a + x → 0 ≤ f k ∧ f k < 256) : byR n (cp f g a cc x) := fun j u v => by
  unfold cp
  by_cases q : cc ≤ j ∧ j < cc + x
  · rw [if_pos q]; exact hf _ (by omega) (by omega)
  · rw [if_neg q]; exact hg j u v
theorem kR_up {K : Int → Int} {b v : Int} (h : kR K) (hv : 0 ≤ v ∧ v ≤ 3) : kR (up K b v) := fun c x y => by
  unfold up; split
  · exact hv
  · exact h c x y
theorem wr_inv {ca : Int} {B St Mk K Sm P : Int → Int} {b r : Int} {St2 Mk2 K2 Sm2 : Int → Int} (hc : 0 ≤ ca) (hB : byR 256 B) (hSt : byR ca St) (hSm : byR 32 Sm) (hK : kR K) (h : wrSpec ca B St Mk K Sm (packF B 300 (P, 0) 0 0) b r St2 Mk2 K2 Sm2) : byR ca St2 ∧ byR 32 Sm2 ∧ kR K2 := by
  have hp := pack_byR (P := P) hB
  rcases h with ⟨a1, a2, a3, a4, a5, a6⟩ | ⟨a1, a2, a3, a4, a5, a6, a7, a8⟩ | ⟨a1, a2, a3, n, kd, src, a4, a5, a6⟩
  · rw [a3, a5, a6]; exact ⟨hSt, hSm, hK⟩
  · rw [a5, a7, a8]; exact ⟨hSt, byR_up hSm (hB 0 (by omega) (by omega)), kR_up hK (by omega)⟩
  · have hs : ∀ k, 0 ≤ k → k < 0 + n → 0 ≤ src k ∧ src k < 256 := fun k x y => by
      rcases a4 with ⟨q1, q2, q3, q4⟩ | ⟨q1, q2, q3, q4⟩
      · rw [q4]; exact hp k x (by omega)
      · rw [q4]; exact hB k x (by omega)
    have hkd : 0 ≤ kd ∧ kd ≤ 3 := by omega
    rw [a5]
    rcases a6 with ⟨q1, q2, q3, q4, q5⟩ | ⟨q1, q2, q3, x, q4, q5, q6⟩ | ⟨q1, q2, q3, q4, q5, q6⟩
    · rw [q3, q5]; exact ⟨hSt, hSm, hK⟩
    · rw [q3, q6]; exact ⟨byR_cpn hSt hs, hSm, kR_up hK hkd⟩
    · rw [q3, q6]; exact ⟨byR_cpn (byR_tg hSt _ (by omega)) hs, hSm, kR_up hK hkd⟩
theorem slot_ok {cap ns : Int} {S Z O Mk K : Int → Int} (h : LR cap ns S Z O Mk) (hk : KZ K Z) (hr : kR K) (b : Int) : slotOk cap Mk K b (S b) (Z b) := by
  intro b0 b1 k2
  have hz := h.1.zb ⟨b0, b1⟩
  have hkz := hk b b0 b1
  have h3 : 1 ≤ Z b ∧ Z b ≤ 256 ∧ 0 ≤ S b ∧ S b + Z b ≤ cap := by
    rcases hz with q | q
    · exfalso
      by_cases w : K b = 2
      · have := hkz.2.1 w; omega
      · by_cases v : K b = 3
        · have := hkz.2.2 v; omega
        · have := hr b b0 b1; omega
    · exact q
  exact ⟨by omega, by omega, by omega, by omega, hkz.2.2, fun j x y => h.2.1 j x y b b0 b1⟩
theorem rd_eq {B St K Sm P Q : Int → Int} {x n b r r' : Int} {B2 B3 : Int → Int} (hS : 0 ≤ b → b < 32 → K b = 2 → byR n (sh St x)) (h : rdSpec B St K Sm P x n b r B2) (g : rdSpec B St K Sm Q x n b r' B3) : r = r' ∧ B2 = B3 := by
  rcases h with ⟨a1, a2, a3⟩ | ⟨a1, a2, a3, a4, a5⟩ | ⟨a1, a2, a3, a4, a5⟩ | ⟨a1, a2, a3, a4, a5⟩ | ⟨a1, a2, a3, a4⟩
  · rcases g with ⟨c1, c2, c3⟩ | ⟨c1, c2, _⟩ | ⟨c1, c2, _⟩ | ⟨c1, c2, _⟩ | ⟨c1, c2, _⟩
    · exact ⟨by omega, by rw [a3, c3]⟩
    all_goals omega
  · rcases g with ⟨c1, c2, c3⟩ | ⟨c1, c2, c3, c4, c5⟩ | ⟨c1, c2, c3, c4, c5⟩ | ⟨c1, c2, c3, c4, c5⟩ | ⟨c1, c2, c3, c4⟩
    · omega
    · exact ⟨by omega, by rw [a5, c5]⟩
    all_goals omega
  · rcases g with ⟨c1, c2, c3⟩ | ⟨c1, c2, c3, c4, c5⟩ | ⟨c1, c2, c3, c4, c5⟩ | ⟨c1, c2, c3, c4, c5⟩ | ⟨c1, c2, c3, c4⟩
    · omega
    · omega
    · exact ⟨by omega, by rw [a5, c5]⟩
    all_goals omega
  · rcases g with ⟨c1, c2, c3⟩ | ⟨c1, c2, c3, c4, c5⟩ | ⟨c1, c2, c3, c4, c5⟩ | ⟨c1, c2, c3, c4, c5⟩ | ⟨c1, c2, c3, c4⟩
    · omega
    · omega
    · omega
    · exact ⟨by omega, by rw [a5, c5]⟩
    · omega
  · rcases g with ⟨c1, c2, c3⟩ | ⟨c1, c2, c3, c4, c5⟩ | ⟨c1, c2, c3, c4, c5⟩ | ⟨c1, c2, c3, c4, c5⟩ | ⟨c1, c2, c3, c4⟩
    · omega
    · omega
    · omega
    · omega
    · obtain ⟨e1, e2, e3, e4, e5⟩ := read_eq (hS a1 a2 a3) P Q
      rcases a4 with ⟨q1, q2, q3⟩ | ⟨q1, q2, q3, q4⟩ | ⟨q1, q2, q3, q4⟩
      · rcases c4 with ⟨s1, s2, s3⟩ | ⟨s1, s2, s3, s4⟩ | ⟨s1, s2, s3, s4⟩
        · exact ⟨by omega, by rw [q3, s3]⟩
        all_goals omega
      · rcases c4 with ⟨s1, s2, s3⟩ | ⟨s1, s2, s3, s4⟩ | ⟨s1, s2, s3, s4⟩
        · omega
        · exact ⟨by omega, by rw [q4, s4]⟩
        · omega
      · rcases c4 with ⟨s1, s2, s3⟩ | ⟨s1, s2, s3, s4⟩ | ⟨s1, s2, s3, s4⟩
        · omega
        · omega
        · exact ⟨by omega, by rw [q4, s4]; exact cp_congr (fun k u v => e4 k (by omega) (by omega))⟩
theorem rd_inv {cap : Int} {B St K Sm P : Int → Int} {x n b r : Int} {B2 : Int → Int} (hB : byR 256 B) (hSm : byR 32 Sm) (hSt : byR cap St) (hz : 0 ≤ b → b < 32 → 2 ≤ K b → 0 ≤ x ∧ x + n ≤ cap ∧ (K b = 3 → n = 256)) (h : rdSpec B St K Sm P x n b r B2) : byR 256 B2 := by
  rcases h with ⟨a1, a2, a3⟩ | ⟨a1, a2, a3, a4, a5⟩ | ⟨a1, a2, a3, a4, a5⟩ | ⟨a1, a2, a3, a4, a5⟩ | ⟨a1, a2, a3, a4⟩
  · rw [a3]; exact hB
  · rw [a5]; exact byR_rnf hB (hSm b a1 a2)
  · rw [a5]; exact byR_rnf hB (by omega)
  · have hq := hz a1 a2 (by omega)
    have hn := hq.2.2 a3
    rw [a5]; exact byR_cpn hB (fun k u v => hSt k (by omega) (by omega))
  · have hq := hz a1 a2 (by omega)
    rcases a4 with ⟨q1, q2, q3⟩ | ⟨q1, q2, q3, q4⟩ | ⟨q1, q2, q3, q4⟩
    · rw [q3]; exact hB
    · rw [q4]; exact hB
    · have hr := read_byR (S := sh St x) (n := n) (fun k u v => hSt (x + k) (by omega) (by omega)) P
      rw [q4]; exact byR_cpn hB (fun k u v => hr k (by omega) (by omega))
theorem dec_eq {TA B P Q : Int → Int} {tn r r' e e' : Int} {B2 B3 : Int → Int} (hT : byR tn TA) (h : ((rdf TA tn 5000 0 0 P).1 = 0 ∧ r = (rdf TA tn 5000 0 0 P).2.2.1 ∧ e = -1 ∧ B2 = cp (rdf TA tn 5000 0 0 P).2.2.2 B 0 0 r ∧ 0 ≤ r ∧ r ≤ 256) ∨ ((rdf TA tn 5000 0 0 P).1 ≠ 0 ∧ r = -(rdf TA tn 5000 0 0 P).1 ∧ e = (rdf TA tn 5000 0 0 P).2.1 ∧ B2 = B)) (g : ((rdf TA tn 5000 0 0 Q).1 = 0 ∧ r' = (rdf TA tn 5000 0 0 Q).2.2.1 ∧ e' = -1 ∧ B3 = cp (rdf TA tn 5000 0 0 Q).2.2.2 B 0 0 r' ∧ 0 ≤ r' ∧ r' ≤ 256) ∨ ((rdf TA tn 5000 0 0 Q).1 ≠ 0 ∧ r' = -(rdf TA tn 5000 0 0 Q).1 ∧ e' = (rdf TA tn 5000 0 0 Q).2.1 ∧ B3 = B)) : r = r' ∧ e = e' ∧ B2 = B3 := by
  obtain ⟨e1, e2, e3, e4, e5⟩ := read_eq hT P Q
  rcases h with ⟨a1, a2, a3, a4, a5, a6⟩ | ⟨a1, a2, a3, a4⟩
  · rcases g with ⟨c1, c2, c3, c4, c5, c6⟩ | ⟨c1, c2, c3, c4⟩
    · have er : r = r' := by omega
      subst er
      exact ⟨rfl, by omega, by rw [a4, c4]; exact cp_congr (fun k u v => e4 k (by omega) (by omega))⟩
    · omega
  · rcases g with ⟨c1, c2, c3, c4, c5, c6⟩ | ⟨c1, c2, c3, c4⟩
    · omega
    · exact ⟨by omega, by omega, by rw [a4, c4]⟩
theorem dec_inv {TA B P : Int → Int} {tn r e : Int} {B2 : Int → Int} (hT : byR tn TA) (hB : byR 256 B) (h : ((rdf TA tn 5000 0 0 P).1 = 0 ∧ r = (rdf TA tn 5000 0 0 P).2.2.1 ∧ e = -1 ∧ B2 = cp (rdf TA tn 5000 0 0 P).2.2.2 B 0 0 r ∧ 0 ≤ r ∧ r ≤ 256) ∨ ((rdf TA tn 5000 0 0 P).1 ≠ 0 ∧ r = -(rdf TA tn 5000 0 0 P).1 ∧ e = (rdf TA tn 5000 0 0 P).2.1 ∧ B2 = B)) : byR 256 B2 := by
  rcases h with ⟨a1, a2, a3, a4, a5, a6⟩ | ⟨a1, a2, a3, a4⟩
  · have hr := read_byR hT P
    rw [a4]; exact byR_cpn hB (fun k u v => hr k (by omega) (by omega))
  · rw [a4]; exact hB
theorem slot_eq {cap ns : Int} {S Z O Mk : Int → Int} (h : LR cap ns S Z O Mk) {b r : Int} (hb : 0 ≤ b ∧ b < 32) (hp : (0 ≤ r ∧ r < cap ∧ Mk r = b + 1 ∧ ∀ j, 0 ≤ j → j < r → Mk j ≠ b + 1) ∨ (r = -1 ∧ ∀ j, 0 ≤ j → j < cap → Mk j ≠ b + 1)) : r = S b := by
  rcases h.1.zb hb with q | q
  · rcases hp with ⟨p1, p2, p3, p4⟩ | ⟨p1, p2⟩
    · have := (h.2.1 r p1 p2 b hb.1 hb.2).mp p3; omega
    · omega
  · exact place_eq q.2.2.1 q.1 q.2.2.2 (fun j x y => h.2.1 j x y b hb.1 hb.2) hp
theorem LR_0 (cap : Int) : LR cap 0 (rnf zf 0 ((32 : Nat) : Int) (-1)) zf zf zf := by
  refine ⟨⟨by omega, fun k x y => by omega, fun i k x y z => by omega, fun b x y => Or.inl ⟨rfl, by unfold rnf; rw [if_pos (by omega)]⟩, ?_⟩, fun j x y b u v => ⟨fun e => by have : (0 : Int) = b + 1 := e; omega, fun e => by have e2 : j < rnf zf 0 ((32 : Nat) : Int) (-1) b + 0 := e.2; unfold rnf at e2; rw [if_pos (by omega)] at e2; omega⟩, fun j => ⟨Int.le_refl 0, by show (0 : Int) ≤ 32; omega⟩, fun j x => rfl⟩
  have h : ∀ k : Nat, cz zf k = 0 := by
    intro k
    induction k with
    | zero => rfl
    | succ k ih => rw [cz, ih]; rfl
  exact (h 32).symm
theorem byR_zf (n : Int) : byR n zf := fun k _ _ => ⟨Int.le_refl 0, by show (0 : Int) < 256; omega⟩
theorem Inv_0 (cap : Int) : Inv cap 0 0 (rnf zf 0 ((32 : Nat) : Int) (-1)) zf zf zf zf zf zf zf zf :=
  ⟨LR_0 cap, fun b _ _ => ⟨fun _ => rfl, fun e => by have : (0 : Int) = 2 := e; omega, fun e => by have : (0 : Int) = 3 := e; omega⟩, fun b _ _ => ⟨Int.le_refl 0, by show (0 : Int) ≤ 3; omega⟩, byR_zf _, byR_zf _, byR_zf _, byR_zf _, Int.le_refl 0, by omega⟩
