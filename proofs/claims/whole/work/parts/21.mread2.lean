theorem rnf_sv {B G : Int → Int} {a k v u : Int} (hk : a ≤ k) (hG : G = rnf B a (k - a) v) (hv : v = u) : up G k u = rnf B a (k + 1 - a) v := by
  subst hv; exact rnf_s hk hG
def rdSpec (B St K Sm RO : Int → Int) (x n b r : Int) (B2 : Int → Int) : Prop :=
  ((b < 0 ∨ 32 ≤ b) ∧ r = -11 ∧ B2 = B) ∨
  (0 ≤ b ∧ b < 32 ∧ K b = 1 ∧ r = 1 ∧ B2 = rnf B 0 256 (Sm b)) ∨
  (0 ≤ b ∧ b < 32 ∧ K b = 0 ∧ r = 1 ∧ B2 = rnf B 0 256 0) ∨
  (0 ≤ b ∧ b < 32 ∧ K b = 3 ∧ r = 1 ∧ B2 = cp St B x 0 256) ∨
  (0 ≤ b ∧ b < 32 ∧ K b = 2 ∧ (((rdf (sh St x) n 5000 0 0 RO).1 ≠ 0 ∧ r = -(rdf (sh St x) n 5000 0 0 RO).1 ∧ B2 = B) ∨ ((rdf (sh St x) n 5000 0 0 RO).1 = 0 ∧ (rdf (sh St x) n 5000 0 0 RO).2.2.1 < 256 ∧ r = -4 ∧ B2 = B) ∨ ((rdf (sh St x) n 5000 0 0 RO).1 = 0 ∧ 256 ≤ (rdf (sh St x) n 5000 0 0 RO).2.2.1 ∧ r = 1 ∧ B2 = cp (rdf (sh St x) n 5000 0 0 RO).2.2.2 B 0 0 256)))
def kR (K : Int → Int) : Prop := ∀ b : Int, 0 ≤ b → b < 32 → 0 ≤ K b ∧ K b ≤ 3
def slotOk (ca : Int) (Mk K : Int → Int) (b x n : Int) : Prop := 0 ≤ b → b < 32 → 2 ≤ K b → 0 ≤ x ∧ 1 ≤ n ∧ x + n ≤ ca ∧ n ≤ 256 ∧ (K b = 3 → n = 256) ∧ ∀ j, 0 ≤ j → j < ca → (Mk j = b + 1 ↔ x ≤ j ∧ j < x + n)
theorem place_eq {ca b x n z : Int} {Mk : Int → Int} (hx : 0 ≤ x) (hn : 1 ≤ n) (hc : x + n ≤ ca) (h : ∀ j, 0 ≤ j → j < ca → (Mk j = b + 1 ↔ x ≤ j ∧ j < x + n)) (hp : (0 ≤ z ∧ z < ca ∧ Mk z = b + 1 ∧ ∀ j, 0 ≤ j → j < z → Mk j ≠ b + 1) ∨ (z = -1 ∧ ∀ j, 0 ≤ j → j < ca → Mk j ≠ b + 1)) : z = x := by
  have hx1 : Mk x = b + 1 := (h x hx (by omega)).mpr (by omega)
  rcases hp with ⟨p1, p2, p3, p4⟩ | ⟨_, p2⟩
  · have := (h z p1 p2).mp p3
    rcases Int.lt_or_le x z with w | w
    · exact absurd hx1 (p4 x hx w)
    · omega
  · exact absurd hx1 (p2 x hx (by omega))
set_option maxHeartbeats 4000000 in
set_option maxRecDepth 100000 in
theorem c_X4_read (l : Launch) (D : va_G) (cA : ClassId) (y : Nat) (mb : Nat) (ms : Nat) (mm : Nat) (mf : Nat) (mz : Nat) (mt : Nat) (mp : Nat) (mq : Nat) (mo : Nat) (ca : Int) (my : Int) (me : Int) (mn : Int) (mi : Int) (ma : Int) (mu : Int) (mw : Int) (Mk : Int → Int) (St : Int → Int) (K : Int → Int) (Sm : Int → Int) (B : Int → Int) (IN : Int → Int) (RO : Int → Int) (b : Int) (x : Int) (n : Int) (hca : 0 ≤ ca ∧ ca ≤ 4096) (hMk : mkR Mk) (hK : kR K) (hSt : byR ca St) (hSm : byR 32 Sm) (hsl : slotOk ca Mk K b x n) (hb : iB b) : Ci l D vwCl cA yX4_read (.code yX4_read cX4_read 5 (some .int) :: UW) ({ frames := 2, cells := 0, slots := 0, locals := 48 }) 0 0 [.ref y, .int (iI b)] [(y, .inr (4, [.int (iI ca), .ref mb, .ref ms, .ref mm, .ref mf, .ref mz, .int (iI my), .ref mt, .int (iI me), .int (iI mn), .ref mp, .int (iI mi), .ref mq, .int (iI ma), .int (iI mu), .ref mo, .int (iI mw)])), (mm, aE cA 4096 Mk), (ms, aE cA 4096 St), (mf, aE cA 32 K), (mz, aE cA 32 Sm), (mb, aE cA 256 B), (mq, aE cA 600 IN), (mo, aE cA 256 RO)] (fun (r : Int) (w : va_W) => ∃ (ii : Int) (wa : Int) (aa : Int) (uu : Int) (IN2 : Int → Int) (OO : Int → Int) (B2 : Int → Int), rdSpec B St K Sm RO x n b r B2 ∧ w = [(y, .inr (4, [.int (iI ca), .ref mb, .ref ms, .ref mm, .ref mf, .ref mz, .int (iI my), .ref mt, .int (iI me), .int (iI mn), .ref mp, .int (iI ii), .ref mq, .int (iI aa), .int (iI uu), .ref mo, .int (iI wa)])), (mm, aE cA 4096 Mk), (ms, aE cA 4096 St), (mf, aE cA 32 K), (mz, aE cA 32 Sm), (mb, aE cA 256 B2), (mq, aE cA 600 IN2), (mo, aE cA 256 OO)]) := by
  refine Ci.mk (by decide) (Nat.le_of_ble_eq_true rfl) ?_
  intro p e s m args below meth c A E
  refine GG.lvs (lv' := [(0, .ref y), (1, .int (iI b))]) [0, 1] rfl ?_
  refine g_aload_n E dX4_read_0 rfl 0 rfl ?_
  refine g_iload_n E dX4_read_1 rfl 1 rfl ?_
  refine g_callV (n := 1) (As := [.int (iI b)]) (rest := []) (wr := [(mm, aE cA 4096 Mk), (ms, aE cA 4096 St), (mf, aE cA 32 K), (mz, aE cA 32 Sm), (mb, aE cA 256 B), (mq, aE cA 600 IN), (mo, aE cA 256 RO)]) E dX4_read_2 (c_X4_isBlock l D cA y mb ms mm mf mz mt mp mq mo ca my me mn mi ma mu mw b (by omega)) wd_code_X4_isBlock wd_123 wd_124 wd_125 wd_126 (by decide +kernel) ⟨⟨rfl, rfl⟩, ⟨(Nat.le_of_ble_eq_true rfl), (Nat.le_of_ble_eq_true rfl)⟩, ⟨(Nat.le_of_ble_eq_true rfl), (Nat.le_of_ble_eq_true rfl)⟩⟩ [0] [1, 2, 3, 4, 5, 6, 7] rfl rfl (by decide) 0 rfl rfl rfl rfl (Nat.le_of_ble_eq_true rfl) (fun z_2 w_2 hw_2 => ?_)
  obtain ⟨h_2, rfl⟩ := hw_2
  refine GG.wss (ws' := [(y, .inr (4, [.int (iI ca), .ref mb, .ref ms, .ref mm, .ref mf, .ref mz, .int (iI my), .ref mt, .int (iI me), .int (iI mn), .ref mp, .int (iI mi), .ref mq, .int (iI ma), .int (iI mu), .ref mo, .int (iI mw)])), (mm, aE cA 4096 Mk), (ms, aE cA 4096 St), (mf, aE cA 32 K), (mz, aE cA 32 Sm), (mb, aE cA 256 B), (mq, aE cA 600 IN), (mo, aE cA 256 RO)]) [7, 0, 1, 2, 3, 4, 5, 6] (by decide) rfl ?_
  refine g_if_ne (tgt := 11) E dX4_read_5 (by decide) ⟨(by omega), (by omega)⟩ (fun c_5 => ?_) (fun c_5 => ?_)
  · skip
    have hbb : 0 ≤ b ∧ b < 32 := by omega
    have hkb := hK b hbb.1 hbb.2
    have hsb := hSm b hbb.1 hbb.2
    refine g_aload_n E dX4_read_11 rfl 0 rfl ?_
    refine g_getfield E dX4_read_12 0 4 rfl rfl (by decide) iX4 wd_135 rfl rfl ?_
    refine g_iload_n E dX4_read_15 rfl 1 rfl ?_
    refine g_iaload E dX4_read_16 3 rfl (by omega) (by omega) (by omega) ?_
    refine g_iconst E dX4_read_17 ?_
    refine g_icmp_ge (tgt := 64) E dX4_read_18 (by decide) ⟨(by omega), (by omega)⟩ ⟨(by omega), (by omega)⟩ (fun c_18 => ?_) (fun c_18 => ?_)
    · skip
      obtain ⟨s1, s2, s3, s4, s5, s6⟩ := hsl hbb.1 hbb.2 c_18
      refine g_aload_n E dX4_read_64 rfl 0 rfl ?_
      refine g_iload_n E dX4_read_65 rfl 1 rfl ?_
      refine g_callV (n := 1) (As := [.int (iI b)]) (rest := []) (wr := [(ms, aE cA 4096 St), (mf, aE cA 32 K), (mz, aE cA 32 Sm), (mb, aE cA 256 B), (mq, aE cA 600 IN), (mo, aE cA 256 RO)]) E dX4_read_66 (c_X4_placeOf l D cA y mb ms mm mf mz mt mp mq mo ca my me mn mi ma mu mw Mk b (by omega) (by omega) (by omega)) wd_code_X4_placeOf wd_136 wd_137 wd_138 wd_139 (by decide +kernel) ⟨⟨rfl, rfl⟩, ⟨(Nat.le_of_ble_eq_true rfl), (Nat.le_of_ble_eq_true rfl)⟩, ⟨(Nat.le_of_ble_eq_true rfl), (Nat.le_of_ble_eq_true rfl)⟩⟩ [0, 1] [2, 3, 4, 5, 6, 7] rfl rfl (by decide) 0 rfl rfl rfl rfl (Nat.le_of_ble_eq_true rfl) (fun z_66 w_66 hw_66 => ?_)
      obtain ⟨hp_66, rfl⟩ := hw_66
      refine GG.wss (ws' := [(y, .inr (4, [.int (iI ca), .ref mb, .ref ms, .ref mm, .ref mf, .ref mz, .int (iI my), .ref mt, .int (iI me), .int (iI mn), .ref mp, .int (iI mi), .ref mq, .int (iI ma), .int (iI mu), .ref mo, .int (iI mw)])), (mm, aE cA 4096 Mk), (ms, aE cA 4096 St), (mf, aE cA 32 K), (mz, aE cA 32 Sm), (mb, aE cA 256 B), (mq, aE cA 600 IN), (mo, aE cA 256 RO)]) [6, 7, 0, 1, 2, 3, 4, 5] (by decide) rfl ?_
      have hz66 : z_66 = x := place_eq s1 s2 s3 s6 hp_66
      clear hp_66
      refine g_istore_n (lv' := [(2, .int (iI z_66)), (0, .ref y), (1, .int (iI b))]) E dX4_read_69 rfl (by decide) rfl ?_
      refine g_aload_n E dX4_read_70 rfl 1 rfl ?_
      refine g_getfield E dX4_read_71 0 4 rfl rfl (by decide) iX4 wd_135 rfl rfl ?_
      refine g_iload_n E dX4_read_74 rfl 2 rfl ?_
      refine g_iaload E dX4_read_75 3 rfl (by omega) (by omega) (by omega) ?_
      refine g_iconst E dX4_read_76 ?_
      refine g_icmp_ne (tgt := 111) E dX4_read_77 (by decide) ⟨(by omega), (by omega)⟩ ⟨(by omega), (by omega)⟩ (fun c_77 => ?_) (fun c_77 => ?_)
      · skip
        refine g_aload_n E dX4_read_111 rfl 1 rfl ?_
        refine g_aload_n E dX4_read_112 rfl 1 rfl ?_
        refine g_iload_n E dX4_read_113 rfl 2 rfl ?_
        refine g_callV (n := 1) (As := [.int (iI b)]) (rest := [.ref y]) (wr := [(ms, aE cA 4096 St), (mf, aE cA 32 K), (mz, aE cA 32 Sm), (mb, aE cA 256 B), (mq, aE cA 600 IN), (mo, aE cA 256 RO)]) E dX4_read_114 (c_X4_sizeOf l D cA y mb ms mm mf mz mt mp mq mo ca my me mn mi ma mu mw Mk b (by omega) (by omega) (by omega)) wd_code_X4_sizeOf wd_127 wd_128 wd_129 wd_130 (by decide +kernel) ⟨⟨rfl, rfl⟩, ⟨(Nat.le_of_ble_eq_true rfl), (Nat.le_of_ble_eq_true rfl)⟩, ⟨(Nat.le_of_ble_eq_true rfl), (Nat.le_of_ble_eq_true rfl)⟩⟩ [0, 1] [2, 3, 4, 5, 6, 7] rfl rfl (by decide) 0 rfl rfl rfl rfl (Nat.le_of_ble_eq_true rfl) (fun z_114 w_114 hw_114 => ?_)
        obtain ⟨hr_114, hr2_114, rfl⟩ := hw_114
        refine GG.wss (ws' := [(y, .inr (4, [.int (iI ca), .ref mb, .ref ms, .ref mm, .ref mf, .ref mz, .int (iI my), .ref mt, .int (iI me), .int (iI mn), .ref mp, .int (iI mi), .ref mq, .int (iI ma), .int (iI mu), .ref mo, .int (iI mw)])), (mm, aE cA 4096 Mk), (ms, aE cA 4096 St), (mf, aE cA 32 K), (mz, aE cA 32 Sm), (mb, aE cA 256 B), (mq, aE cA 600 IN), (mo, aE cA 256 RO)]) [6, 7, 0, 1, 2, 3, 4, 5] (by decide) rfl ?_
        have hz114 : z_114 = n := by rw [hr_114]; exact cnt_slot s1 (by omega) s3 s6
        refine g_putfield (ws' := [(y, .inr (4, [.int (iI ca), .ref mb, .ref ms, .ref mm, .ref mf, .ref mz, .int (iI my), .ref mt, .int (iI me), .int (iI mn), .ref mp, .int (iI z_114), .ref mq, .int (iI ma), .int (iI mu), .ref mo, .int (iI mw)])), (mm, aE cA 4096 Mk), (ms, aE cA 4096 St), (mf, aE cA 32 K), (mz, aE cA 32 Sm), (mb, aE cA 256 B), (mq, aE cA 600 IN), (mo, aE cA 256 RO)]) E dX4_read_117 0 11 rfl rfl (by decide) iX4 tyX4 tyX4_ok nmX4 wd_104 rfl rfl rfl rfl rfl (Nat.le_of_ble_eq_true rfl) rfl ?_
        refine g_iconst E dX4_read_120 ?_
        refine g_istore_n (lv' := [(3, .int (iI 0)), (2, .int (iI z_66)), (0, .ref y), (1, .int (iI b))]) E dX4_read_121 rfl (by decide) rfl ?_
        have L122 : ∀ (fu122 : Nat) (k : Int) (G : Int → Int), 0 ≤ k ∧ k ≤ z_114 → G = cp St IN z_66 0 k → (z_114 - k) < (fu122 : Int) → GG p l e ({ frames := 2, cells := 0, slots := 0, locals := 48 }) s m args below meth c D vwCl A 5 (QI D vwCl cA A below args s 0 0 (fun (r : Int) (w : va_W) => ∃ (ii : Int) (wa : Int) (aa : Int) (uu : Int) (IN2 : Int → Int) (OO : Int → Int) (B2 : Int → Int), rdSpec B St K Sm RO x n b r B2 ∧ w = [(y, .inr (4, [.int (iI ca), .ref mb, .ref ms, .ref mm, .ref mf, .ref mz, .int (iI my), .ref mt, .int (iI me), .int (iI mn), .ref mp, .int (iI ii), .ref mq, .int (iI aa), .int (iI uu), .ref mo, .int (iI wa)])), (mm, aE cA 4096 Mk), (ms, aE cA 4096 St), (mf, aE cA 32 K), (mz, aE cA 32 Sm), (mb, aE cA 256 B2), (mq, aE cA 600 IN2), (mo, aE cA 256 OO)])) 0 0 [(y, .inr (4, [.int (iI ca), .ref mb, .ref ms, .ref mm, .ref mf, .ref mz, .int (iI my), .ref mt, .int (iI me), .int (iI mn), .ref mp, .int (iI z_114), .ref mq, .int (iI ma), .int (iI mu), .ref mo, .int (iI mw)])), (mm, aE cA 4096 Mk), (ms, aE cA 4096 St), (mf, aE cA 32 K), (mz, aE cA 32 Sm), (mb, aE cA 256 B), (mq, aE cA 600 G), (mo, aE cA 256 RO)] [(0, .ref y), (1, .int (iI b)), (2, .int (iI z_66)), (3, .int (iI k))] 122 [] := by
          intro fu122
          induction fu122 with
          | zero => intro k G hk hG hmu122; exfalso; omega
          | succ fu122 ih122 =>
            intro k G hk hG hmu122
            refine g_iload_n E dX4_read_122 rfl 3 rfl ?_
            refine g_aload_n E dX4_read_123 rfl 0 rfl ?_
            refine g_getfield E dX4_read_124 0 11 rfl rfl (by decide) iX4 wd_104 rfl rfl ?_
            refine g_icmp_ge (tgt := 150) E dX4_read_127 (by decide) ⟨(by omega), (by omega)⟩ ⟨(by omega), (by omega)⟩ (fun c_127 => ?_) (fun c_127 => ?_)
            · skip
              have hkk : k = z_114 := by omega
              rw [hkk] at hG
              have hby : byR z_114 G := by rw [hG]; exact byR_cp (fun j u v => hSt (z_66 + j) (by omega) (by omega))
              have hrc : rdf G z_114 5000 0 0 RO = rdf (sh St x) n 5000 0 0 RO := by rw [← hz114, ← hz66]; exact rdf_congr hby (fun j u v => by rw [hG]; unfold cp sh; rw [if_pos (by omega)]; congr 1; omega) 5000 0 0 RO (by omega)
              refine g_aload_n E dX4_read_150 rfl 0 rfl ?_
              refine g_callV (n := 0) (As := []) (rest := []) (wr := [(mm, aE cA 4096 Mk), (ms, aE cA 4096 St), (mf, aE cA 32 K), (mz, aE cA 32 Sm), (mb, aE cA 256 B)]) E dX4_read_151 (c_X4_readAll l D cA y mb ms mm mf mz mt mp mq mo ca my me mn z_114 ma mu mw G RO (by omega) (by exact hby)) wd_code_X4_readAll wd_140 wd_141 wd_142 wd_143 (by decide +kernel) ⟨⟨rfl, rfl⟩, ⟨(Nat.le_of_ble_eq_true rfl), (Nat.le_of_ble_eq_true rfl)⟩, ⟨(Nat.le_of_ble_eq_true rfl), (Nat.le_of_ble_eq_true rfl)⟩⟩ [0, 6, 7] [1, 2, 3, 4, 5] rfl rfl (by decide) 0 rfl rfl rfl rfl (Nat.le_of_ble_eq_true rfl) (fun z_151 w_151 hw_151 => ?_)
              obtain ⟨wa_151, aa_151, uu_151, OO_151, hX_151, hb_151, rfl⟩ := hw_151
              refine GG.wss (ws' := [(y, .inr (4, [.int (iI ca), .ref mb, .ref ms, .ref mm, .ref mf, .ref mz, .int (iI my), .ref mt, .int (iI me), .int (iI mn), .ref mp, .int (iI z_114), .ref mq, .int (iI aa_151), .int (iI uu_151), .ref mo, .int (iI wa_151)])), (mm, aE cA 4096 Mk), (ms, aE cA 4096 St), (mf, aE cA 32 K), (mz, aE cA 32 Sm), (mb, aE cA 256 B), (mq, aE cA 600 G), (mo, aE cA 256 OO_151)]) [5, 0, 1, 2, 3, 4, 6, 7] (by decide) rfl ?_
              rw [hrc] at hX_151
              refine g_istore_n (lv' := [(3, .int (iI z_151)), (0, .ref y), (1, .int (iI b)), (2, .int (iI z_66))]) E dX4_read_154 rfl (by decide) rfl ?_
              refine g_iload_n E dX4_read_155 rfl 0 rfl ?_
              refine g_if_le (tgt := 162) E dX4_read_156 (by decide) ⟨(by omega), (by omega)⟩ (fun c_156 => ?_) (fun c_156 => ?_)
              · skip
                refine g_aload_n E dX4_read_162 rfl 1 rfl ?_
                refine g_getfield E dX4_read_163 0 14 rfl rfl (by decide) iX4 wd_106 rfl rfl ?_
                refine g_sipush E dX4_read_166 (by decide) ?_
                refine g_icmp_ge (tgt := 175) E dX4_read_169 (by decide) ⟨(by omega), (by omega)⟩ ⟨(by omega), (by omega)⟩ (fun c_169 => ?_) (fun c_169 => ?_)
                · skip
                  refine g_iconst E dX4_read_175 ?_
                  refine g_istore (lv' := [(4, .int (iI 0)), (3, .int (iI z_151)), (0, .ref y), (1, .int (iI b)), (2, .int (iI z_66))]) E dX4_read_176 (by decide) rfl ?_
                  have L178 : ∀ (fu178 : Nat) (k2 : Int) (G2 : Int → Int), 0 ≤ k2 ∧ k2 ≤ 256 → G2 = cp OO_151 B 0 0 k2 → (256 - k2) < (fu178 : Int) → GG p l e ({ frames := 2, cells := 0, slots := 0, locals := 48 }) s m args below meth c D vwCl A 5 (QI D vwCl cA A below args s 0 0 (fun (r : Int) (w : va_W) => ∃ (ii : Int) (wa : Int) (aa : Int) (uu : Int) (IN2 : Int → Int) (OO : Int → Int) (B2 : Int → Int), rdSpec B St K Sm RO x n b r B2 ∧ w = [(y, .inr (4, [.int (iI ca), .ref mb, .ref ms, .ref mm, .ref mf, .ref mz, .int (iI my), .ref mt, .int (iI me), .int (iI mn), .ref mp, .int (iI ii), .ref mq, .int (iI aa), .int (iI uu), .ref mo, .int (iI wa)])), (mm, aE cA 4096 Mk), (ms, aE cA 4096 St), (mf, aE cA 32 K), (mz, aE cA 32 Sm), (mb, aE cA 256 B2), (mq, aE cA 600 IN2), (mo, aE cA 256 OO)])) 0 0 [(y, .inr (4, [.int (iI ca), .ref mb, .ref ms, .ref mm, .ref mf, .ref mz, .int (iI my), .ref mt, .int (iI me), .int (iI mn), .ref mp, .int (iI z_114), .ref mq, .int (iI aa_151), .int (iI uu_151), .ref mo, .int (iI wa_151)])), (mm, aE cA 4096 Mk), (ms, aE cA 4096 St), (mf, aE cA 32 K), (mz, aE cA 32 Sm), (mb, aE cA 256 G2), (mq, aE cA 600 G), (mo, aE cA 256 OO_151)] [(0, .ref y), (4, .int (iI k2))] 178 [] := by
                    intro fu178
                    induction fu178 with
                    | zero => intro k2 G2 hk2 hG2 hmu178; exfalso; omega
                    | succ fu178 ih178 =>
                      intro k2 G2 hk2 hG2 hmu178
                      refine g_iload E dX4_read_178 1 rfl ?_
                      refine g_sipush E dX4_read_180 (by decide) ?_
                      refine g_icmp_ge (tgt := 206) E dX4_read_183 (by decide) ⟨(by omega), (by omega)⟩ ⟨(by omega), (by omega)⟩ (fun c_183 => ?_) (fun c_183 => ?_)
                      · skip
                        refine g_iconst E dX4_read_206 ?_
                        refine g_ireturn E dX4_read_207 ?_
                        have hkk2 : k2 = 256 := by omega
                        exact ⟨_, _, _, _, _, _, G2, Or.inr (Or.inr (Or.inr (Or.inr ⟨hbb.1, hbb.2, by omega, Or.inr (Or.inr (hX_151.elim (fun g => ⟨g.1, by omega, rfl, by rw [hG2, hkk2, ← g.2.2.2]⟩) (fun g => absurd g.1 (by omega))))⟩))), rfl⟩
                      · skip
                        refine g_aload_n E dX4_read_186 rfl 0 rfl ?_
                        refine g_getfield E dX4_read_187 0 1 rfl rfl (by decide) iX4 wd_6 rfl rfl ?_
                        refine g_iload E dX4_read_190 1 rfl ?_
                        refine g_aload_n E dX4_read_192 rfl 0 rfl ?_
                        refine g_getfield E dX4_read_193 0 15 rfl rfl (by decide) iX4 wd_111 rfl rfl ?_
                        refine g_iload E dX4_read_196 1 rfl ?_
                        refine g_iaload E dX4_read_198 7 rfl (by omega) (by omega) (by omega) ?_
                        refine g_iastore (ws' := [(y, .inr (4, [.int (iI ca), .ref mb, .ref ms, .ref mm, .ref mf, .ref mz, .int (iI my), .ref mt, .int (iI me), .int (iI mn), .ref mp, .int (iI z_114), .ref mq, .int (iI aa_151), .int (iI uu_151), .ref mo, .int (iI wa_151)])), (mm, aE cA 4096 Mk), (ms, aE cA 4096 St), (mf, aE cA 32 K), (mz, aE cA 32 Sm), (mb, aE cA 256 (up G2 k2 (OO_151 k2))), (mq, aE cA 600 G), (mo, aE cA 256 OO_151)]) E dX4_read_199 5 rfl (by omega) (by omega) (by omega) rfl ?_
                        refine g_iinc (lv' := [(4, .int (iI (k2 + 1))), (0, .ref y)]) E dX4_read_200 1 rfl (by decide) rfl ?_
                        refine g_goto (tgt := 178) E dX4_read_203 (by decide) ?_
                        refine GG.lvs (lv' := [(0, .ref y), (4, .int (iI (k2 + 1)))]) [1, 0] rfl ?_
                        exact ih178 (k2 + 1) (up G2 k2 (OO_151 k2)) (by omega) (by have := cp_s (v := OO_151 k2) hk2.1 hG2 (by rw [Int.zero_add]); rw [Int.zero_add] at this; exact this) (by omega)
                  refine GG.lvs (lv' := [(0, .ref y), (4, .int (iI 0))]) [2, 0] rfl ?_
                  exact L178 ((256 - 0 : Int).toNat + 1) 0 B (by omega) (by exact (cp_0 ..).symm) (by omega)
                · skip
                  refine g_bipush E dX4_read_172 (by decide) ?_
                  refine g_ireturn E dX4_read_174 ?_
                  exact ⟨_, _, _, _, _, _, B, Or.inr (Or.inr (Or.inr (Or.inr ⟨hbb.1, hbb.2, by omega, Or.inr (Or.inl (hX_151.elim (fun g => ⟨g.1, by omega, rfl, rfl⟩) (fun g => absurd g.1 (by omega))))⟩))), rfl⟩
              · skip
                refine g_iload_n E dX4_read_159 rfl 0 rfl ?_
                refine g_ineg E dX4_read_160 ?_
                refine g_ireturn E dX4_read_161 ?_
                exact ⟨_, _, _, _, _, _, B, Or.inr (Or.inr (Or.inr (Or.inr ⟨hbb.1, hbb.2, by omega, Or.inl (hX_151.elim (fun g => absurd g.2.1 (by omega)) (fun g => ⟨g.1, by omega, rfl⟩))⟩))), rfl⟩
            · skip
              refine g_aload_n E dX4_read_130 rfl 0 rfl ?_
              refine g_getfield E dX4_read_131 0 12 rfl rfl (by decide) iX4 wd_105 rfl rfl ?_
              refine g_iload_n E dX4_read_134 rfl 3 rfl ?_
              refine g_aload_n E dX4_read_135 rfl 0 rfl ?_
              refine g_getfield E dX4_read_136 0 2 rfl rfl (by decide) iX4 wd_118 rfl rfl ?_
              refine g_iload_n E dX4_read_139 rfl 2 rfl ?_
              refine g_iload_n E dX4_read_140 rfl 3 rfl ?_
              refine g_iadd E dX4_read_141 ?_
              refine g_iaload E dX4_read_142 2 rfl (by omega) (by omega) (by omega) ?_
              refine g_iastore (ws' := [(y, .inr (4, [.int (iI ca), .ref mb, .ref ms, .ref mm, .ref mf, .ref mz, .int (iI my), .ref mt, .int (iI me), .int (iI mn), .ref mp, .int (iI z_114), .ref mq, .int (iI ma), .int (iI mu), .ref mo, .int (iI mw)])), (mm, aE cA 4096 Mk), (ms, aE cA 4096 St), (mf, aE cA 32 K), (mz, aE cA 32 Sm), (mb, aE cA 256 B), (mq, aE cA 600 (up G k (St (z_66 + k)))), (mo, aE cA 256 RO)]) E dX4_read_143 6 rfl (by omega) (by omega) (by omega) rfl ?_
              refine g_iinc (lv' := [(3, .int (iI (k + 1))), (0, .ref y), (1, .int (iI b)), (2, .int (iI z_66))]) E dX4_read_144 3 rfl (by decide) rfl ?_
              refine g_goto (tgt := 122) E dX4_read_147 (by decide) ?_
              refine GG.lvs (lv' := [(0, .ref y), (1, .int (iI b)), (2, .int (iI z_66)), (3, .int (iI (k + 1)))]) [1, 2, 3, 0] rfl ?_
              exact ih122 (k + 1) (up G k (St (z_66 + k))) (by omega) (by have := cp_s (v := St (z_66 + k)) hk.1 hG rfl; rw [Int.zero_add] at this; exact this) (by omega)
        refine GG.lvs (lv' := [(0, .ref y), (1, .int (iI b)), (2, .int (iI z_66)), (3, .int (iI 0))]) [2, 3, 1, 0] rfl ?_
        exact L122 ((z_114 - 0 : Int).toNat + 1) 0 IN (by omega) (by exact (cp_0 ..).symm) (by omega)
      · skip
        have s7 := s5 c_77
        refine g_iconst E dX4_read_80 ?_
        refine g_istore_n (lv' := [(3, .int (iI 0)), (2, .int (iI z_66)), (0, .ref y), (1, .int (iI b))]) E dX4_read_81 rfl (by decide) rfl ?_
        have L82 : ∀ (fu82 : Nat) (k : Int) (G : Int → Int), 0 ≤ k ∧ k ≤ 256 → G = cp St B z_66 0 k → (256 - k) < (fu82 : Int) → GG p l e ({ frames := 2, cells := 0, slots := 0, locals := 48 }) s m args below meth c D vwCl A 5 (QI D vwCl cA A below args s 0 0 (fun (r : Int) (w : va_W) => ∃ (ii : Int) (wa : Int) (aa : Int) (uu : Int) (IN2 : Int → Int) (OO : Int → Int) (B2 : Int → Int), rdSpec B St K Sm RO x n b r B2 ∧ w = [(y, .inr (4, [.int (iI ca), .ref mb, .ref ms, .ref mm, .ref mf, .ref mz, .int (iI my), .ref mt, .int (iI me), .int (iI mn), .ref mp, .int (iI ii), .ref mq, .int (iI aa), .int (iI uu), .ref mo, .int (iI wa)])), (mm, aE cA 4096 Mk), (ms, aE cA 4096 St), (mf, aE cA 32 K), (mz, aE cA 32 Sm), (mb, aE cA 256 B2), (mq, aE cA 600 IN2), (mo, aE cA 256 OO)])) 0 0 [(y, .inr (4, [.int (iI ca), .ref mb, .ref ms, .ref mm, .ref mf, .ref mz, .int (iI my), .ref mt, .int (iI me), .int (iI mn), .ref mp, .int (iI mi), .ref mq, .int (iI ma), .int (iI mu), .ref mo, .int (iI mw)])), (mm, aE cA 4096 Mk), (ms, aE cA 4096 St), (mf, aE cA 32 K), (mz, aE cA 32 Sm), (mb, aE cA 256 G), (mq, aE cA 600 IN), (mo, aE cA 256 RO)] [(0, .ref y), (1, .int (iI b)), (2, .int (iI z_66)), (3, .int (iI k))] 82 [] := by
          intro fu82
          induction fu82 with
          | zero => intro k G hk hG hmu82; exfalso; omega
          | succ fu82 ih82 =>
            intro k G hk hG hmu82
            refine g_iload_n E dX4_read_82 rfl 3 rfl ?_
            refine g_sipush E dX4_read_83 (by decide) ?_
            refine g_icmp_ge (tgt := 109) E dX4_read_86 (by decide) ⟨(by omega), (by omega)⟩ ⟨(by omega), (by omega)⟩ (fun c_86 => ?_) (fun c_86 => ?_)
            · skip
              refine g_iconst E dX4_read_109 ?_
              refine g_ireturn E dX4_read_110 ?_
              have hkk : k = 256 := by omega
              exact ⟨mi, mw, ma, mu, IN, RO, G, Or.inr (Or.inr (Or.inr (Or.inl ⟨hbb.1, hbb.2, c_77, rfl, by rw [hG, hkk, hz66]⟩))), rfl⟩
            · skip
              refine g_aload_n E dX4_read_89 rfl 0 rfl ?_
              refine g_getfield E dX4_read_90 0 1 rfl rfl (by decide) iX4 wd_6 rfl rfl ?_
              refine g_iload_n E dX4_read_93 rfl 3 rfl ?_
              refine g_aload_n E dX4_read_94 rfl 0 rfl ?_
              refine g_getfield E dX4_read_95 0 2 rfl rfl (by decide) iX4 wd_118 rfl rfl ?_
              refine g_iload_n E dX4_read_98 rfl 2 rfl ?_
              refine g_iload_n E dX4_read_99 rfl 3 rfl ?_
              refine g_iadd E dX4_read_100 ?_
              refine g_iaload E dX4_read_101 2 rfl (by omega) (by omega) (by omega) ?_
              refine g_iastore (ws' := [(y, .inr (4, [.int (iI ca), .ref mb, .ref ms, .ref mm, .ref mf, .ref mz, .int (iI my), .ref mt, .int (iI me), .int (iI mn), .ref mp, .int (iI mi), .ref mq, .int (iI ma), .int (iI mu), .ref mo, .int (iI mw)])), (mm, aE cA 4096 Mk), (ms, aE cA 4096 St), (mf, aE cA 32 K), (mz, aE cA 32 Sm), (mb, aE cA 256 (up G k (St (z_66 + k)))), (mq, aE cA 600 IN), (mo, aE cA 256 RO)]) E dX4_read_102 5 rfl (by omega) (by omega) (by omega) rfl ?_
              refine g_iinc (lv' := [(3, .int (iI (k + 1))), (0, .ref y), (1, .int (iI b)), (2, .int (iI z_66))]) E dX4_read_103 3 rfl (by decide) rfl ?_
              refine g_goto (tgt := 82) E dX4_read_106 (by decide) ?_
              refine GG.lvs (lv' := [(0, .ref y), (1, .int (iI b)), (2, .int (iI z_66)), (3, .int (iI (k + 1)))]) [1, 2, 3, 0] rfl ?_
              exact ih82 (k + 1) (up G k (St (z_66 + k))) (by omega) (by have := cp_s (v := St (z_66 + k)) hk.1 hG rfl; rw [Int.zero_add] at this; exact this) (by omega)
        refine GG.lvs (lv' := [(0, .ref y), (1, .int (iI b)), (2, .int (iI z_66)), (3, .int (iI 0))]) [2, 3, 1, 0] rfl ?_
        exact L82 ((256 - 0 : Int).toNat + 1) 0 B (by omega) (by exact (cp_0 ..).symm) (by omega)
    · skip
      refine g_iconst E dX4_read_21 ?_
      refine g_istore_n (lv' := [(2, .int (iI 0)), (0, .ref y), (1, .int (iI b))]) E dX4_read_22 rfl (by decide) rfl ?_
      obtain ⟨val, hval⟩ : ∃ v : Int, (K b = 1 ∧ v = Sm b) ∨ (K b ≠ 1 ∧ v = 0) := if q : K b = 1 then ⟨Sm b, Or.inl ⟨q, rfl⟩⟩ else ⟨0, Or.inr ⟨q, rfl⟩⟩
      have L23 : ∀ (fu23 : Nat) (k : Int) (G : Int → Int), 0 ≤ k ∧ k ≤ 256 → G = rnf B 0 (k - 0) val → (256 - k) < (fu23 : Int) → GG p l e ({ frames := 2, cells := 0, slots := 0, locals := 48 }) s m args below meth c D vwCl A 5 (QI D vwCl cA A below args s 0 0 (fun (r : Int) (w : va_W) => ∃ (ii : Int) (wa : Int) (aa : Int) (uu : Int) (IN2 : Int → Int) (OO : Int → Int) (B2 : Int → Int), rdSpec B St K Sm RO x n b r B2 ∧ w = [(y, .inr (4, [.int (iI ca), .ref mb, .ref ms, .ref mm, .ref mf, .ref mz, .int (iI my), .ref mt, .int (iI me), .int (iI mn), .ref mp, .int (iI ii), .ref mq, .int (iI aa), .int (iI uu), .ref mo, .int (iI wa)])), (mm, aE cA 4096 Mk), (ms, aE cA 4096 St), (mf, aE cA 32 K), (mz, aE cA 32 Sm), (mb, aE cA 256 B2), (mq, aE cA 600 IN2), (mo, aE cA 256 OO)])) 0 0 [(y, .inr (4, [.int (iI ca), .ref mb, .ref ms, .ref mm, .ref mf, .ref mz, .int (iI my), .ref mt, .int (iI me), .int (iI mn), .ref mp, .int (iI mi), .ref mq, .int (iI ma), .int (iI mu), .ref mo, .int (iI mw)])), (mm, aE cA 4096 Mk), (ms, aE cA 4096 St), (mf, aE cA 32 K), (mz, aE cA 32 Sm), (mb, aE cA 256 G), (mq, aE cA 600 IN), (mo, aE cA 256 RO)] [(0, .ref y), (1, .int (iI b)), (2, .int (iI k))] 23 [] := by
        intro fu23
        induction fu23 with
        | zero => intro k G hk hG hmu23; exfalso; omega
        | succ fu23 ih23 =>
          intro k G hk hG hmu23
          refine g_iload_n E dX4_read_23 rfl 2 rfl ?_
          refine g_sipush E dX4_read_24 (by decide) ?_
          refine g_icmp_ge (tgt := 62) E dX4_read_27 (by decide) ⟨(by omega), (by omega)⟩ ⟨(by omega), (by omega)⟩ (fun c_27 => ?_) (fun c_27 => ?_)
          · skip
            refine g_iconst E dX4_read_62 ?_
            refine g_ireturn E dX4_read_63 ?_
            have hkk : k = 256 := by omega
            rw [hkk, show (256 : Int) - 0 = 256 by omega] at hG
            refine ⟨mi, mw, ma, mu, IN, RO, G, Or.inr ?_, rfl⟩
            rcases hval with ⟨g1, g2⟩ | ⟨g1, g2⟩
            · exact Or.inl ⟨hbb.1, hbb.2, g1, rfl, by rw [hG, g2]⟩
            · exact Or.inr (Or.inl ⟨hbb.1, hbb.2, by omega, rfl, by rw [hG, g2]⟩)
          · skip
            refine g_aload_n E dX4_read_30 rfl 0 rfl ?_
            refine g_getfield E dX4_read_31 0 1 rfl rfl (by decide) iX4 wd_6 rfl rfl ?_
            refine g_iload_n E dX4_read_34 rfl 2 rfl ?_
            refine g_aload_n E dX4_read_35 rfl 0 rfl ?_
            refine g_getfield E dX4_read_36 0 4 rfl rfl (by decide) iX4 wd_135 rfl rfl ?_
            refine g_iload_n E dX4_read_39 rfl 1 rfl ?_
            refine g_iaload E dX4_read_40 3 rfl (by omega) (by omega) (by omega) ?_
            refine g_iconst E dX4_read_41 ?_
            refine g_icmp_ne (tgt := 54) E dX4_read_42 (by decide) ⟨(by omega), (by omega)⟩ ⟨(by omega), (by omega)⟩ (fun c_42 => ?_) (fun c_42 => ?_)
            · skip
              refine g_iconst E dX4_read_54 ?_
              refine g_iastore (ws' := [(y, .inr (4, [.int (iI ca), .ref mb, .ref ms, .ref mm, .ref mf, .ref mz, .int (iI my), .ref mt, .int (iI me), .int (iI mn), .ref mp, .int (iI mi), .ref mq, .int (iI ma), .int (iI mu), .ref mo, .int (iI mw)])), (mm, aE cA 4096 Mk), (ms, aE cA 4096 St), (mf, aE cA 32 K), (mz, aE cA 32 Sm), (mb, aE cA 256 (up G k 0)), (mq, aE cA 600 IN), (mo, aE cA 256 RO)]) E dX4_read_55 5 rfl (by omega) (by omega) (by omega) rfl ?_
              refine g_iinc (lv' := [(2, .int (iI (k + 1))), (0, .ref y), (1, .int (iI b))]) E dX4_read_56 2 rfl (by decide) rfl ?_
              refine g_goto (tgt := 23) E dX4_read_59 (by decide) ?_
              refine GG.lvs (lv' := [(0, .ref y), (1, .int (iI b)), (2, .int (iI (k + 1)))]) [1, 2, 0] rfl ?_
              exact ih23 (k + 1) (up G k 0) (by omega) (by exact rnf_sv hk.1 hG (by omega)) (by omega)
            · skip
              refine g_aload_n E dX4_read_45 rfl 0 rfl ?_
              refine g_getfield E dX4_read_46 0 5 rfl rfl (by decide) iX4 wd_156 rfl rfl ?_
              refine g_iload_n E dX4_read_49 rfl 1 rfl ?_
              refine g_iaload E dX4_read_50 4 rfl (by omega) (by omega) (by omega) ?_
              refine g_goto (tgt := 55) E dX4_read_51 (by decide) ?_
              refine g_iastore (ws' := [(y, .inr (4, [.int (iI ca), .ref mb, .ref ms, .ref mm, .ref mf, .ref mz, .int (iI my), .ref mt, .int (iI me), .int (iI mn), .ref mp, .int (iI mi), .ref mq, .int (iI ma), .int (iI mu), .ref mo, .int (iI mw)])), (mm, aE cA 4096 Mk), (ms, aE cA 4096 St), (mf, aE cA 32 K), (mz, aE cA 32 Sm), (mb, aE cA 256 (up G k (Sm b))), (mq, aE cA 600 IN), (mo, aE cA 256 RO)]) E dX4_read_55 5 rfl (by omega) (by omega) (by omega) rfl ?_
              refine g_iinc (lv' := [(2, .int (iI (k + 1))), (0, .ref y), (1, .int (iI b))]) E dX4_read_56 2 rfl (by decide) rfl ?_
              refine g_goto (tgt := 23) E dX4_read_59 (by decide) ?_
              refine GG.lvs (lv' := [(0, .ref y), (1, .int (iI b)), (2, .int (iI (k + 1)))]) [1, 2, 0] rfl ?_
              exact ih23 (k + 1) (up G k (Sm b)) (by omega) (by exact rnf_sv hk.1 hG (by omega)) (by omega)
      refine GG.lvs (lv' := [(0, .ref y), (1, .int (iI b)), (2, .int (iI 0))]) [1, 2, 0] rfl ?_
      exact L23 ((256 - 0 : Int).toNat + 1) 0 B (by omega) (by exact (rnf_0 ..).symm) (by omega)
  · skip
    refine g_bipush E dX4_read_8 (by decide) ?_
    refine g_ireturn E dX4_read_10 ?_
    exact ⟨mi, mw, ma, mu, IN, RO, B, Or.inl ⟨by omega, rfl, rfl⟩, rfl⟩
