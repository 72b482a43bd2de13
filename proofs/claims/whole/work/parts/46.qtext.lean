/-! level 2: the text, the report, two quotients, and what a cat will have -/
theorem nar_b (x : Int32) : vp_nar .byte (x.toInt8.toInt32) = x.toInt8.toInt32 := by
  show x.toInt8.toInt32.toInt8.toInt32 = _
  rw [Int8.toInt8_toInt32]
theorem nar_w (x : Int32) : ∃ b, b < 256 ∧ x.toInt8.toInt32 = (nI b).toInt8.toInt32 ∧ x &&& nI 255 = nI b := by
  have e : nI ((x &&& nI 255).toBitVec.toNat) = x &&& nI 255 := by
    apply Int32.toBitVec_inj.mp
    show BitVec.ofNat 32 _ = _
    rw [BitVec.ofNat_toNat, BitVec.setWidth_eq]
  refine ⟨(x &&& nI 255).toBitVec.toNat, ?_, ?_, e.symm⟩
  · have : (x &&& nI 255).toBitVec.toNat = x.toBitVec.toNat &&& 255 := rfl
    rw [this]
    have h2 : x.toBitVec.toNat &&& 255 ≤ 255 := Nat.and_le_right
    omega
  · rw [e]
    congr 1
    apply Int8.toBitVec_inj.mp
    apply BitVec.eq_of_getLsbD_eq
    intro i hi
    have h9 : (nI 255).toBitVec = 255#32 := by decide
    have h8 : i = 0 ∨ i = 1 ∨ i = 2 ∨ i = 3 ∨ i = 4 ∨ i = 5 ∨ i = 6 ∨ i = 7 := by omega
    rcases h8 with rfl | rfl | rfl | rfl | rfl | rfl | rfl | rfl <;> simp [h9]
theorem nar_c : ∀ b, b < 128 → vp_nar .byte ((nI b).toInt8.toInt32) = nI b ∧ vp_nar .char (((nI b).toUInt32 % 65536).toInt32) = nI b := by decide +kernel
def JO (n : Nat) (S T : XS) : Prop := S 0 1 = nI n ∧ T 0 10 = nI n ∧ ∀ i, i < n → ∃ b, b < 256 ∧ S 1 i = (nI b).toInt8.toInt32 ∧ T 6 i = nI b
def FT (T T1 : XS) : Prop := (∀ a, a ≠ 0 → a ≠ 6 → T1 a = T a) ∧ ∀ y, y ≠ 10 → T1 0 y = T 0 y
section
variable {S T C C' T' S' : XS} {u : QU} {n : Nat}
theorem FT_t {T2 : XS} (h1 : FT T T') (h2 : FT T' T2) : FT T T2 := ⟨fun a h0 h6 => by rw [h2.1 a h0 h6, h1.1 a h0 h6], fun y hy => by rw [h2.2 y hy, h1.2 y hy]⟩
theorem put_s (j : JO n S T) (hn : n < 600) (x : Int32) {m : Int32} (hm : ¬ m < 0) : ∃ S1 T1, JO (n + 1) S1 T1 ∧ FT T T1 ∧ (∀ K f, f_X4_putFour_L3 K x (f + 1) m S = f_X4_putFour_L3 K x f (m + (-8)) S1) ∧ ∀ K f, f_X9_type_L3 K x (f + 1) m T = f_X9_type_L3 K x f (m + (-8)) T1 := by
  obtain ⟨j1, j2, j3⟩ := j
  obtain ⟨b, b1, b2, b3⟩ := nar_w (x >>> (m &&& nI 31))
  refine ⟨xput (xput S 1 n (nI b).toInt8.toInt32) 0 1 (nI (n + 1)), xput (xput T 6 n (nI b)) 0 10 (nI (n + 1)), ⟨?_, ?_, fun i hi => ?_⟩, ⟨fun a h0 h6 => ?_, fun y hy => ?_⟩, fun K f => ?_, fun K f => ?_⟩
  · rw [xp_s, if_pos rfl]
  · rw [xp_s, if_pos rfl]
  · rw [xp_n (show (1 : Nat) ≠ 0 by decide), xp_n (show (6 : Nat) ≠ 0 by decide), xp_s, xp_s]
    by_cases q : i = n
    · rw [if_pos q, if_pos q]; exact ⟨b, b1, rfl, rfl⟩
    · rw [if_neg q, if_neg q]; exact j3 i (by omega)
  · rw [xp_n h0, xp_n h6]
  · rw [xp_s, if_neg hy, xp_n (by decide)]
  · rw [f_X4_putFour_L3, if_neg hm]
    simp (disch := omega) only [j1, xl_s, ob_s, xb_s, rd_n, wr_n, m_1, m_1b, nI_add, pk_mul, l_0, l_1, l_2, l_3, l_4, l_5, l_6, l_7, l_8, l_9, l_10, l_11, l_12, l_13, l_14, l_15, l_16, l_17, l_18, l_19, l_20, l_21, l_22, l_23, l_24, l_30, l_31, l_32, l_40, l_41, l_48, l_57, l_59, l_64, l_90, l_97, l_99, l_100, l_119, l_122, l_186, l_200, l_255, l_600, l_999, l_1488, l_1000000, i_leF, xq_n, nar_b, b2]
  · rw [f_X9_type_L3, if_neg hm]
    simp (disch := omega) only [j2, xl_s, ob_s, xb_s, rd_n, wr_n, m_1, m_1b, nI_add, pk_mul, l_0, l_1, l_2, l_3, l_4, l_5, l_6, l_7, l_8, l_9, l_10, l_11, l_12, l_13, l_14, l_15, l_16, l_17, l_18, l_19, l_20, l_21, l_22, l_23, l_24, l_30, l_31, l_32, l_40, l_41, l_48, l_57, l_59, l_64, l_90, l_97, l_99, l_100, l_119, l_122, l_186, l_200, l_255, l_600, l_999, l_1488, l_1000000, xq_n, b3]
theorem put_e {m : Int32} (hm : m < 0) {x : Int32} {f : Nat} : f_X4_putFour_L3 (fun v5 S6 => some S6) x (f + 1) m S = some S ∧ f_X9_type_L3 (fun v5 S6 => some S6) x (f + 1) m T = some T := by
  constructor
  · rw [f_X4_putFour_L3, if_pos hm]
  · rw [f_X9_type_L3, if_pos hm]
theorem m24 : (24 : Int32) + (-8) = 16 := by decide
theorem m16 : (16 : Int32) + (-8) = 8 := by decide
theorem m08 : (8 : Int32) + (-8) = 0 := by decide
theorem FU_5 : FU = 1999995 + 1 + 1 + 1 + 1 + 1 := rfl
theorem put4 (j : JO n S T) (hn : n + 4 ≤ 600) (x : Int32) : ∃ S1 T1, f_X4_putFour S x = some S1 ∧ f_X9_type T x = some T1 ∧ JO (n + 4) S1 T1 ∧ FT T T1 := by
  obtain ⟨A1, B1, a1, a2, a3, a4⟩ := put_s j (by omega) x (m := 24) (by decide)
  obtain ⟨A2, B2, b1, b2, b3, b4⟩ := put_s a1 (by omega) x (m := 16) (by decide)
  obtain ⟨A3, B3, c1, c2, c3, c4⟩ := put_s b1 (by omega) x (m := 8) (by decide)
  obtain ⟨A4, B4, d1, d2, d3, d4⟩ := put_s c1 (by omega) x (m := 0) (by decide)
  refine ⟨A4, B4, ?_, ?_, d1, FT_t a2 (FT_t b2 (FT_t c2 d2))⟩
  · unfold f_X4_putFour
    rw [FU_5, a3, m24, b3, m16, c3, m08, d3]
    exact (put_e (T := T) (by decide)).1
  · unfold f_X9_type
    rw [FU_5, a4, m24, b4, m16, c4, m08, d4]
    exact (put_e (S := S) (by decide)).2
theorem len_read : shRead.length = 2 := Eq.trans rfl rfl
theorem put4C (j : JO n (xs 134 C) T) (hn : n + 4 ≤ 600) (x : Int32) : ∃ B T1, f_X4_putFour (xs 134 C) x = some B ∧ f_X9_type T x = some T1 ∧ JO (n + 4) (xs 134 (xm 134 2 C B)) T1 ∧ FT T T1 ∧ ∀ a, a ≠ 134 → a ≠ 135 → xm 134 2 C B a = C a := by
  obtain ⟨B, T1, e1, e2, ⟨j1, j2, j3⟩, e4⟩ := put4 j hn x
  have r : ∀ a, a < 2 → xs 134 (xm 134 2 C B) a = B a := fun a ha => by funext y; rw [xs_d, xm_i (by omega), Nat.add_sub_cancel_left]
  exact ⟨B, T1, e1, e2, ⟨by rw [r 0 (by decide)]; exact j1, j2, by rw [r 1 (by decide)]; exact j3⟩, e4, fun a h1 h2 => by funext y; exact xm_n (by omega)⟩
theorem q_append (g : GI C T) (a b c d e : Int32) : OV (f_X8_append C a b c d e) (f_X9_append T a b c d e) := by
  have g0 := GI_16 (nI 0) g
  obtain ⟨u, g1, g2, g3, g4, g5, g6, g7, g8, g9, g10⟩ := g
  obtain ⟨n, n6, i1, i2, i3⟩ := g7
  have i2' : xput T 0 16 (nI 0) 0 10 = nI n := by rw [xp_s, if_neg (by decide)]; exact i2
  by_cases q : n ≤ 580
  · have j0 : JO n (xs 134 C) (xput T 0 16 (nI 0)) := ⟨i1, i2', by rw [xp_n (show (6 : Nat) ≠ 0 by decide)]; exact i3⟩
    obtain ⟨B1, T1, p1, q1, j1, f1, k1⟩ := put4C j0 (by omega) a
    obtain ⟨B2, T2, p2, q2, j2, f2, k2⟩ := put4C j1 (by omega) b
    obtain ⟨B3, T3, p3, q3, j3, f3, k3⟩ := put4C j2 (by omega) c
    obtain ⟨B4, T4, p4, q4, j4, f4, k4⟩ := put4C j3 (by omega) d
    obtain ⟨B5, T5, p5, q5, j5, f5, k5⟩ := put4C j4 (by omega) e
    have f9 := FT_t f1 (FT_t f2 (FT_t f3 (FT_t f4 f5)))
    have j6 : xm 134 2 (xm 134 2 (xm 134 2 (xm 134 2 (xm 134 2 C B1) B2) B3) B4) B5 134 1 = nI (n + 4 + 4 + 4 + 4 + 4) := j5.1
    have t6 : T5 0 10 = nI (n + 4 + 4 + 4 + 4 + 4) := j5.2.1
    have k9 : ∀ a, a ≠ 134 → a ≠ 135 → C a = xm 134 2 (xm 134 2 (xm 134 2 (xm 134 2 (xm 134 2 C B1) B2) B3) B4) B5 a := fun a h1 h2 => by rw [k5 a h1 h2, k4 a h1 h2, k3 a h1 h2, k2 a h1 h2, k1 a h1 h2]
    have t9 : ∀ a, a ≠ 0 → a ≠ 6 → T a = T5 a := fun a h1 h2 => by rw [f9.1 a h1 h2, xp_n h1]
    have t0 : ∀ y, y ≠ 16 → y ≠ 10 → T 0 y = T5 0 y := fun y h1 h2 => by rw [f9.2 y h2, xp_s, if_neg h1]
    refine ⟨nI (n + 4 + 4 + 4 + 4 + 4), _, T5, ?_, ?_, u, RC_cg (fun a ha => k9 (1 + a) (by omega) (by omega)) g1, by rw [← t9 1 (by decide) (by decide)]; exact g2, g3, g4, SN_cg (by rw [k9 0 (by decide) (by decide)]) (fun a h1 h2 => k9 a (by omega) (by omega)) (t0 6 (by decide) (by decide)) (t9 5 (by decide) (by decide)) g5, HI_cg (fun a h1 h2 => k9 a (by omega) (by omega)) (t0 5 (by decide) (by decide)) (t9 4 (by decide) (by decide)) g6, ⟨n + 4 + 4 + 4 + 4 + 4, by omega, j6, t6, j5.2.2⟩, RP_cg (by rw [k9 152 (by decide) (by decide)]) (k9 153 (by decide) (by decide)) (t0 15 (by decide) (by decide)) (t9 9 (by decide) (by decide)) g8, ?_, ?_⟩
    · simp (disch := omega) only [f_X8_append, xl_s, ob_s, xb_s, rd_n, wr_n, m_1, m_1b, nI_add, pk_mul, l_0, l_1, l_2, l_3, l_4, l_5, l_6, l_7, l_8, l_9, l_10, l_11, l_12, l_13, l_14, l_15, l_16, l_17, l_18, l_19, l_20, l_21, l_22, l_23, l_24, l_30, l_31, l_32, l_40, l_41, l_48, l_57, l_59, l_64, l_90, l_97, l_99, l_100, l_119, l_122, l_186, l_200, l_255, l_600, l_999, l_1488, l_1000000, show (580 : Int32) = nI 580 from Eq.trans rfl rfl, i1, i_leT, p1, p2, p3, p4, p5, len_read, j6]
    · simp (disch := omega) only [f_X9_append, xl_s, ob_s, xb_s, rd_n, wr_n, m_1, m_1b, nI_add, pk_mul, l_0, l_1, l_2, l_3, l_4, l_5, l_6, l_7, l_8, l_9, l_10, l_11, l_12, l_13, l_14, l_15, l_16, l_17, l_18, l_19, l_20, l_21, l_22, l_23, l_24, l_30, l_31, l_32, l_40, l_41, l_48, l_57, l_59, l_64, l_90, l_97, l_99, l_100, l_119, l_122, l_186, l_200, l_255, l_600, l_999, l_1488, l_1000000, i2', i_leT, q1, q2, q3, q4, q5, t6]
    · rw [← k9 133 (by decide) (by decide), ← t0 12 (by decide) (by decide)]; exact g9
    · rw [← k9 133 (by decide) (by decide), ← t0 13 (by decide) (by decide)]; exact g10
  · refine ⟨oI 0, C, _, ?_, ?_, g0⟩
    · simp (disch := omega) only [f_X8_append, xl_s, ob_s, xb_s, rd_n, wr_n, m_1, m_1b, nI_add, pk_mul, l_0, l_1, l_2, l_3, l_4, l_5, l_6, l_7, l_8, l_9, l_10, l_11, l_12, l_13, l_14, l_15, l_16, l_17, l_18, l_19, l_20, l_21, l_22, l_23, l_24, l_30, l_31, l_32, l_40, l_41, l_48, l_57, l_59, l_64, l_90, l_97, l_99, l_100, l_119, l_122, l_186, l_200, l_255, l_600, l_999, l_1488, l_1000000, show (580 : Int32) = nI 580 from Eq.trans rfl rfl, i1, i_leF]
    · simp (disch := omega) only [f_X9_append, xl_s, ob_s, xb_s, rd_n, wr_n, m_1, m_1b, nI_add, pk_mul, l_0, l_1, l_2, l_3, l_4, l_5, l_6, l_7, l_8, l_9, l_10, l_11, l_12, l_13, l_14, l_15, l_16, l_17, l_18, l_19, l_20, l_21, l_22, l_23, l_24, l_30, l_31, l_32, l_40, l_41, l_48, l_57, l_59, l_64, l_90, l_97, l_99, l_100, l_119, l_122, l_186, l_200, l_255, l_600, l_999, l_1488, l_1000000, i2', i_leF]
theorem q_truncateInput (g : GI C T) (x : Int32) : OK [(2, 1)] (f_X8_truncateInput C x) (f_X9_truncateInput T x) := by
  have gg := g
  obtain ⟨u, g1, g2, g3, g4, g5, g6, g7, g8, g9, g10⟩ := g
  obtain ⟨n, n6, i1, i2, i3⟩ := g7
  have hr := m_rg x 0 n
  have hx : ∀ k, x = nI k → k < 2 ^ 31 → qrg x 0 n = decide (k ≤ n) := fun k hk h31 => by
    subst hk
    unfold qrg
    rw [decide_eq_decide]
    exact ⟨fun z => (nI_leI h31 (by omega)).mp z.2, fun z => ⟨nI_le (Nat.zero_le k) h31, nI_le z (by omega)⟩⟩
  have bad : qrg x 0 n = false → f_X8_truncateInput C x = some (2, nI 0, C) → OK [(2, 1)] (f_X8_truncateInput C x) (f_X9_truncateInput T x) := fun hb h8 => by
    rw [hb] at hr
    refine ok_t gg 2 1 (by decide) h8 ?_
    simp (disch := omega) only [f_X9_truncateInput, xl_s, ob_s, xb_s, rd_n, wr_n, m_1, m_1b, nI_add, pk_mul, l_0, l_1, l_2, l_3, l_4, l_5, l_6, l_7, l_8, l_9, l_10, l_11, l_12, l_13, l_14, l_15, l_16, l_17, l_18, l_19, l_20, l_21, l_22, l_23, l_24, l_30, l_31, l_32, l_40, l_41, l_48, l_57, l_59, l_64, l_90, l_97, l_99, l_100, l_119, l_122, l_186, l_200, l_255, l_600, l_999, l_1488, l_1000000, i2, hr, nBf0, if_true, th1_1, z10, if_false]
  by_cases hneg : x < 0
  · refine bad ?_ ?_
    · unfold qrg
      exact decide_eq_false (fun q => Int32.not_lt.mpr q.1 hneg)
    · rw [f_X8_truncateInput, if_pos hneg]; rfl
  · obtain ⟨k, hk, rfl⟩ := nI_of hneg
    by_cases q : k ≤ n
    · rw [hx k rfl hk, decide_eq_true q] at hr
      refine ok_r (r := nI k) (C' := xput C 134 1 (nI k)) (T' := xput (xput T 0 16 (nI 0)) 0 10 (nI k)) ⟨u, RC_cg (fun a ha => by show C (1 + a) = xput C 134 1 (nI k) (1 + a); rw [xp_n (by omega)]) g1, by rw [xp_n (by decide), xp_n (by decide)]; exact g2, g3, g4, SN_cg (by rw [xp_n (by decide)]) (fun a h1 h2 => by rw [xp_n (by omega)]) (by rw [xp_s, if_neg (by decide), xp_s, if_neg (by decide)]) (by rw [xp_n (by decide), xp_n (by decide)]) g5, HI_cg (fun a h1 h2 => by rw [xp_n (by omega)]) (by rw [xp_s, if_neg (by decide), xp_s, if_neg (by decide)]) (by rw [xp_n (by decide), xp_n (by decide)]) g6, ⟨k, by omega, by rw [xp_s, if_pos rfl], by rw [xp_s, if_pos rfl], fun i hi => ?_⟩, RP_cg (by rw [xp_n (by decide)]) (by rw [xp_n (by decide)]) (by rw [xp_s, if_neg (by decide), xp_s, if_neg (by decide)]) (by rw [xp_n (by decide), xp_n (by decide)]) g8, ?_, ?_⟩ ?_ ?_ ?_
      · rw [xp_n (show (135 : Nat) ≠ 134 by decide), xp_n (show (6 : Nat) ≠ 0 by decide), xp_n (show (6 : Nat) ≠ 0 by decide)]
        exact i3 i (by omega)
      · rw [xp_n (by decide), xp_s, if_neg (by decide), xp_s, if_neg (by decide)]; exact g9
      · rw [xp_n (by decide), xp_s, if_neg (by decide), xp_s, if_neg (by decide)]; exact g10
      · rw [xp_s, if_neg (by decide), xp_s, if_pos rfl]
      · rw [f_X8_truncateInput, if_neg hneg]
        simp (disch := omega) only [xl_s, ob_s, xb_s, rd_n, wr_n, m_1, m_1b, nI_add, pk_mul, l_0, l_1, l_2, l_3, l_4, l_5, l_6, l_7, l_8, l_9, l_10, l_11, l_12, l_13, l_14, l_15, l_16, l_17, l_18, l_19, l_20, l_21, l_22, l_23, l_24, l_30, l_31, l_32, l_40, l_41, l_48, l_57, l_59, l_64, l_90, l_97, l_99, l_100, l_119, l_122, l_186, l_200, l_255, l_600, l_999, l_1488, l_1000000, i1, i_leT]
      · simp (disch := omega) only [f_X9_truncateInput, xl_s, ob_s, xb_s, rd_n, wr_n, m_1, m_1b, nI_add, pk_mul, l_0, l_1, l_2, l_3, l_4, l_5, l_6, l_7, l_8, l_9, l_10, l_11, l_12, l_13, l_14, l_15, l_16, l_17, l_18, l_19, l_20, l_21, l_22, l_23, l_24, l_30, l_31, l_32, l_40, l_41, l_48, l_57, l_59, l_64, l_90, l_97, l_99, l_100, l_119, l_122, l_186, l_200, l_255, l_600, l_999, l_1488, l_1000000, i2, hr, nBt0, if_false, th1_0, if_true]
    · refine bad (by rw [hx k rfl hk, decide_eq_false q]) ?_
      rw [f_X8_truncateInput, if_neg hneg]
      simp (disch := omega) only [xl_s, ob_s, xb_s, rd_n, wr_n, m_1, m_1b, nI_add, pk_mul, l_0, l_1, l_2, l_3, l_4, l_5, l_6, l_7, l_8, l_9, l_10, l_11, l_12, l_13, l_14, l_15, l_16, l_17, l_18, l_19, l_20, l_21, l_22, l_23, l_24, l_30, l_31, l_32, l_40, l_41, l_48, l_57, l_59, l_64, l_90, l_97, l_99, l_100, l_119, l_122, l_186, l_200, l_255, l_600, l_999, l_1488, l_1000000, i1, i_leF]
end
