/-! level 2: the report, two quotients, what a cat will have -/
def RPn (n : Nat) (S T : XS) : Prop := S 0 1 = nI n ∧ T 0 15 = nI n ∧ ∀ i, i < n → ∃ b, b < 128 ∧ S 1 i = nI b ∧ T 9 i = nI b
def FR (T T1 : XS) : Prop := (∀ a, a ≠ 0 → a ≠ 9 → T1 a = T a) ∧ ∀ y, y ≠ 15 → T1 0 y = T 0 y
section
variable {S T C C' T' S' : XS} {u : QU} {n : Nat}
theorem FR_r : FR T T := ⟨fun _ _ _ => rfl, fun _ _ => rfl⟩
theorem FR_t {T2 : XS} (h1 : FR T T') (h2 : FR T' T2) : FR T T2 := ⟨fun a h0 h6 => by rw [h2.1 a h0 h6, h1.1 a h0 h6], fun y hy => by rw [h2.2 y hy, h1.2 y hy]⟩
theorem xs_0 : xs 0 S = S := by
  funext a y
  rw [xs_d, Nat.zero_add]
theorem len_rep : shRep.length = 2 := Eq.trans rfl rfl
theorem xm_0 (h : ∀ a, 2 ≤ a → S' a = S a) : xm 0 2 S S' = S' := by
  funext a y
  by_cases q : a < 2
  · rw [xm_i (by omega), Nat.sub_zero]
  · rw [xm_n (by omega), h a (by omega)]
theorem w_put (h : RPn n S T) (hn : n < 59) {b : Nat} (hb : b < 128) : ∃ S1 T1, f_X5_put S (nI b) = some S1 ∧ f_X9_write T (nI b) = some T1 ∧ RPn (n + 1) S1 T1 ∧ (∀ a, 2 ≤ a → S1 a = S a) ∧ FR T T1 := by
  obtain ⟨j1, j2, j3⟩ := h
  obtain ⟨c1, c2⟩ := nar_c b hb
  refine ⟨xput (xput S 1 n (nI b)) 0 1 (nI (n + 1)), xput (xput T 9 n (nI b)) 0 15 (nI (n + 1)), ?_, ?_, ⟨?_, ?_, fun i hi => ?_⟩, fun a ha => ?_, fun a h0 h6 => ?_, fun y hy => ?_⟩
  · simp (disch := omega) only [f_X5_put, xl_s, ob_s, xb_s, rd_n, wr_n, m_1, m_1b, nI_add, pk_mul, l_0, l_1, l_2, l_3, l_4, l_5, l_6, l_7, l_8, l_9, l_10, l_11, l_12, l_13, l_14, l_15, l_16, l_17, l_18, l_19, l_20, l_21, l_22, l_23, l_24, l_30, l_31, l_32, l_40, l_41, l_48, l_57, l_59, l_64, l_90, l_97, l_99, l_100, l_119, l_122, l_186, l_200, l_255, l_600, l_999, l_1488, l_1000000, j1, i_leF, xq_n, c1]
  · simp (disch := omega) only [f_X9_write, xl_s, ob_s, xb_s, rd_n, wr_n, m_1, m_1b, nI_add, pk_mul, l_0, l_1, l_2, l_3, l_4, l_5, l_6, l_7, l_8, l_9, l_10, l_11, l_12, l_13, l_14, l_15, l_16, l_17, l_18, l_19, l_20, l_21, l_22, l_23, l_24, l_30, l_31, l_32, l_40, l_41, l_48, l_57, l_59, l_64, l_90, l_97, l_99, l_100, l_119, l_122, l_186, l_200, l_255, l_600, l_999, l_1488, l_1000000, j2, xq_n, c2]
  · rw [xp_s, if_pos rfl]
  · rw [xp_s, if_pos rfl]
  · rw [xp_n (show (1 : Nat) ≠ 0 by decide), xp_n (show (9 : Nat) ≠ 0 by decide), xp_s, xp_s]
    by_cases q : i = n
    · rw [if_pos q, if_pos q]; exact ⟨b, hb, rfl, rfl⟩
    · rw [if_neg q, if_neg q]; exact j3 i (by omega)
  · rw [xp_n (by omega), xp_n (by omega)]
  · rw [xp_n h0, xp_n h6]
  · rw [xp_s, if_neg hy, xp_n (by decide)]
theorem w_cat (h : RPn n S T) (hn : n + 2 ≤ 59) {b : Nat} (hb : b < 128) {k : Nat} (hk : k ≤ 10) : ∃ m S1 T1, m ≤ n + 2 ∧ f_X5_putCat S (nI b) (oI k) = some S1 ∧ f_X9_writeCat T (nI b) (oI k) = some T1 ∧ RPn m S1 T1 ∧ (∀ a, 2 ≤ a → S1 a = S a) ∧ FR T T1 := by
  cases k with
  | zero =>
    refine ⟨n, S, T, by omega, ?_, ?_, h, fun _ _ => rfl, FR_r⟩
    · simp (disch := omega) only [f_X5_putCat, xl_s, ob_s, xb_s, rd_n, wr_n, m_1, m_1b, nI_add, pk_mul, l_0, l_1, l_2, l_3, l_4, l_5, l_6, l_7, l_8, l_9, l_10, l_11, l_12, l_13, l_14, l_15, l_16, l_17, l_18, l_19, l_20, l_21, l_22, l_23, l_24, l_30, l_31, l_32, l_40, l_41, l_48, l_57, l_59, l_64, l_90, l_97, l_99, l_100, l_119, l_122, l_186, l_200, l_255, l_600, l_999, l_1488, l_1000000, if_true]
    · simp (disch := omega) only [f_X9_writeCat, xl_s, ob_s, xb_s, rd_n, wr_n, m_1, m_1b, nI_add, pk_mul, l_0, l_1, l_2, l_3, l_4, l_5, l_6, l_7, l_8, l_9, l_10, l_11, l_12, l_13, l_14, l_15, l_16, l_17, l_18, l_19, l_20, l_21, l_22, l_23, l_24, l_30, l_31, l_32, l_40, l_41, l_48, l_57, l_59, l_64, l_90, l_97, l_99, l_100, l_119, l_122, l_186, l_200, l_255, l_600, l_999, l_1488, l_1000000, if_true]
  | succ k =>
    obtain ⟨S1, T1, a1, a2, a3, a4, a5⟩ := w_put h (by omega) hb
    obtain ⟨S2, T2, b1, b2, b3, b4, b5⟩ := w_put a3 (by omega) (b := 48 + k) (by omega)
    have e0 : (oI (k + 1) : Int32) = nI k := rfl
    refine ⟨n + 1 + 1, S2, T2, by omega, ?_, ?_, b3, fun a ha => by rw [b4 a ha, a4 a ha], FR_t a5 b5⟩
    · simp (disch := omega) only [f_X5_putCat, xl_s, ob_s, xb_s, rd_n, wr_n, m_1, m_1b, nI_add, pk_mul, l_0, l_1, l_2, l_3, l_4, l_5, l_6, l_7, l_8, l_9, l_10, l_11, l_12, l_13, l_14, l_15, l_16, l_17, l_18, l_19, l_20, l_21, l_22, l_23, l_24, l_30, l_31, l_32, l_40, l_41, l_48, l_57, l_59, l_64, l_90, l_97, l_99, l_100, l_119, l_122, l_186, l_200, l_255, l_600, l_999, l_1488, l_1000000, e0, i_oiF, i_F, a1, b1, if_true, if_false, and_self]
      simp (disch := omega) only [nI_oI, i_F, reduceCtorEq, if_false, if_true]
    · simp (disch := omega) only [f_X9_writeCat, xl_s, ob_s, xb_s, rd_n, wr_n, m_1, m_1b, nI_add, pk_mul, l_0, l_1, l_2, l_3, l_4, l_5, l_6, l_7, l_8, l_9, l_10, l_11, l_12, l_13, l_14, l_15, l_16, l_17, l_18, l_19, l_20, l_21, l_22, l_23, l_24, l_30, l_31, l_32, l_40, l_41, l_48, l_57, l_59, l_64, l_90, l_97, l_99, l_100, l_119, l_122, l_186, l_200, l_255, l_600, l_999, l_1488, l_1000000, e0, i_oiF, i_F, a2, b2, if_true, if_false, and_self]
      simp (disch := omega) only [nI_oI, i_F, reduceCtorEq, if_false, if_true]
theorem w_it {j : Nat} (w : WF u) (hj : j < u 0 0) (h : RPn n S T) (hc : RC (xs 2 S) u) (hm : RM (T 1) u) (hn : n ≤ 6 * j - 1) : ∃ m S1 T1, m ≤ 6 * (j + 1) - 1 ∧ RPn m S1 T1 ∧ (∀ a, 2 ≤ a → S1 a = S a) ∧ FR T T1 ∧ (∀ K f, f_X5_write_L7 K (f + 1) (nI j) S = f_X5_write_L7 K f (nI (j + 1)) S1) ∧ ∀ K f, f_X9_writeRoof_L12 K (f + 1) (nI j) T = f_X9_writeRoof_L12 K f (nI (j + 1)) T1 := by
  have b0 : u 0 0 ≤ 10 := w.2.1
  have bw : u 1 j ≤ 9 := by obtain ⟨hB, w0, w3, w7, wN, wk, wg, wc, wd, wo, wv⟩ := w; exact (wk j hj).1
  have bo : u 2 j ≤ 8 := by obtain ⟨hB, w0, w3, w7, wN, wk, wg, wc, wd, wo, wv⟩ := w; have := (wk j hj).2; omega
  have bs := qsit_le w j
  have hcs : ∀ S', (∀ a, 2 ≤ a → S' a = S a) → S' 2 0 = nI (u 0 0) ∧ S' 3 j = nI (u 1 j) ∧ S' 4 j = oI (u 2 j) ∧ f_X6_sitter (xs 2 S') (nI j) = some (oI (qsit u j)) := fun S' hS => by
    have hc' : RC (xs 2 S') u := RC_cg (fun a ha => (hS (2 + a) (by omega)).symm) hc
    exact ⟨hc'.1.1, hc'.2.1 j hj, hc'.2.2.1 j hj, kc_sitter hc' w (by omega)⟩
  have hms : ∀ T', FR T T' → T' 1 0 = nI (u 0 0) ∧ T' 1 (10 + j) = nI (u 1 j) ∧ f_X9_sitter T' (nI j) = some (oI (qsit u j)) ∧ f_X9_owner T' (nI j) = some (oI (u 2 j)) := fun T' hT => by
    have hm' : RM (T' 1) u := by rw [hT.1 1 (by decide) (by decide)]; exact hm
    refine ⟨hm'.1, ?_, km_sitter hm' w (by omega), km_owner hm' (by omega)⟩
    have h := hm'
    obtain ⟨m0, m1, m2, m3, m4, m5, m6, m7, m8, m9, n1, n2, n3, n4, n5, n6, n7, n8, n9, nT⟩ := h
    exact n1 j (by omega)
  have hc0 := hcs S (fun _ _ => rfl)
  have hm0 := hms T FR_r
  by_cases q : j = 0
  · obtain rfl : n = 0 := by omega
    obtain ⟨S1, T1, a1, a2, a3, a4, a5⟩ := w_put h (by omega) (b := 48 + u 1 j) (by omega)
    obtain ⟨m2, S2, T2, b0', b1, b2, b3, b4, b5⟩ := w_cat a3 (by omega) (b := 99) (by decide) (k := qsit u j) (by omega)
    obtain ⟨m3, S3, T3, d0, d1, d2, d3, d4, d5⟩ := w_cat b3 (by omega) (b := 111) (by decide) (k := u 2 j) (by omega)
    have e2 : ∀ a, 2 ≤ a → S2 a = S a := fun a ha => by rw [b4 a ha, a4 a ha]
    have e3 : ∀ a, 2 ≤ a → S3 a = S a := fun a ha => by rw [d4 a ha, e2 a ha]
    have c1 := hcs S1 a4
    have c2 := hcs S2 e2
    have t1 := hms T1 a5
    have t2 := hms T2 (FR_t a5 b5)
    refine ⟨m3, S3, T3, by omega, d3, e3, FR_t a5 (FR_t b5 d5), fun K f => ?_, fun K f => ?_⟩
    · rw [f_X5_write_L7]
      simp (disch := omega) only [xl_s, ob_s, xb_s, rd_n, wr_n, m_1, m_1b, nI_add, pk_mul, l_0, l_1, l_2, l_3, l_4, l_5, l_6, l_7, l_8, l_9, l_10, l_11, l_12, l_13, l_14, l_15, l_16, l_17, l_18, l_19, l_20, l_21, l_22, l_23, l_24, l_30, l_31, l_32, l_40, l_41, l_48, l_57, l_59, l_64, l_90, l_97, l_99, l_100, l_119, l_122, l_186, l_200, l_255, l_600, l_999, l_1488, l_1000000, show (111 : Int32) = nI 111 from Eq.trans rfl rfl, xs_0, len_rep, hc0, i_leF, i_leT, a1, xm_0 a4, c1, b1, xm_0 b4, c2, d1, xm_0 d4]
    · rw [f_X9_writeRoof_L12]
      simp (disch := omega) only [xl_s, ob_s, xb_s, rd_n, wr_n, m_1, m_1b, nI_add, pk_mul, l_0, l_1, l_2, l_3, l_4, l_5, l_6, l_7, l_8, l_9, l_10, l_11, l_12, l_13, l_14, l_15, l_16, l_17, l_18, l_19, l_20, l_21, l_22, l_23, l_24, l_30, l_31, l_32, l_40, l_41, l_48, l_57, l_59, l_64, l_90, l_97, l_99, l_100, l_119, l_122, l_186, l_200, l_255, l_600, l_999, l_1488, l_1000000, show (111 : Int32) = nI 111 from Eq.trans rfl rfl, hm0, i_leF, i_leT, a2, t1, b2, t2, d2]
  · obtain ⟨S0, T0, z1, z2, z3, z4, z5⟩ := w_put h (by omega) (b := 32) (by decide)
    obtain ⟨S1, T1, a1, a2, a3, a4, a5⟩ := w_put z3 (by omega) (b := 48 + u 1 j) (by omega)
    obtain ⟨m2, S2, T2, b0', b1, b2, b3, b4, b5⟩ := w_cat a3 (by omega) (b := 99) (by decide) (k := qsit u j) (by omega)
    obtain ⟨m3, S3, T3, d0, d1, d2, d3, d4, d5⟩ := w_cat b3 (by omega) (b := 111) (by decide) (k := u 2 j) (by omega)
    have e1 : ∀ a, 2 ≤ a → S1 a = S a := fun a ha => by rw [a4 a ha, z4 a ha]
    have e2 : ∀ a, 2 ≤ a → S2 a = S a := fun a ha => by rw [b4 a ha, e1 a ha]
    have e3 : ∀ a, 2 ≤ a → S3 a = S a := fun a ha => by rw [d4 a ha, e2 a ha]
    have c0 := hcs S0 z4
    have c1 := hcs S1 e1
    have c2 := hcs S2 e2
    have t0 := hms T0 z5
    have t1 := hms T1 (FR_t z5 a5)
    have t2 := hms T2 (FR_t z5 (FR_t a5 b5))
    refine ⟨m3, S3, T3, by omega, d3, e3, FR_t z5 (FR_t a5 (FR_t b5 d5)), fun K f => ?_, fun K f => ?_⟩
    · rw [f_X5_write_L7]
      simp (disch := omega) only [xl_s, ob_s, xb_s, rd_n, wr_n, m_1, m_1b, nI_add, pk_mul, l_0, l_1, l_2, l_3, l_4, l_5, l_6, l_7, l_8, l_9, l_10, l_11, l_12, l_13, l_14, l_15, l_16, l_17, l_18, l_19, l_20, l_21, l_22, l_23, l_24, l_30, l_31, l_32, l_40, l_41, l_48, l_57, l_59, l_64, l_90, l_97, l_99, l_100, l_119, l_122, l_186, l_200, l_255, l_600, l_999, l_1488, l_1000000, show (111 : Int32) = nI 111 from Eq.trans rfl rfl, xs_0, len_rep, hc0, i_leF, i_leT, z1, xm_0 z4, c0, a1, xm_0 a4, c1, b1, xm_0 b4, c2, d1, xm_0 d4]
    · rw [f_X9_writeRoof_L12]
      simp (disch := omega) only [xl_s, ob_s, xb_s, rd_n, wr_n, m_1, m_1b, nI_add, pk_mul, l_0, l_1, l_2, l_3, l_4, l_5, l_6, l_7, l_8, l_9, l_10, l_11, l_12, l_13, l_14, l_15, l_16, l_17, l_18, l_19, l_20, l_21, l_22, l_23, l_24, l_30, l_31, l_32, l_40, l_41, l_48, l_57, l_59, l_64, l_90, l_97, l_99, l_100, l_119, l_122, l_186, l_200, l_255, l_600, l_999, l_1488, l_1000000, show (111 : Int32) = nI 111 from Eq.trans rfl rfl, hm0, i_leF, i_leT, z2, t0, a2, t1, b2, t2, d2]
theorem q_writeRoof (g : GI C T) : OV (f_X8_writeRoof C) (f_X9_writeRoof T) := by
  obtain ⟨u, g1, g2, g3, g4, g5, g6, g7, g8, g9, g10⟩ := g
  have b0 : u 0 0 ≤ 10 := g3.2.1
  have hB1 : ∀ i, i < 2 → C (xσ 152 2 1 i) = C (152 + i) := fun i hi => by rw [xS_1 hi]
  have hB2 : ∀ i, C (xσ 152 2 1 (2 + i)) = C (1 + i) := fun i => by rw [xS_2 (by omega), Nat.add_sub_cancel_left]
  have z1 : RPn 0 (xput (fun i => C (xσ 152 2 1 i)) 0 1 (nI 0)) (xput (xput T 0 16 (nI 0)) 0 15 (nI 0)) := ⟨by rw [xp_s, if_pos rfl], by rw [xp_s, if_pos rfl], fun i hi => by omega⟩
  have z2 : RC (xs 2 (xput (fun i => C (xσ 152 2 1 i)) 0 1 (nI 0))) u := RC_cg (fun a ha => by
    show C (1 + a) = xput _ 0 1 (nI 0) (2 + a)
    rw [xp_n (by omega), hB2]) g1
  have z3 : RM (xput (xput T 0 16 (nI 0)) 0 15 (nI 0) 1) u := by rw [xp_n (by decide), xp_n (by decide)]; exact g2
  have key : ∃ m S1 T1, m ≤ 59 ∧ RPn m S1 T1 ∧ RC (xs 2 S1) u ∧ FR (xput (xput T 0 16 (nI 0)) 0 15 (nI 0)) T1 ∧ f_X5_write (fun i => C (xσ 152 2 1 i)) = some S1 ∧ f_X9_writeRoof T = some (nI m, T1) := by
    have l := q_lp (α := XS × XS) (fun n j a => ∃ m S1 T1, m ≤ 59 ∧ RPn m S1 T1 ∧ RC (xs 2 S1) u ∧ FR (xput (xput T 0 16 (nI 0)) 0 15 (nI 0)) T1 ∧ f_X5_write_L7 (fun v17 S18 => some S18) n (nI j) a.1 = some S1 ∧ f_X9_writeRoof_L12 (fun v19 S20 => some ((S20 0 15), S20)) n (nI j) a.2 = some (nI m, T1)) (fun j a => ∃ m, m ≤ 6 * j - 1 ∧ RPn m a.1 a.2 ∧ RC (xs 2 a.1) u ∧ RM (a.2 1) u ∧ FR (xput (xput T 0 16 (nI 0)) 0 15 (nI 0)) a.2) (u 0 0) (xput (fun i => C (xσ 152 2 1 i)) 0 1 (nI 0), xput (xput T 0 16 (nI 0)) 0 15 (nI 0)) (by omega) ⟨0, by omega, z1, z2, z3, FR_r⟩ ?_ ?_
    · obtain ⟨m, S1, T1, h1, h2, h3, h4, h5, h6⟩ := l
      refine ⟨m, S1, T1, h1, h2, h3, h4, ?_, ?_⟩
      · simp only [f_X5_write, xl_s, l_0, l_1, l_2, l_3, l_4, l_5, l_6, l_7, l_8, l_9, l_10, l_11, l_12, l_13, l_14, l_15, l_16, l_17, l_18, l_19, l_20, l_21, l_22, l_23, l_24, l_30, l_31, l_32, l_40, l_41, l_48, l_57, l_59, l_64, l_90, l_97, l_99, l_100, l_119, l_122, l_186, l_200, l_255, l_600, l_999, l_1488, l_1000000]
        exact h5
      · simp only [f_X9_writeRoof, xl_s, l_0, l_1, l_2, l_3, l_4, l_5, l_6, l_7, l_8, l_9, l_10, l_11, l_12, l_13, l_14, l_15, l_16, l_17, l_18, l_19, l_20, l_21, l_22, l_23, l_24, l_30, l_31, l_32, l_40, l_41, l_48, l_57, l_59, l_64, l_90, l_97, l_99, l_100, l_119, l_122, l_186, l_200, l_255, l_600, l_999, l_1488, l_1000000]
        exact h6
    · rintro n ⟨S1, T1⟩ ⟨m, h1, h2, h3, h4, h5⟩
      have c0 : S1 2 0 = nI (u 0 0) := h3.1.1
      have m0 : T1 1 0 = nI (u 0 0) := h4.1
      have h21 : T1 0 15 = nI m := h2.2.1
      refine ⟨m, S1, T1, by omega, h2, h3, h5, ?_, ?_⟩
      · simp (disch := omega) only [f_X5_write_L7, xl_s, ob_s, xb_s, rd_n, wr_n, m_1, m_1b, nI_add, pk_mul, l_0, l_1, l_2, l_3, l_4, l_5, l_6, l_7, l_8, l_9, l_10, l_11, l_12, l_13, l_14, l_15, l_16, l_17, l_18, l_19, l_20, l_21, l_22, l_23, l_24, l_30, l_31, l_32, l_40, l_41, l_48, l_57, l_59, l_64, l_90, l_97, l_99, l_100, l_119, l_122, l_186, l_200, l_255, l_600, l_999, l_1488, l_1000000, c0, i_leT]
      · simp (disch := omega) only [f_X9_writeRoof_L12, xl_s, ob_s, xb_s, rd_n, wr_n, m_1, m_1b, nI_add, pk_mul, l_0, l_1, l_2, l_3, l_4, l_5, l_6, l_7, l_8, l_9, l_10, l_11, l_12, l_13, l_14, l_15, l_16, l_17, l_18, l_19, l_20, l_21, l_22, l_23, l_24, l_30, l_31, l_32, l_40, l_41, l_48, l_57, l_59, l_64, l_90, l_97, l_99, l_100, l_119, l_122, l_186, l_200, l_255, l_600, l_999, l_1488, l_1000000, m0, i_leT, h21]
    · rintro n j ⟨S1, T1⟩ hj ⟨m, h1, h2, h3, h4, h5⟩ ih
      obtain ⟨m', S2, T2, a1, a2, a3, a4, a5, a6⟩ := w_it g3 hj h2 h3 h4 h1
      have := ih (S2, T2) ⟨m', a1, a2, RC_cg (fun a ha => (a3 (2 + a) (by omega)).symm) h3, (show RM (T2 1) u by rw [a4.1 1 (by decide) (by decide)]; exact h4), FR_t h5 a4⟩
      simp only [a5, a6]
      exact this
  obtain ⟨m, S1, T1, hm, h2, h3, h4, h5, h6⟩ := key
  have k1 : ∀ a, a < 2 → xmF (xτ 152 2 1 13) C S1 (152 + a) = S1 a := fun a ha => by funext y; rw [xF_1 (by omega), Nat.add_sub_cancel_left]
  have k2 : ∀ a, a < 13 → xmF (xτ 152 2 1 13) C S1 (1 + a) = S1 (2 + a) := fun a ha => by funext y; rw [xF_2 (by omega) (by omega), Nat.add_sub_cancel_left]
  have k3 : ∀ a, (a < 1 ∨ 14 ≤ a) → a < 152 → C a = xmF (xτ 152 2 1 13) C S1 a := fun a h1 h2 => by funext y; rw [xF_n (by omega) (by omega)]
  have t9 : ∀ a, a ≠ 0 → a ≠ 9 → T a = T1 a := fun a h1 h2 => by rw [h4.1 a h1 h2, xp_n h1, xp_n h1]
  have t0 : ∀ y, y ≠ 16 → y ≠ 15 → T 0 y = T1 0 y := fun y h1 h2 => by rw [h4.2 y h2, xp_s, if_neg h2, xp_s, if_neg h1]
  have d1 : xmF (xτ 152 2 1 13) C S1 152 1 = nI m := by rw [show (152 : Nat) = 152 + 0 from rfl, k1 0 (by decide)]; exact h2.1
  have d2 : xmF (xτ 152 2 1 13) C S1 153 = S1 1 := k1 1 (by decide)
  refine ⟨nI m, _, T1, ?_, h6, u, RC_cg (fun a ha => (k2 a ha).symm) h3, by rw [← t9 1 (by decide) (by decide)]; exact g2, g3, g4, SN_cg (by rw [k3 0 (by decide) (by decide)]) (fun a h1 h2 => k3 a (by omega) (by omega)) (t0 6 (by decide) (by decide)) (t9 5 (by decide) (by decide)) g5, HI_cg (fun a h1 h2 => k3 a (by omega) (by omega)) (t0 5 (by decide) (by decide)) (t9 4 (by decide) (by decide)) g6, IN_cg (by rw [k3 134 (by decide) (by decide)]) (k3 135 (by decide) (by decide)) (t0 10 (by decide) (by decide)) (t9 6 (by decide) (by decide)) g7, ⟨m, hm, d1, h2.2.1, by rw [d2]; exact h2.2.2⟩, ?_, ?_⟩
  · simp (disch := omega) only [f_X8_writeRoof, xl_s, ob_s, xb_s, rd_n, wr_n, m_1, m_1b, nI_add, pk_mul, l_0, l_1, l_2, l_3, l_4, l_5, l_6, l_7, l_8, l_9, l_10, l_11, l_12, l_13, l_14, l_15, l_16, l_17, l_18, l_19, l_20, l_21, l_22, l_23, l_24, l_30, l_31, l_32, l_40, l_41, l_48, l_57, l_59, l_64, l_90, l_97, l_99, l_100, l_119, l_122, l_186, l_200, l_255, l_600, l_999, l_1488, l_1000000, h5, d1]
  · rw [← k3 133 (by decide) (by decide), ← t0 12 (by decide) (by decide)]; exact g9
  · rw [← k3 133 (by decide) (by decide), ← t0 13 (by decide) (by decide)]; exact g10
theorem q_reportByte (g : GI C T) (x : Int32) : OQ C T (f_X8_reportByte C x) (f_X9_reportByte T x) := by
  have g0 := GI_16 (nI 0) g
  obtain ⟨u, g1, g2, g3, g4, g5, g6, g7, g8, g9, g10⟩ := g
  obtain ⟨n, hn, r1, r2, r3⟩ := g8
  have r2' : xput T 0 16 (nI 0) 0 15 = nI n := by rw [xp_s, if_neg (by decide)]; exact r2
  have r9 : xput T 0 16 (nI 0) 9 = T 9 := xp_n (by decide)
  have bad : f_X8_reportByte C x = some (oI 0) → f_X9_in x (nI 0) (nI n - nI 1) = some (nI 0) → OQ C T (f_X8_reportByte C x) (f_X9_reportByte T x) := fun h1 h2 => by
    refine ⟨oI 0, _, h1, ?_, g0⟩
    simp (disch := omega) only [f_X9_reportByte, xl_s, ob_s, xb_s, rd_n, wr_n, m_1, m_1b, nI_add, pk_mul, l_0, l_1, l_2, l_3, l_4, l_5, l_6, l_7, l_8, l_9, l_10, l_11, l_12, l_13, l_14, l_15, l_16, l_17, l_18, l_19, l_20, l_21, l_22, l_23, l_24, l_30, l_31, l_32, l_40, l_41, l_48, l_57, l_59, l_64, l_90, l_97, l_99, l_100, l_119, l_122, l_186, l_200, l_255, l_600, l_999, l_1488, l_1000000, r2', h2, if_true]
  by_cases hneg : x < 0
  · refine bad ?_ ?_
    · rw [f_X8_reportByte, if_pos hneg, m_1]
    · rw [f_X9_in, if_pos (show x < nI 0 from hneg)]; rfl
  · obtain ⟨k, hk, rfl⟩ := nI_of hneg
    have hge : ¬ nI k < nI 0 := hneg
    by_cases q : k < n
    · obtain ⟨b, b1, b2, b3⟩ := r3 k q
      have e1 : nI n - nI 1 = nI (n - 1) := pk_sub (by omega)
      have hr := m_rg (nI k) 0 (n - 1)
      rw [qrg_i (Nat.zero_le k) (by omega) (by omega)] at hr
      refine ⟨nI b, _, ?_, ?_, g0⟩
      · rw [f_X8_reportByte, if_neg hneg]
        simp (disch := omega) only [xl_s, ob_s, xb_s, rd_n, wr_n, m_1, m_1b, nI_add, pk_mul, l_0, l_1, l_2, l_3, l_4, l_5, l_6, l_7, l_8, l_9, l_10, l_11, l_12, l_13, l_14, l_15, l_16, l_17, l_18, l_19, l_20, l_21, l_22, l_23, l_24, l_30, l_31, l_32, l_40, l_41, l_48, l_57, l_59, l_64, l_90, l_97, l_99, l_100, l_119, l_122, l_186, l_200, l_255, l_600, l_999, l_1488, l_1000000, r1, i_ltT, b2]
      · simp (disch := omega) only [f_X9_reportByte, xl_s, ob_s, xb_s, rd_n, wr_n, m_1, m_1b, nI_add, pk_mul, l_0, l_1, l_2, l_3, l_4, l_5, l_6, l_7, l_8, l_9, l_10, l_11, l_12, l_13, l_14, l_15, l_16, l_17, l_18, l_19, l_20, l_21, l_22, l_23, l_24, l_30, l_31, l_32, l_40, l_41, l_48, l_57, l_59, l_64, l_90, l_97, l_99, l_100, l_119, l_122, l_186, l_200, l_255, l_600, l_999, l_1488, l_1000000, r2', e1, hr, nBt0, if_false, r9, b3]
    · refine bad ?_ ?_
      · rw [f_X8_reportByte, if_neg hneg]
        simp (disch := omega) only [xl_s, ob_s, xb_s, rd_n, wr_n, m_1, m_1b, nI_add, pk_mul, l_0, l_1, l_2, l_3, l_4, l_5, l_6, l_7, l_8, l_9, l_10, l_11, l_12, l_13, l_14, l_15, l_16, l_17, l_18, l_19, l_20, l_21, l_22, l_23, l_24, l_30, l_31, l_32, l_40, l_41, l_48, l_57, l_59, l_64, l_90, l_97, l_99, l_100, l_119, l_122, l_186, l_200, l_255, l_600, l_999, l_1488, l_1000000, r1, i_ltF]
      · rw [f_X9_in, if_neg hge]
        have e : nI n - nI 1 < nI k := by
          by_cases z : n = 0
          · subst z
            show oI 0 < nI k
            have h3 : (oI 0).toInt = -1 := by decide
            apply Int32.lt_iff_toInt_lt.mpr
            rw [h3, nI_toInt hk]
            omega
          · rw [pk_sub (by omega)]
            exact nI_lt (by omega) hk
        rw [if_pos e]; rfl
theorem q_meanFish (g : GI C T) : ∃ v T', f_X8_meanFish C = some (v, C) ∧ f_X9_meanFish T = some (v, T') ∧ GI C T' := by
  have g0 := GI_16 (nI 0) g
  obtain ⟨u, hc, hm, w, hn, -⟩ := g
  have hm1 : RM (xput T 0 16 (nI 0) 1) u := rm16 hm
  have c7 : C 1 7 = nI (u 0 7) := hc.1.2.2.1
  have m7 : xput T 0 16 (nI 0) 1 2 = nI (u 0 7) := hm1.2.2.1
  have w7 : u 0 7 ≤ 8 := w.2.2.2.1
  by_cases q : u 0 7 = 0
  · refine ⟨FP.dconst0, _, ?_, ?_, g0⟩
    · simp (disch := omega) only [f_X8_meanFish, xl_s, ob_s, xb_s, rd_n, wr_n, m_1, m_1b, nI_add, pk_mul, l_0, l_1, l_2, l_3, l_4, l_5, l_6, l_7, l_8, l_9, l_10, l_11, l_12, l_13, l_14, l_15, l_16, l_17, l_18, l_19, l_20, l_21, l_22, l_23, l_24, l_30, l_31, l_32, l_40, l_41, l_48, l_57, l_59, l_64, l_90, l_97, l_99, l_100, l_119, l_122, l_186, l_200, l_255, l_600, l_999, l_1488, l_1000000, c7, i_eqT]
    · simp (disch := omega) only [f_X9_meanFish, xl_s, ob_s, xb_s, rd_n, wr_n, m_1, m_1b, nI_add, pk_mul, l_0, l_1, l_2, l_3, l_4, l_5, l_6, l_7, l_8, l_9, l_10, l_11, l_12, l_13, l_14, l_15, l_16, l_17, l_18, l_19, l_20, l_21, l_22, l_23, l_24, l_30, l_31, l_32, l_40, l_41, l_48, l_57, l_59, l_64, l_90, l_97, l_99, l_100, l_119, l_122, l_186, l_200, l_255, l_600, l_999, l_1488, l_1000000, m7, i_eqT]
  · have a := qall_le w
    have h1 := List.all_eq_true.mp mean_ok (qall u) (List.mem_range.mpr (by omega))
    have h2 := List.all_eq_true.mp h1 (u 0 7 - 1) (List.mem_range.mpr (by omega))
    rw [Nat.sub_add_cancel (by omega)] at h2
    obtain ⟨v, hv⟩ := Option.isSome_iff_exists.mp h2
    refine ⟨v, _, ?_, ?_, g0⟩
    · simp (disch := omega) only [f_X8_meanFish, xl_s, ob_s, xb_s, rd_n, wr_n, m_1, m_1b, nI_add, pk_mul, l_0, l_1, l_2, l_3, l_4, l_5, l_6, l_7, l_8, l_9, l_10, l_11, l_12, l_13, l_14, l_15, l_16, l_17, l_18, l_19, l_20, l_21, l_22, l_23, l_24, l_30, l_31, l_32, l_40, l_41, l_48, l_57, l_59, l_64, l_90, l_97, l_99, l_100, l_119, l_122, l_186, l_200, l_255, l_600, l_999, l_1488, l_1000000, c7, i_eqF, kc_all hc w, hv]
    · simp (disch := omega) only [f_X9_meanFish, xl_s, ob_s, xb_s, rd_n, wr_n, m_1, m_1b, nI_add, pk_mul, l_0, l_1, l_2, l_3, l_4, l_5, l_6, l_7, l_8, l_9, l_10, l_11, l_12, l_13, l_14, l_15, l_16, l_17, l_18, l_19, l_20, l_21, l_22, l_23, l_24, l_30, l_31, l_32, l_40, l_41, l_48, l_57, l_59, l_64, l_90, l_97, l_99, l_100, l_119, l_122, l_186, l_200, l_255, l_600, l_999, l_1488, l_1000000, m7, i_eqF, km_all hm1 w, hv]
theorem f0_ok : ∃ z, xdn (FP.f2d FP.fconst0) = some z := Option.isSome_iff_exists.mp (by decide +kernel)
theorem q_ownedShare (g : GI C T) : ∃ v T' z, f_X8_ownedShare C = some (v, C) ∧ f_X9_ownedShare T = some (v, T') ∧ GI C T' ∧ xdn (FP.f2d v) = some z := by
  have g0 := GI_16 (nI 0) g
  obtain ⟨u, hc, hm, w, hn, -⟩ := g
  have hm1 : RM (xput T 0 16 (nI 0) 1) u := rm16 hm
  have c0 : C 1 0 = nI (u 0 0) := hc.1.1
  have m0 : xput T 0 16 (nI 0) 1 0 = nI (u 0 0) := hm1.1
  have w0 : u 0 0 ≤ 10 := w.2.1
  have l0 : (0 : Int32) = nI 0 := rfl
  by_cases q : u 0 0 = 0
  · obtain ⟨z, hz⟩ := f0_ok
    refine ⟨FP.fconst0, _, z, ?_, ?_, g0, hz⟩
    · simp (disch := omega) only [f_X8_ownedShare, xl_s, ob_s, xb_s, rd_n, wr_n, m_1, m_1b, nI_add, pk_mul, l_0, l_1, l_2, l_3, l_4, l_5, l_6, l_7, l_8, l_9, l_10, l_11, l_12, l_13, l_14, l_15, l_16, l_17, l_18, l_19, l_20, l_21, l_22, l_23, l_24, l_30, l_31, l_32, l_40, l_41, l_48, l_57, l_59, l_64, l_90, l_97, l_99, l_100, l_119, l_122, l_186, l_200, l_255, l_600, l_999, l_1488, l_1000000, c0, i_eqT]
    · simp (disch := omega) only [f_X9_ownedShare, xl_s, ob_s, xb_s, rd_n, wr_n, m_1, m_1b, nI_add, pk_mul, l_0, l_1, l_2, l_3, l_4, l_5, l_6, l_7, l_8, l_9, l_10, l_11, l_12, l_13, l_14, l_15, l_16, l_17, l_18, l_19, l_20, l_21, l_22, l_23, l_24, l_30, l_31, l_32, l_40, l_41, l_48, l_57, l_59, l_64, l_90, l_97, l_99, l_100, l_119, l_122, l_186, l_200, l_255, l_600, l_999, l_1488, l_1000000, km_share hm1 w, m0, i_eqT]
  · have a := qoc_le w
    have h1 := List.all_eq_true.mp share_ok (qoc u) (List.mem_range.mpr (by omega))
    have h2 := List.all_eq_true.mp h1 (u 0 0 - 1) (List.mem_range.mpr (by omega))
    rw [Nat.sub_add_cancel (by omega)] at h2
    cases hv : xfn (FP.fdiv (FP.i2f (nI (qoc u))) (FP.i2f (nI (u 0 0)))) with
    | none => rw [hv] at h2; cases h2
    | some v =>
      rw [hv] at h2
      obtain ⟨z, hz⟩ := Option.isSome_iff_exists.mp h2
      refine ⟨v, _, z, ?_, ?_, g0, hz⟩
      · simp (disch := omega) only [f_X8_ownedShare, xl_s, ob_s, xb_s, rd_n, wr_n, m_1, m_1b, nI_add, pk_mul, l_0, l_1, l_2, l_3, l_4, l_5, l_6, l_7, l_8, l_9, l_10, l_11, l_12, l_13, l_14, l_15, l_16, l_17, l_18, l_19, l_20, l_21, l_22, l_23, l_24, l_30, l_31, l_32, l_40, l_41, l_48, l_57, l_59, l_64, l_90, l_97, l_99, l_100, l_119, l_122, l_186, l_200, l_255, l_600, l_999, l_1488, l_1000000, c0, i_eqF, kc_share hc w, hv]
      · simp (disch := omega) only [f_X9_ownedShare, xl_s, ob_s, xb_s, rd_n, wr_n, m_1, m_1b, nI_add, pk_mul, l_0, l_1, l_2, l_3, l_4, l_5, l_6, l_7, l_8, l_9, l_10, l_11, l_12, l_13, l_14, l_15, l_16, l_17, l_18, l_19, l_20, l_21, l_22, l_23, l_24, l_30, l_31, l_32, l_40, l_41, l_48, l_57, l_59, l_64, l_90, l_97, l_99, l_100, l_119, l_122, l_186, l_200, l_255, l_600, l_999, l_1488, l_1000000, km_share hm1 w, m0, i_eqF, hv]
theorem GI_W (f0 : ∀ x, x ≠ 16 → T 0 x = T' 0 x) (f1 : ∀ i, i < 186 → T 1 i = T' 1 i) (f : ∀ a, a ≠ 0 → a ≠ 1 → a ≠ 3 → T a = T' a) (g : GI C T) : GI C T' := by
  obtain ⟨u, g1, g2, g3, g4, g5, g6, g7, g8, g9, g10⟩ := g
  refine ⟨u, g1, RM_cg f1 g2, g3, g4, SN_cg rfl (fun _ _ _ => rfl) (f0 6 (by decide)) (f 5 (by decide) (by decide) (by decide)) g5, HI_cg (fun _ _ _ => rfl) (f0 5 (by decide)) (f 4 (by decide) (by decide) (by decide)) g6, IN_cg rfl rfl (f0 10 (by decide)) (f 6 (by decide) (by decide) (by decide)) g7, RP_cg rfl rfl (f0 15 (by decide)) (f 9 (by decide) (by decide) (by decide)) g8, ?_, ?_⟩
  · rw [g9]; exact f0 12 (by decide)
  · rw [g10]; exact f0 13 (by decide)
theorem q_fishAfter (g : GI C T) (x y : Int32) : OK [(1, 1), (2, 2)] (f_X8_fishAfter C x y) (f_X9_fishAfter T x y) := by
  have g0 := g
  obtain ⟨u, hc, hm, w, hn, -⟩ := g
  have hrg := m_rg y 0 30
  have hcat := km_isCat hm w x
  have b0 : u 0 0 ≤ 10 ∧ u 0 3 ≤ 20 ∧ u 0 7 ≤ 8 := by obtain ⟨hB, w0, w3, w7, wN, wk, wg, wc, wd, wo, wv⟩ := w; exact ⟨w0, w3, w7⟩
  cases e0 : qin x (u 0 7)
  · rw [e0] at hcat
    refine ok_t g0 1 1 (by decide) ?_ ?_
    · simp (disch := omega) only [f_X8_fishAfter, n_cat hc e0, xbx_1]
    · cases e1 : qrg y 0 30 <;> rw [e1] at hrg <;> simp (disch := omega) only [f_X9_fishAfter, xl_s, ob_s, xb_s, rd_n, wr_n, m_1, m_1b, nI_add, pk_mul, l_0, l_1, l_2, l_3, l_4, l_5, l_6, l_7, l_8, l_9, l_10, l_11, l_12, l_13, l_14, l_15, l_16, l_17, l_18, l_19, l_20, l_21, l_22, l_23, l_24, l_30, l_31, l_32, l_40, l_41, l_48, l_57, l_59, l_64, l_90, l_97, l_99, l_100, l_119, l_122, l_186, l_200, l_255, l_600, l_999, l_1488, l_1000000, hrg, hcat, nBf0, nBt0, if_true, if_false, th2_10, th2_11, z10]
  rw [e0] at hcat
  have f0 := y_cat hc e0
  have f1 := n_rg C y 0 30
  cases e1 : qrg y 0 30
  · rw [e1] at f1 hrg
    refine ok_t g0 2 2 (by decide) ?_ ?_
    · simp (disch := omega) only [f_X8_fishAfter, f0, xl_s, ob_s, xb_s, rd_n, wr_n, m_1, m_1b, nI_add, pk_mul, l_0, l_1, l_2, l_3, l_4, l_5, l_6, l_7, l_8, l_9, l_10, l_11, l_12, l_13, l_14, l_15, l_16, l_17, l_18, l_19, l_20, l_21, l_22, l_23, l_24, l_30, l_31, l_32, l_40, l_41, l_48, l_57, l_59, l_64, l_90, l_97, l_99, l_100, l_119, l_122, l_186, l_200, l_255, l_600, l_999, l_1488, l_1000000, f1, xbx_0, xbx_2, z01n, if_false]
    · simp (disch := omega) only [f_X9_fishAfter, xl_s, ob_s, xb_s, rd_n, wr_n, m_1, m_1b, nI_add, pk_mul, l_0, l_1, l_2, l_3, l_4, l_5, l_6, l_7, l_8, l_9, l_10, l_11, l_12, l_13, l_14, l_15, l_16, l_17, l_18, l_19, l_20, l_21, l_22, l_23, l_24, l_30, l_31, l_32, l_40, l_41, l_48, l_57, l_59, l_64, l_90, l_97, l_99, l_100, l_119, l_122, l_186, l_200, l_255, l_600, l_999, l_1488, l_1000000, hrg, hcat, nBf0, nBt0, if_true, if_false, th2_01, z10]
  rw [e1] at f1 hrg
  obtain ⟨c, hc7, rfl⟩ := qin_t (by omega) e0
  obtain ⟨N, -, hN, rfl⟩ := qrg_t (by omega) (by omega) e1
  have hm1 : RM (xput T 0 16 (nI 0) 1) u := rm16 hm
  have ht : ∃ T', f_X9_fishAfter T (nI c) (nI N) = some (nI (qF u c N), T') ∧ (∀ i, i ≠ 1 → i ≠ 3 → T' i = xput T 0 16 (nI 0) i) ∧ ∀ i, i < 186 → T' 1 i = T 1 i := by
    simp (disch := omega) only [f_X9_fishAfter, xl_s, ob_s, xb_s, rd_n, wr_n, m_1, m_1b, nI_add, pk_mul, l_0, l_1, l_2, l_3, l_4, l_5, l_6, l_7, l_8, l_9, l_10, l_11, l_12, l_13, l_14, l_15, l_16, l_17, l_18, l_19, l_20, l_21, l_22, l_23, l_24, l_30, l_31, l_32, l_40, l_41, l_48, l_57, l_59, l_64, l_90, l_97, l_99, l_100, l_119, l_122, l_186, l_200, l_255, l_600, l_999, l_1488, l_1000000, hrg, hcat, nBf0, nBt0, if_true, if_false, th2_00]
    refine km_L39 (T := xput T 0 16 (nI 0)) (Q := fun z => ∃ T', z = some (nI (qF u c N), T') ∧ (∀ i, i ≠ 1 → i ≠ 3 → T' i = xput T 0 16 (nI 0) i) ∧ ∀ i, i < 186 → T' 1 i = T 1 i) (fun T1 a1 a2 => ?_)
    have hm2 : RM (T1 1) u := by rw [a1 1 (by decide)]; exact hm1
    obtain ⟨T2, p1, p2, p3⟩ := km_passes hm2 w (N := N) (by omega) (by omega)
    have hf : T2 1 (90 + 4 * c + 2) = nI (qF u c N) := by
      have h := p2
      obtain ⟨m0, m1, m2, m3, m4, m5, m6, m7, m8, m9, n1, n2, n3, n4, n5, n6, n7, n8, n9, nT⟩ := h
      rw [n8 c (by omega)]
      exact congrArg nI ((X8 c).trans (qFF_lt hc7 N))
    simp (disch := omega) only [p1, xb_s, km_of, hf, ob_s]
    refine km_L80 (T := T2) (Q := fun z => ∃ T', z = some (nI (qF u c N), T') ∧ (∀ i, i ≠ 1 → i ≠ 3 → T' i = xput T 0 16 (nI 0) i) ∧ ∀ i, i < 186 → T' 1 i = T 1 i) (fun T3 b1 b2 => ⟨T3, rfl, fun i h1 h3 => by rw [b1 i h1, p3 i h1, a1 i h3], fun i hi => ?_⟩)
    rw [b2 i hi, p3 3 (by decide), a2 i hi, xp_n (by decide)]
  obtain ⟨T', r1, r2, r3⟩ := ht
  refine ok_r (r := nI (qF u c N)) (C' := C) (T' := T') (GI_W (fun y hy => by rw [r2 0 (by decide) (by decide), xp_s, if_neg hy]) (fun i hi => (r3 i hi).symm) (fun a h0 h1 h3 => by rw [r2 a h1 h3, xp_n h0]) g0) (by rw [r2 0 (by decide) (by decide), xp_s, if_pos rfl]) ?_ r1
  simp (disch := omega) only [f_X8_fishAfter, f0, xl_s, ob_s, xb_s, rd_n, wr_n, m_1, m_1b, nI_add, pk_mul, l_0, l_1, l_2, l_3, l_4, l_5, l_6, l_7, l_8, l_9, l_10, l_11, l_12, l_13, l_14, l_15, l_16, l_17, l_18, l_19, l_20, l_21, l_22, l_23, l_24, l_30, l_31, l_32, l_40, l_41, l_48, l_57, l_59, l_64, l_90, l_97, l_99, l_100, l_119, l_122, l_186, l_200, l_255, l_600, l_999, l_1488, l_1000000, f1, xbx_0, bf_t, if_true, kc_future hc w hc7]
end
