/-! level 2: the changes on both wholes -/
section
variable {S C T : XS} {u : QU}
theorem n_ref' : f_X8_refuseIf C (nB true) = some (3, nI 0, C) := n_ref
theorem y_ref' : f_X8_refuseIf C (nB false) = some (0, nI 0, C) := y_ref
theorem n13_qbuild (a b c d : Nat) : qbuild u a 0 13 = u 0 13 := by
  unfold qbuild
  simp (disch := omega) only [up_n, up_s, i_F, if_true, if_false, and_self]
theorem n13_qlay (a b c d : Nat) : qlay u a b d 0 13 = u 0 13 := by
  unfold qlay
  simp (disch := omega) only [up_n, up_s, i_F, if_true, if_false, and_self]
theorem n13_qput (a b c d : Nat) : qput u a b d 0 13 = u 0 13 := by
  unfold qput
  simp (disch := omega) only [up_n, up_s, i_F, if_true, if_false, and_self]
theorem n13_qgo (a b c d : Nat) : qgo u a b 0 13 = u 0 13 := by
  unfold qgo
  simp (disch := omega) only [up_n, up_s, i_F, if_true, if_false, and_self]
theorem n13_qtake (a b c d : Nat) : qtake u a 0 13 = u 0 13 := by
  unfold qtake
  simp (disch := omega) only [up_n, up_s, i_F, if_true, if_false, and_self]
theorem n13_qrel (a b c d : Nat) : qrel u a 0 13 = u 0 13 := by
  unfold qrel
  simp (disch := omega) only [up_n, up_s, i_F, if_true, if_false, and_self]
theorem n13_qagree (a b c d : Nat) : qagree u a b c d 0 13 = u 0 13 := by
  unfold qagree
  simp (disch := omega) only [up_n, up_s, i_F, if_true, if_false, and_self]
theorem n13_qarr (a b c d : Nat) : qarr u a b 0 13 = u 0 13 := by
  unfold qarr
  simp (disch := omega) only [up_n, up_s, i_F, if_true, if_false, and_self]
theorem n13_lv : qlv u 0 13 = u 0 13 := by
  unfold qlv
  simp (disch := omega) only [up_n]
theorem n13_v1 (c : Nat) (y : Bool) : qv1 u c y 0 13 = u 0 13 := by
  unfold qv1
  simp (disch := omega) only [up_n]
theorem n13_end : qend u 0 13 = u 0 13 := by
  unfold qend
  rw [n13_lv]
  split
  · exact n13_qput _ _ 0 _
  · rfl
theorem n13_vt (c : Nat) (y : Bool) : qvt u c y 0 13 = u 0 13 := by
  unfold qvt
  split
  · rw [n13_end, n13_v1]
  · exact n13_v1 c y
theorem n13_drive (a b : Nat) : qdrive u a b 0 13 = u 0 13 := by
  have e : ∀ v : QU, qfs v a b 0 13 = v 0 13 := fun v => by
    unfold qfs
    split
    · simp (disch := omega) only [up_n]
    · rfl
  show qfs (qov u a b) a b 0 13 = u 0 13
  rw [e, qov_r (by decide) (by decide)]
theorem kc_arrive (h : RC S u) {a b : Nat} (ha : a ≠ 0) (hv : ∀ c, c < 8 → qb u c = 0) : ∃ S', f_X3_arrive (xs 11 S) (nI a) (nI b) = some S' ∧ RC (xm 11 2 S S') (qarr u a b) := by
  refine ⟨xput (xput (xput (xs 11 S) 0 0 (nI 1)) 0 1 (nI a)) 0 2 (nI b), ?_, ?_⟩
  · simp only [f_X3_arrive, xl_s, l_0, l_1, l_2, l_3, l_4, l_5, l_6, l_7, l_8, l_9, l_10, l_11, l_12, l_13, l_14, l_15, l_16, l_17, l_18, l_19, l_20, l_21, l_22, l_23, l_24, l_30, l_31, l_32, l_40, l_41, l_48, l_57, l_59, l_64, l_90, l_97, l_99, l_100, l_119, l_122, l_186, l_200, l_255, l_600, l_999, l_1488, l_1000000]
  · obtain ⟨⟨c0, c3, c7, cN, cG, cA⟩, r1, r2, r3, r4, r5, r6, r7, r8, r9, rT, kw, kg, kb⟩ := h
    try simp only [xs_d] at *
    unfold qarr
    refine ⟨⟨?_, ?_, ?_, ?_, ?_, ?_⟩, fun k hk => ?_, fun k hk => ?_, fun k hk => ?_, fun k hk => ?_, fun k hk => ?_, fun k hk => ?_, fun k hk => ?_, fun k hk => ?_, fun k hk => ?_, fun k hk => ?_, ?_, fun hk => ?_, fun k hk => ?_⟩
    all_goals (try simp (disch := omega) only [up_n, up_s, i_T, i_F, if_true, if_false, and_self] at hk)
    all_goals (try simp (disch := omega) only [up_n, up_s, i_T, i_F, xm_n, xm_i, xp_s, xq_n, Nat.sub_self, c0, c3, c7, cN, cG, cA, r1, r2, r3, r4, r5, r6, r7, r8, r9, rT, if_true, if_false, and_self])
    · show S (11 + (12 - 11)) k = _
      rw [show 11 + (12 - 11) = 12 from rfl, kb k hk, hv k hk, qb]
      simp (disch := omega) only [up_n, up_s, i_T, i_F, Nat.zero_testBit, if_true, if_false, and_self]
      rfl
theorem km_nom (h : RM (T 1) u) {a b : Nat} : ∃ T', f_X9_nominates T (nI a) (nI b) = some (nI (u 0 7), T') ∧ RM (T' 1) (qarr u a b) ∧ ∀ i, i ≠ 1 → T' i = T i := by
  obtain ⟨m0, m1, m2, m3, m4, m5, m6, m7, m8, m9, n1, n2, n3, n4, n5, n6, n7, n8, n9, nT⟩ := h
  refine ⟨xput (xput (xput (xput T 1 4 (nI a)) 1 5 (nI b)) 1 6 (nI 0)) 1 7 (nI 0), ?_, ?_, fun i hi => by rw [xp_n hi, xp_n hi, xp_n hi, xp_n hi]⟩
  · simp (disch := omega) only [f_X9_nominates, xl_s, ob_s, xb_s, rd_n, wr_n, m_1, m_1b, nI_add, pk_mul, l_0, l_1, l_2, l_3, l_4, l_5, l_6, l_7, l_8, l_9, l_10, l_11, l_12, l_13, l_14, l_15, l_16, l_17, l_18, l_19, l_20, l_21, l_22, l_23, l_24, l_30, l_31, l_32, l_40, l_41, l_48, l_57, l_59, l_64, l_90, l_97, l_99, l_100, l_119, l_122, l_186, l_200, l_255, l_600, l_999, l_1488, l_1000000, xp_s, i_F, m2, if_true, if_false, and_self]
  · unfold qarr
    refine ⟨?_, ?_, ?_, ?_, ?_, ?_, ?_, ?_, ?_, ?_, fun k hk => ?_, fun k hk => ?_, fun k hk => ?_, fun k hk => ?_, fun k hk => ?_, fun k hk => ?_, fun k hk => ?_, fun k hk => ?_, fun k hk => ?_, fun a b ha hb => ?_⟩
    all_goals simp (disch := omega) only [xp_s, up_n, up_s, i_T, i_F, m0, m1, m2, m3, m4, m5, m6, m7, m8, m9, n1, n2, n3, n4, n5, n6, n7, n8, n9, nT, if_true, if_false, and_self]
theorem wf_arr (w : WF u) {a b : Nat} (ha : 1 ≤ a ∧ a ≤ 9) (hb : 1 ≤ b ∧ b ≤ 9) : WF (qarr u a b) := by
  have hq : ∀ d, qown (qarr u a b) d = qown u d := fun d => by
    unfold qown qarr
    simp (disch := omega) only [up_n]
  obtain ⟨hB, w0, w3, w7, wN, wk, wg, wc, wd, wo, wv⟩ := w
  refine ⟨?_, ?_, ?_, ?_, ?_, fun k hk => ?_, fun k hk => ?_, fun k hk => ?_, fun k k2 hk hk2 => ?_, fun k hk => ?_, ?_⟩
  · exact up_B (up_B (up_B (up_B hB (by omega)) (by omega)) (by omega)) (by omega)
  all_goals (try unfold qarr at hk)
  all_goals (try unfold qarr at hk2)
  all_goals (try simp (disch := omega) only [up_n, up_s, i_T, i_F, if_true, if_false, and_self] at hk)
  all_goals (try simp (disch := omega) only [up_n, up_s, i_T, i_F, if_true, if_false, and_self] at hk2)
  all_goals (try rw [hq])
  all_goals (try unfold qarr)
  all_goals (try simp (disch := omega) only [up_n, up_s, i_T, i_F, if_true, if_false, and_self])
  · exact w0
  · exact w3
  · exact w7
  · exact wN
  · exact wk k hk
  · exact wg k hk
  · exact wc k hk
  · exact wd k k2 hk hk2
  · exact wo k hk
  · exact ⟨by omega, by omega, fun _ => by omega, Nat.two_pow_pos _, (fun c q => by rw [Nat.zero_testBit] at q; cases q), fun _ => trivial⟩
theorem qb_0 (w : WF u) (h : u 11 0 = 0) (c : Nat) : qb u c = 0 := by
  have h0 : u 12 0 = 0 := by obtain ⟨hB, w0, w3, w7, wN, wk, wg, wc, wd, wo, wv⟩ := w; exact wv.2.2.2.2.2 h
  unfold qb
  rw [h0, Nat.zero_testBit]
  rfl
theorem z01n : (false = true) = False := by decide
theorem z10n : (true = false) = False := by decide
theorem bf_t : (true = true) = True := by decide
theorem q_addChimney (g : GI C T) (x : Int32) : OK [(2, 1), (3, 2)] (f_X8_addChimney C x) (f_X9_addChimney T x) := by
  have g0 := g
  obtain ⟨u, hc, hm, w, hn, B, T2, b1, b2, b3, b4, b5⟩ := ch_all g
  have b0 : u 0 0 ≤ 10 ∧ u 0 3 ≤ 20 ∧ u 0 7 ≤ 8 := by obtain ⟨hB, w0, w3, w7, wN, wk, wg, wc, wd, wo, wv⟩ := w; exact ⟨w0, w3, w7⟩
  have m0 : T 1 0 = nI (u 0 0) := hm.1
  have m1 : T 1 1 = nI (u 0 3) := hm.2.1
  have m3 : T 1 3 = nI (u 0 13) := hm.2.2.2.1
  have hsz := m_sizes
  have hrg := m_rg
  have hcs := m_cats hm w
  cases e0 : qrg x 0 9
  · skip
    have f0 := n_rg C x 0 9
    rw [e0] at f0
    exact ok_t g0 2 1 (by decide) (by simp (disch := omega) only [f_X8_addChimney, f0, z01n, bf_t, xbx_0, xbx_1, xbx_2, xbx_3, th1_0, th1_1, th2_00, th2_01, th2_10, th2_11, th3_000, th3_001, th3_010, th3_011, th3_100, th3_101, th3_110, th3_111, ob_s, xl_s, xb_s, nBt0, nBf0, z10, z01, if_true, if_false, Bool.and_true, Bool.true_and, Bool.and_false, Bool.false_and, Bool.not_true, Bool.not_false, m_1, m_1b, z01n, z10n, bf_t, l_0, l_1, l_2, l_3, l_4, l_5, l_6, l_7, l_8, l_9, l_10, l_11, l_12, l_13, l_14, l_15, l_16, l_17, l_18, l_19, l_20, l_21, l_22, l_23, l_24, l_30, l_31, l_32, l_40, l_41, l_48, l_57, l_59, l_64, l_90, l_97, l_99, l_100, l_119, l_122, l_186, l_200, l_255, l_600, l_999, l_1488, l_1000000]) (by
      simp (disch := omega) only [f_X9_addChimney, hsz, hrg, hcs, m0, m1, m3, rd_n, nB_0, e0, ob_s, xbx_0, xbx_1, xbx_2, xbx_3, th1_0, th1_1, th2_00, th2_01, th2_10, th2_11, th3_000, th3_001, th3_010, th3_011, th3_100, th3_101, th3_110, th3_111, ob_s, xl_s, xb_s, nBt0, nBf0, z10, z01, if_true, if_false, Bool.and_true, Bool.true_and, Bool.and_false, Bool.false_and, Bool.not_true, Bool.not_false, m_1, m_1b, z01n, z10n, bf_t, l_0, l_1, l_2, l_3, l_4, l_5, l_6, l_7, l_8, l_9, l_10, l_11, l_12, l_13, l_14, l_15, l_16, l_17, l_18, l_19, l_20, l_21, l_22, l_23, l_24, l_30, l_31, l_32, l_40, l_41, l_48, l_57, l_59, l_64, l_90, l_97, l_99, l_100, l_119, l_122, l_186, l_200, l_255, l_600, l_999, l_1488, l_1000000] <;> (repeat' split) <;> (try simp only [xbx_0, xbx_1, xbx_2, xbx_3, th1_0, th1_1, th2_00, th2_01, th2_10, th2_11, th3_000, th3_001, th3_010, th3_011, th3_100, th3_101, th3_110, th3_111, ob_s, xl_s, xb_s, nBt0, nBf0, z10, z01, if_true, if_false, Bool.and_true, Bool.true_and, Bool.and_false, Bool.false_and, Bool.not_true, Bool.not_false, m_1, m_1b, z01n, z10n, bf_t, l_0, l_1, l_2, l_3, l_4, l_5, l_6, l_7, l_8, l_9, l_10, l_11, l_12, l_13, l_14, l_15, l_16, l_17, l_18, l_19, l_20, l_21, l_22, l_23, l_24, l_30, l_31, l_32, l_40, l_41, l_48, l_57, l_59, l_64, l_90, l_97, l_99, l_100, l_119, l_122, l_186, l_200, l_255, l_600, l_999, l_1488, l_1000000]))
  · skip
    have f0 := n_rg C x 0 9
    rw [e0] at f0
    obtain ⟨x9, l0, k0, rfl⟩ := qrg_t (by omega) (by omega) e0
    by_cases z : u 0 0 < 10
    rotate_left 1
    · exact ok_t g0 3 2 (by decide) (by simp (disch := omega) only [f_X8_addChimney, f0, n_ref, n_ref', show C 1 0 = nI (u 0 0) from hc.1.1, i_ltF, z01n, bf_t, xbx_0, xbx_1, xbx_2, xbx_3, th1_0, th1_1, th2_00, th2_01, th2_10, th2_11, th3_000, th3_001, th3_010, th3_011, th3_100, th3_101, th3_110, th3_111, ob_s, xl_s, xb_s, nBt0, nBf0, z10, z01, if_true, if_false, Bool.and_true, Bool.true_and, Bool.and_false, Bool.false_and, Bool.not_true, Bool.not_false, m_1, m_1b, z01n, z10n, bf_t, l_0, l_1, l_2, l_3, l_4, l_5, l_6, l_7, l_8, l_9, l_10, l_11, l_12, l_13, l_14, l_15, l_16, l_17, l_18, l_19, l_20, l_21, l_22, l_23, l_24, l_30, l_31, l_32, l_40, l_41, l_48, l_57, l_59, l_64, l_90, l_97, l_99, l_100, l_119, l_122, l_186, l_200, l_255, l_600, l_999, l_1488, l_1000000]) (by
        simp (disch := omega) only [f_X9_addChimney, hsz, hrg, hcs, e0, m0, m1, m3, rd_n, i_eqT, nB_0, xbx_0, xbx_1, xbx_2, xbx_3, th1_0, th1_1, th2_00, th2_01, th2_10, th2_11, th3_000, th3_001, th3_010, th3_011, th3_100, th3_101, th3_110, th3_111, ob_s, xl_s, xb_s, nBt0, nBf0, z10, z01, if_true, if_false, Bool.and_true, Bool.true_and, Bool.and_false, Bool.false_and, Bool.not_true, Bool.not_false, m_1, m_1b, z01n, z10n, bf_t, l_0, l_1, l_2, l_3, l_4, l_5, l_6, l_7, l_8, l_9, l_10, l_11, l_12, l_13, l_14, l_15, l_16, l_17, l_18, l_19, l_20, l_21, l_22, l_23, l_24, l_30, l_31, l_32, l_40, l_41, l_48, l_57, l_59, l_64, l_90, l_97, l_99, l_100, l_119, l_122, l_186, l_200, l_255, l_600, l_999, l_1488, l_1000000] <;> (repeat' split) <;> (try simp only [xbx_0, xbx_1, xbx_2, xbx_3, th1_0, th1_1, th2_00, th2_01, th2_10, th2_11, th3_000, th3_001, th3_010, th3_011, th3_100, th3_101, th3_110, th3_111, ob_s, xl_s, xb_s, nBt0, nBf0, z10, z01, if_true, if_false, Bool.and_true, Bool.true_and, Bool.and_false, Bool.false_and, Bool.not_true, Bool.not_false, m_1, m_1b, z01n, z10n, bf_t, l_0, l_1, l_2, l_3, l_4, l_5, l_6, l_7, l_8, l_9, l_10, l_11, l_12, l_13, l_14, l_15, l_16, l_17, l_18, l_19, l_20, l_21, l_22, l_23, l_24, l_30, l_31, l_32, l_40, l_41, l_48, l_57, l_59, l_64, l_90, l_97, l_99, l_100, l_119, l_122, l_186, l_200, l_255, l_600, l_999, l_1488, l_1000000]))
    have c0 : C 1 0 = nI (u 0 0) := hc.1.1
    obtain ⟨S2, s1, s2⟩ := kc_build b2 w (by omega) (x := x9)
    obtain ⟨T3, t1, t2, t3⟩ := km_build b4 w (by omega) (x := x9)
    obtain ⟨T4, r1, r2, r3⟩ := b5 _ S2 T3 (nI (u 0 0)) s2 t2 t3 (wf_build w (by omega) k0) (by rw [n13_qbuild x9 0 0 0]; exact hn)
    refine ok_r (r := nI (u 0 0)) r2 r3 ?_ ?_
    · simp (disch := omega) only [f_X8_addChimney, f0, y_ref, y_ref', b1, s1, len_roof, z01n, bf_t, c0, i_ltT, xbx_0, xbx_1, xbx_2, xbx_3, th1_0, th1_1, th2_00, th2_01, th2_10, th2_11, th3_000, th3_001, th3_010, th3_011, th3_100, th3_101, th3_110, th3_111, ob_s, xl_s, xb_s, nBt0, nBf0, z10, z01, if_true, if_false, Bool.and_true, Bool.true_and, Bool.and_false, Bool.false_and, Bool.not_true, Bool.not_false, m_1, m_1b, z01n, z10n, bf_t, l_0, l_1, l_2, l_3, l_4, l_5, l_6, l_7, l_8, l_9, l_10, l_11, l_12, l_13, l_14, l_15, l_16, l_17, l_18, l_19, l_20, l_21, l_22, l_23, l_24, l_30, l_31, l_32, l_40, l_41, l_48, l_57, l_59, l_64, l_90, l_97, l_99, l_100, l_119, l_122, l_186, l_200, l_255, l_600, l_999, l_1488, l_1000000]
    · simp (disch := omega) only [f_X9_addChimney, hsz, hrg, hcs, e0, m0, m1, m3, rd_n, b3, t1, r1, i_eqF, xbx_0, xbx_1, xbx_2, xbx_3, th1_0, th1_1, th2_00, th2_01, th2_10, th2_11, th3_000, th3_001, th3_010, th3_011, th3_100, th3_101, th3_110, th3_111, ob_s, xl_s, xb_s, nBt0, nBf0, z10, z01, if_true, if_false, Bool.and_true, Bool.true_and, Bool.and_false, Bool.false_and, Bool.not_true, Bool.not_false, m_1, m_1b, z01n, z10n, bf_t, l_0, l_1, l_2, l_3, l_4, l_5, l_6, l_7, l_8, l_9, l_10, l_11, l_12, l_13, l_14, l_15, l_16, l_17, l_18, l_19, l_20, l_21, l_22, l_23, l_24, l_30, l_31, l_32, l_40, l_41, l_48, l_57, l_59, l_64, l_90, l_97, l_99, l_100, l_119, l_122, l_186, l_200, l_255, l_600, l_999, l_1488, l_1000000]
theorem q_addGutter (g : GI C T) (x y z9 : Int32) : OK [(1, 1), (2, 2), (3, 3)] (f_X8_addGutter C x y z9) (f_X9_addGutter T x y z9) := by
  have g0 := g
  obtain ⟨u, hc, hm, w, hn, B, T2, b1, b2, b3, b4, b5⟩ := ch_all g
  have b0 : u 0 0 ≤ 10 ∧ u 0 3 ≤ 20 ∧ u 0 7 ≤ 8 := by obtain ⟨hB, w0, w3, w7, wN, wk, wg, wc, wd, wo, wv⟩ := w; exact ⟨w0, w3, w7⟩
  have m0 : T 1 0 = nI (u 0 0) := hm.1
  have m1 : T 1 1 = nI (u 0 3) := hm.2.1
  have m3 : T 1 3 = nI (u 0 13) := hm.2.2.2.1
  have hsz := m_sizes
  have hrg := m_rg
  have hcs := m_cats hm w
  have h0 := km_isChimney hm w x
  have h1 := km_isChimney hm w y
  cases e0 : qin x (u 0 0)
  · skip
    exact ok_t g0 1 1 (by decide) (by simp (disch := omega) only [f_X8_addGutter, n_chi hc e0, z01n, bf_t, xbx_0, xbx_1, xbx_2, xbx_3, th1_0, th1_1, th2_00, th2_01, th2_10, th2_11, th3_000, th3_001, th3_010, th3_011, th3_100, th3_101, th3_110, th3_111, ob_s, xl_s, xb_s, nBt0, nBf0, z10, z01, if_true, if_false, Bool.and_true, Bool.true_and, Bool.and_false, Bool.false_and, Bool.not_true, Bool.not_false, m_1, m_1b, z01n, z10n, bf_t, l_0, l_1, l_2, l_3, l_4, l_5, l_6, l_7, l_8, l_9, l_10, l_11, l_12, l_13, l_14, l_15, l_16, l_17, l_18, l_19, l_20, l_21, l_22, l_23, l_24, l_30, l_31, l_32, l_40, l_41, l_48, l_57, l_59, l_64, l_90, l_97, l_99, l_100, l_119, l_122, l_186, l_200, l_255, l_600, l_999, l_1488, l_1000000]) (by
      simp (disch := omega) only [f_X9_addGutter, hsz, hrg, hcs, h0, h1, m0, m1, m3, rd_n, nB_0, e0, ob_s, xbx_0, xbx_1, xbx_2, xbx_3, th1_0, th1_1, th2_00, th2_01, th2_10, th2_11, th3_000, th3_001, th3_010, th3_011, th3_100, th3_101, th3_110, th3_111, ob_s, xl_s, xb_s, nBt0, nBf0, z10, z01, if_true, if_false, Bool.and_true, Bool.true_and, Bool.and_false, Bool.false_and, Bool.not_true, Bool.not_false, m_1, m_1b, z01n, z10n, bf_t, l_0, l_1, l_2, l_3, l_4, l_5, l_6, l_7, l_8, l_9, l_10, l_11, l_12, l_13, l_14, l_15, l_16, l_17, l_18, l_19, l_20, l_21, l_22, l_23, l_24, l_30, l_31, l_32, l_40, l_41, l_48, l_57, l_59, l_64, l_90, l_97, l_99, l_100, l_119, l_122, l_186, l_200, l_255, l_600, l_999, l_1488, l_1000000] <;> (repeat' split) <;> (try simp only [xbx_0, xbx_1, xbx_2, xbx_3, th1_0, th1_1, th2_00, th2_01, th2_10, th2_11, th3_000, th3_001, th3_010, th3_011, th3_100, th3_101, th3_110, th3_111, ob_s, xl_s, xb_s, nBt0, nBf0, z10, z01, if_true, if_false, Bool.and_true, Bool.true_and, Bool.and_false, Bool.false_and, Bool.not_true, Bool.not_false, m_1, m_1b, z01n, z10n, bf_t, l_0, l_1, l_2, l_3, l_4, l_5, l_6, l_7, l_8, l_9, l_10, l_11, l_12, l_13, l_14, l_15, l_16, l_17, l_18, l_19, l_20, l_21, l_22, l_23, l_24, l_30, l_31, l_32, l_40, l_41, l_48, l_57, l_59, l_64, l_90, l_97, l_99, l_100, l_119, l_122, l_186, l_200, l_255, l_600, l_999, l_1488, l_1000000]))
  · skip
    have f0 := y_chi hc e0
    obtain ⟨x9, k0, rfl⟩ := qin_t (by omega) e0
    cases e1 : qin y (u 0 0)
    · skip
      exact ok_t g0 1 1 (by decide) (by simp (disch := omega) only [f_X8_addGutter, f0, n_chi hc e1, z01n, bf_t, xbx_0, xbx_1, xbx_2, xbx_3, th1_0, th1_1, th2_00, th2_01, th2_10, th2_11, th3_000, th3_001, th3_010, th3_011, th3_100, th3_101, th3_110, th3_111, ob_s, xl_s, xb_s, nBt0, nBf0, z10, z01, if_true, if_false, Bool.and_true, Bool.true_and, Bool.and_false, Bool.false_and, Bool.not_true, Bool.not_false, m_1, m_1b, z01n, z10n, bf_t, l_0, l_1, l_2, l_3, l_4, l_5, l_6, l_7, l_8, l_9, l_10, l_11, l_12, l_13, l_14, l_15, l_16, l_17, l_18, l_19, l_20, l_21, l_22, l_23, l_24, l_30, l_31, l_32, l_40, l_41, l_48, l_57, l_59, l_64, l_90, l_97, l_99, l_100, l_119, l_122, l_186, l_200, l_255, l_600, l_999, l_1488, l_1000000]) (by
        simp (disch := omega) only [f_X9_addGutter, hsz, hrg, hcs, h0, h1, m0, m1, m3, rd_n, nB_0, e0, e1, ob_s, xbx_0, xbx_1, xbx_2, xbx_3, th1_0, th1_1, th2_00, th2_01, th2_10, th2_11, th3_000, th3_001, th3_010, th3_011, th3_100, th3_101, th3_110, th3_111, ob_s, xl_s, xb_s, nBt0, nBf0, z10, z01, if_true, if_false, Bool.and_true, Bool.true_and, Bool.and_false, Bool.false_and, Bool.not_true, Bool.not_false, m_1, m_1b, z01n, z10n, bf_t, l_0, l_1, l_2, l_3, l_4, l_5, l_6, l_7, l_8, l_9, l_10, l_11, l_12, l_13, l_14, l_15, l_16, l_17, l_18, l_19, l_20, l_21, l_22, l_23, l_24, l_30, l_31, l_32, l_40, l_41, l_48, l_57, l_59, l_64, l_90, l_97, l_99, l_100, l_119, l_122, l_186, l_200, l_255, l_600, l_999, l_1488, l_1000000] <;> (repeat' split) <;> (try simp only [xbx_0, xbx_1, xbx_2, xbx_3, th1_0, th1_1, th2_00, th2_01, th2_10, th2_11, th3_000, th3_001, th3_010, th3_011, th3_100, th3_101, th3_110, th3_111, ob_s, xl_s, xb_s, nBt0, nBf0, z10, z01, if_true, if_false, Bool.and_true, Bool.true_and, Bool.and_false, Bool.false_and, Bool.not_true, Bool.not_false, m_1, m_1b, z01n, z10n, bf_t, l_0, l_1, l_2, l_3, l_4, l_5, l_6, l_7, l_8, l_9, l_10, l_11, l_12, l_13, l_14, l_15, l_16, l_17, l_18, l_19, l_20, l_21, l_22, l_23, l_24, l_30, l_31, l_32, l_40, l_41, l_48, l_57, l_59, l_64, l_90, l_97, l_99, l_100, l_119, l_122, l_186, l_200, l_255, l_600, l_999, l_1488, l_1000000]))
    · skip
      have f1 := y_chi hc e1
      obtain ⟨y9, k1, rfl⟩ := qin_t (by omega) e1
      by_cases e2 : (nI x9) = (nI y9)
      · skip
        exact ok_t g0 2 2 (by decide) (by simp (disch := omega) only [f_X8_addGutter, f0, f1, n_two e2, z01n, bf_t, xbx_0, xbx_1, xbx_2, xbx_3, th1_0, th1_1, th2_00, th2_01, th2_10, th2_11, th3_000, th3_001, th3_010, th3_011, th3_100, th3_101, th3_110, th3_111, ob_s, xl_s, xb_s, nBt0, nBf0, z10, z01, if_true, if_false, Bool.and_true, Bool.true_and, Bool.and_false, Bool.false_and, Bool.not_true, Bool.not_false, m_1, m_1b, z01n, z10n, bf_t, l_0, l_1, l_2, l_3, l_4, l_5, l_6, l_7, l_8, l_9, l_10, l_11, l_12, l_13, l_14, l_15, l_16, l_17, l_18, l_19, l_20, l_21, l_22, l_23, l_24, l_30, l_31, l_32, l_40, l_41, l_48, l_57, l_59, l_64, l_90, l_97, l_99, l_100, l_119, l_122, l_186, l_200, l_255, l_600, l_999, l_1488, l_1000000]) (by
          simp (disch := omega) only [f_X9_addGutter, hsz, hrg, hcs, h0, h1, m0, m1, m3, rd_n, nB_0, e0, e1, if_pos e2, ob_s, xbx_0, xbx_1, xbx_2, xbx_3, th1_0, th1_1, th2_00, th2_01, th2_10, th2_11, th3_000, th3_001, th3_010, th3_011, th3_100, th3_101, th3_110, th3_111, ob_s, xl_s, xb_s, nBt0, nBf0, z10, z01, if_true, if_false, Bool.and_true, Bool.true_and, Bool.and_false, Bool.false_and, Bool.not_true, Bool.not_false, m_1, m_1b, z01n, z10n, bf_t, l_0, l_1, l_2, l_3, l_4, l_5, l_6, l_7, l_8, l_9, l_10, l_11, l_12, l_13, l_14, l_15, l_16, l_17, l_18, l_19, l_20, l_21, l_22, l_23, l_24, l_30, l_31, l_32, l_40, l_41, l_48, l_57, l_59, l_64, l_90, l_97, l_99, l_100, l_119, l_122, l_186, l_200, l_255, l_600, l_999, l_1488, l_1000000] <;> (repeat' split) <;> (try simp only [xbx_0, xbx_1, xbx_2, xbx_3, th1_0, th1_1, th2_00, th2_01, th2_10, th2_11, th3_000, th3_001, th3_010, th3_011, th3_100, th3_101, th3_110, th3_111, ob_s, xl_s, xb_s, nBt0, nBf0, z10, z01, if_true, if_false, Bool.and_true, Bool.true_and, Bool.and_false, Bool.false_and, Bool.not_true, Bool.not_false, m_1, m_1b, z01n, z10n, bf_t, l_0, l_1, l_2, l_3, l_4, l_5, l_6, l_7, l_8, l_9, l_10, l_11, l_12, l_13, l_14, l_15, l_16, l_17, l_18, l_19, l_20, l_21, l_22, l_23, l_24, l_30, l_31, l_32, l_40, l_41, l_48, l_57, l_59, l_64, l_90, l_97, l_99, l_100, l_119, l_122, l_186, l_200, l_255, l_600, l_999, l_1488, l_1000000]))
      · skip
        have f2 := y_two (C := C) e2
        cases e3 : qrg z9 1 9
        · skip
          have f3 := n_rg C z9 1 9
          rw [e3] at f3
          exact ok_t g0 2 2 (by decide) (by simp (disch := omega) only [f_X8_addGutter, f0, f1, f2, f3, z01n, bf_t, xbx_0, xbx_1, xbx_2, xbx_3, th1_0, th1_1, th2_00, th2_01, th2_10, th2_11, th3_000, th3_001, th3_010, th3_011, th3_100, th3_101, th3_110, th3_111, ob_s, xl_s, xb_s, nBt0, nBf0, z10, z01, if_true, if_false, Bool.and_true, Bool.true_and, Bool.and_false, Bool.false_and, Bool.not_true, Bool.not_false, m_1, m_1b, z01n, z10n, bf_t, l_0, l_1, l_2, l_3, l_4, l_5, l_6, l_7, l_8, l_9, l_10, l_11, l_12, l_13, l_14, l_15, l_16, l_17, l_18, l_19, l_20, l_21, l_22, l_23, l_24, l_30, l_31, l_32, l_40, l_41, l_48, l_57, l_59, l_64, l_90, l_97, l_99, l_100, l_119, l_122, l_186, l_200, l_255, l_600, l_999, l_1488, l_1000000]) (by
            simp (disch := omega) only [f_X9_addGutter, hsz, hrg, hcs, h0, h1, m0, m1, m3, rd_n, nB_0, e0, e1, if_neg e2, e3, ob_s, xbx_0, xbx_1, xbx_2, xbx_3, th1_0, th1_1, th2_00, th2_01, th2_10, th2_11, th3_000, th3_001, th3_010, th3_011, th3_100, th3_101, th3_110, th3_111, ob_s, xl_s, xb_s, nBt0, nBf0, z10, z01, if_true, if_false, Bool.and_true, Bool.true_and, Bool.and_false, Bool.false_and, Bool.not_true, Bool.not_false, m_1, m_1b, z01n, z10n, bf_t, l_0, l_1, l_2, l_3, l_4, l_5, l_6, l_7, l_8, l_9, l_10, l_11, l_12, l_13, l_14, l_15, l_16, l_17, l_18, l_19, l_20, l_21, l_22, l_23, l_24, l_30, l_31, l_32, l_40, l_41, l_48, l_57, l_59, l_64, l_90, l_97, l_99, l_100, l_119, l_122, l_186, l_200, l_255, l_600, l_999, l_1488, l_1000000] <;> (repeat' split) <;> (try simp only [xbx_0, xbx_1, xbx_2, xbx_3, th1_0, th1_1, th2_00, th2_01, th2_10, th2_11, th3_000, th3_001, th3_010, th3_011, th3_100, th3_101, th3_110, th3_111, ob_s, xl_s, xb_s, nBt0, nBf0, z10, z01, if_true, if_false, Bool.and_true, Bool.true_and, Bool.and_false, Bool.false_and, Bool.not_true, Bool.not_false, m_1, m_1b, z01n, z10n, bf_t, l_0, l_1, l_2, l_3, l_4, l_5, l_6, l_7, l_8, l_9, l_10, l_11, l_12, l_13, l_14, l_15, l_16, l_17, l_18, l_19, l_20, l_21, l_22, l_23, l_24, l_30, l_31, l_32, l_40, l_41, l_48, l_57, l_59, l_64, l_90, l_97, l_99, l_100, l_119, l_122, l_186, l_200, l_255, l_600, l_999, l_1488, l_1000000]))
        · skip
          have f3 := n_rg C z9 1 9
          rw [e3] at f3
          obtain ⟨z99, l3, k3, rfl⟩ := qrg_t (by omega) (by omega) e3
          by_cases z : u 0 3 < 20
          rotate_left 1
          · exact ok_t g0 3 3 (by decide) (by simp (disch := omega) only [f_X8_addGutter, f0, f1, f2, f3, n_ref, n_ref', show C 1 3 = nI (u 0 3) from hc.1.2.1, i_ltF, z01n, bf_t, xbx_0, xbx_1, xbx_2, xbx_3, th1_0, th1_1, th2_00, th2_01, th2_10, th2_11, th3_000, th3_001, th3_010, th3_011, th3_100, th3_101, th3_110, th3_111, ob_s, xl_s, xb_s, nBt0, nBf0, z10, z01, if_true, if_false, Bool.and_true, Bool.true_and, Bool.and_false, Bool.false_and, Bool.not_true, Bool.not_false, m_1, m_1b, z01n, z10n, bf_t, l_0, l_1, l_2, l_3, l_4, l_5, l_6, l_7, l_8, l_9, l_10, l_11, l_12, l_13, l_14, l_15, l_16, l_17, l_18, l_19, l_20, l_21, l_22, l_23, l_24, l_30, l_31, l_32, l_40, l_41, l_48, l_57, l_59, l_64, l_90, l_97, l_99, l_100, l_119, l_122, l_186, l_200, l_255, l_600, l_999, l_1488, l_1000000]) (by
              simp (disch := omega) only [f_X9_addGutter, hsz, hrg, hcs, h0, h1, e0, e1, if_neg e2, e3, m0, m1, m3, rd_n, i_eqT, nB_0, xbx_0, xbx_1, xbx_2, xbx_3, th1_0, th1_1, th2_00, th2_01, th2_10, th2_11, th3_000, th3_001, th3_010, th3_011, th3_100, th3_101, th3_110, th3_111, ob_s, xl_s, xb_s, nBt0, nBf0, z10, z01, if_true, if_false, Bool.and_true, Bool.true_and, Bool.and_false, Bool.false_and, Bool.not_true, Bool.not_false, m_1, m_1b, z01n, z10n, bf_t, l_0, l_1, l_2, l_3, l_4, l_5, l_6, l_7, l_8, l_9, l_10, l_11, l_12, l_13, l_14, l_15, l_16, l_17, l_18, l_19, l_20, l_21, l_22, l_23, l_24, l_30, l_31, l_32, l_40, l_41, l_48, l_57, l_59, l_64, l_90, l_97, l_99, l_100, l_119, l_122, l_186, l_200, l_255, l_600, l_999, l_1488, l_1000000] <;> (repeat' split) <;> (try simp only [xbx_0, xbx_1, xbx_2, xbx_3, th1_0, th1_1, th2_00, th2_01, th2_10, th2_11, th3_000, th3_001, th3_010, th3_011, th3_100, th3_101, th3_110, th3_111, ob_s, xl_s, xb_s, nBt0, nBf0, z10, z01, if_true, if_false, Bool.and_true, Bool.true_and, Bool.and_false, Bool.false_and, Bool.not_true, Bool.not_false, m_1, m_1b, z01n, z10n, bf_t, l_0, l_1, l_2, l_3, l_4, l_5, l_6, l_7, l_8, l_9, l_10, l_11, l_12, l_13, l_14, l_15, l_16, l_17, l_18, l_19, l_20, l_21, l_22, l_23, l_24, l_30, l_31, l_32, l_40, l_41, l_48, l_57, l_59, l_64, l_90, l_97, l_99, l_100, l_119, l_122, l_186, l_200, l_255, l_600, l_999, l_1488, l_1000000]))
          have c0 : C 1 3 = nI (u 0 3) := hc.1.2.1
          have hxy : x9 ≠ y9 := fun q => e2 (by rw [q])
          obtain ⟨S2, s1, s2⟩ := kc_lay b2 w (by omega) (a := x9) (b := y9) (x := z99)
          obtain ⟨T3, t1, t2, t3⟩ := km_lay b4 w (by omega) (a := x9) (b := y9) (x := z99)
          obtain ⟨T4, r1, r2, r3⟩ := b5 _ S2 T3 (nI (u 0 3)) s2 t2 t3 (wf_lay w (by omega) k0 k1 hxy ⟨l3, k3⟩) (by rw [n13_qlay x9 y9 0 z99]; exact hn)
          refine ok_r (r := nI (u 0 3)) r2 r3 ?_ ?_
          · simp (disch := omega) only [f_X8_addGutter, f0, f1, f2, f3, y_ref, y_ref', b1, s1, len_roof, z01n, bf_t, c0, i_ltT, xbx_0, xbx_1, xbx_2, xbx_3, th1_0, th1_1, th2_00, th2_01, th2_10, th2_11, th3_000, th3_001, th3_010, th3_011, th3_100, th3_101, th3_110, th3_111, ob_s, xl_s, xb_s, nBt0, nBf0, z10, z01, if_true, if_false, Bool.and_true, Bool.true_and, Bool.and_false, Bool.false_and, Bool.not_true, Bool.not_false, m_1, m_1b, z01n, z10n, bf_t, l_0, l_1, l_2, l_3, l_4, l_5, l_6, l_7, l_8, l_9, l_10, l_11, l_12, l_13, l_14, l_15, l_16, l_17, l_18, l_19, l_20, l_21, l_22, l_23, l_24, l_30, l_31, l_32, l_40, l_41, l_48, l_57, l_59, l_64, l_90, l_97, l_99, l_100, l_119, l_122, l_186, l_200, l_255, l_600, l_999, l_1488, l_1000000]
          · simp (disch := omega) only [f_X9_addGutter, hsz, hrg, hcs, h0, h1, e0, e1, if_neg e2, e3, m0, m1, m3, rd_n, b3, t1, r1, i_eqF, xbx_0, xbx_1, xbx_2, xbx_3, th1_0, th1_1, th2_00, th2_01, th2_10, th2_11, th3_000, th3_001, th3_010, th3_011, th3_100, th3_101, th3_110, th3_111, ob_s, xl_s, xb_s, nBt0, nBf0, z10, z01, if_true, if_false, Bool.and_true, Bool.true_and, Bool.and_false, Bool.false_and, Bool.not_true, Bool.not_false, m_1, m_1b, z01n, z10n, bf_t, l_0, l_1, l_2, l_3, l_4, l_5, l_6, l_7, l_8, l_9, l_10, l_11, l_12, l_13, l_14, l_15, l_16, l_17, l_18, l_19, l_20, l_21, l_22, l_23, l_24, l_30, l_31, l_32, l_40, l_41, l_48, l_57, l_59, l_64, l_90, l_97, l_99, l_100, l_119, l_122, l_186, l_200, l_255, l_600, l_999, l_1488, l_1000000]
theorem q_addCat (g : GI C T) (x y z9 : Int32) : OK [(1, 1), (2, 2), (3, 3)] (f_X8_addCat C x y z9) (f_X9_addCat T x y z9) := by
  have g0 := g
  obtain ⟨u, hc, hm, w, hn, B, T2, b1, b2, b3, b4, b5⟩ := ch_all g
  have b0 : u 0 0 ≤ 10 ∧ u 0 3 ≤ 20 ∧ u 0 7 ≤ 8 := by obtain ⟨hB, w0, w3, w7, wN, wk, wg, wc, wd, wo, wv⟩ := w; exact ⟨w0, w3, w7⟩
  have m0 : T 1 0 = nI (u 0 0) := hm.1
  have m1 : T 1 1 = nI (u 0 3) := hm.2.1
  have m3 : T 1 3 = nI (u 0 13) := hm.2.2.2.1
  have hsz := m_sizes
  have hrg := m_rg
  have hcs := m_cats hm w
  have h0 := km_isChimney hm w x
  cases e0 : qin x (u 0 0)
  · skip
    exact ok_t g0 1 1 (by decide) (by simp (disch := omega) only [f_X8_addCat, n_chi hc e0, z01n, bf_t, xbx_0, xbx_1, xbx_2, xbx_3, th1_0, th1_1, th2_00, th2_01, th2_10, th2_11, th3_000, th3_001, th3_010, th3_011, th3_100, th3_101, th3_110, th3_111, ob_s, xl_s, xb_s, nBt0, nBf0, z10, z01, if_true, if_false, Bool.and_true, Bool.true_and, Bool.and_false, Bool.false_and, Bool.not_true, Bool.not_false, m_1, m_1b, z01n, z10n, bf_t, l_0, l_1, l_2, l_3, l_4, l_5, l_6, l_7, l_8, l_9, l_10, l_11, l_12, l_13, l_14, l_15, l_16, l_17, l_18, l_19, l_20, l_21, l_22, l_23, l_24, l_30, l_31, l_32, l_40, l_41, l_48, l_57, l_59, l_64, l_90, l_97, l_99, l_100, l_119, l_122, l_186, l_200, l_255, l_600, l_999, l_1488, l_1000000]) (by
      simp (disch := omega) only [f_X9_addCat, hsz, hrg, hcs, h0, m0, m1, m3, rd_n, nB_0, e0, ob_s, xbx_0, xbx_1, xbx_2, xbx_3, th1_0, th1_1, th2_00, th2_01, th2_10, th2_11, th3_000, th3_001, th3_010, th3_011, th3_100, th3_101, th3_110, th3_111, ob_s, xl_s, xb_s, nBt0, nBf0, z10, z01, if_true, if_false, Bool.and_true, Bool.true_and, Bool.and_false, Bool.false_and, Bool.not_true, Bool.not_false, m_1, m_1b, z01n, z10n, bf_t, l_0, l_1, l_2, l_3, l_4, l_5, l_6, l_7, l_8, l_9, l_10, l_11, l_12, l_13, l_14, l_15, l_16, l_17, l_18, l_19, l_20, l_21, l_22, l_23, l_24, l_30, l_31, l_32, l_40, l_41, l_48, l_57, l_59, l_64, l_90, l_97, l_99, l_100, l_119, l_122, l_186, l_200, l_255, l_600, l_999, l_1488, l_1000000] <;> (repeat' split) <;> (try simp only [xbx_0, xbx_1, xbx_2, xbx_3, th1_0, th1_1, th2_00, th2_01, th2_10, th2_11, th3_000, th3_001, th3_010, th3_011, th3_100, th3_101, th3_110, th3_111, ob_s, xl_s, xb_s, nBt0, nBf0, z10, z01, if_true, if_false, Bool.and_true, Bool.true_and, Bool.and_false, Bool.false_and, Bool.not_true, Bool.not_false, m_1, m_1b, z01n, z10n, bf_t, l_0, l_1, l_2, l_3, l_4, l_5, l_6, l_7, l_8, l_9, l_10, l_11, l_12, l_13, l_14, l_15, l_16, l_17, l_18, l_19, l_20, l_21, l_22, l_23, l_24, l_30, l_31, l_32, l_40, l_41, l_48, l_57, l_59, l_64, l_90, l_97, l_99, l_100, l_119, l_122, l_186, l_200, l_255, l_600, l_999, l_1488, l_1000000]))
  · skip
    have f0 := y_chi hc e0
    obtain ⟨x9, k0, rfl⟩ := qin_t (by omega) e0
    have q2 := km_canEnter hm w (k := x9) (by omega)
    cases e1 : qrg y 1 9
    · skip
      have f1 := n_rg C y 1 9
      rw [e1] at f1
      exact ok_t g0 2 2 (by decide) (by simp (disch := omega) only [f_X8_addCat, f0, f1, z01n, bf_t, xbx_0, xbx_1, xbx_2, xbx_3, th1_0, th1_1, th2_00, th2_01, th2_10, th2_11, th3_000, th3_001, th3_010, th3_011, th3_100, th3_101, th3_110, th3_111, ob_s, xl_s, xb_s, nBt0, nBf0, z10, z01, if_true, if_false, Bool.and_true, Bool.true_and, Bool.and_false, Bool.false_and, Bool.not_true, Bool.not_false, m_1, m_1b, z01n, z10n, bf_t, l_0, l_1, l_2, l_3, l_4, l_5, l_6, l_7, l_8, l_9, l_10, l_11, l_12, l_13, l_14, l_15, l_16, l_17, l_18, l_19, l_20, l_21, l_22, l_23, l_24, l_30, l_31, l_32, l_40, l_41, l_48, l_57, l_59, l_64, l_90, l_97, l_99, l_100, l_119, l_122, l_186, l_200, l_255, l_600, l_999, l_1488, l_1000000]) (by
        simp (disch := omega) only [f_X9_addCat, hsz, hrg, hcs, h0, q2, m0, m1, m3, rd_n, nB_0, e0, e1, ob_s, xbx_0, xbx_1, xbx_2, xbx_3, th1_0, th1_1, th2_00, th2_01, th2_10, th2_11, th3_000, th3_001, th3_010, th3_011, th3_100, th3_101, th3_110, th3_111, ob_s, xl_s, xb_s, nBt0, nBf0, z10, z01, if_true, if_false, Bool.and_true, Bool.true_and, Bool.and_false, Bool.false_and, Bool.not_true, Bool.not_false, m_1, m_1b, z01n, z10n, bf_t, l_0, l_1, l_2, l_3, l_4, l_5, l_6, l_7, l_8, l_9, l_10, l_11, l_12, l_13, l_14, l_15, l_16, l_17, l_18, l_19, l_20, l_21, l_22, l_23, l_24, l_30, l_31, l_32, l_40, l_41, l_48, l_57, l_59, l_64, l_90, l_97, l_99, l_100, l_119, l_122, l_186, l_200, l_255, l_600, l_999, l_1488, l_1000000] <;> (repeat' split) <;> (try simp only [xbx_0, xbx_1, xbx_2, xbx_3, th1_0, th1_1, th2_00, th2_01, th2_10, th2_11, th3_000, th3_001, th3_010, th3_011, th3_100, th3_101, th3_110, th3_111, ob_s, xl_s, xb_s, nBt0, nBf0, z10, z01, if_true, if_false, Bool.and_true, Bool.true_and, Bool.and_false, Bool.false_and, Bool.not_true, Bool.not_false, m_1, m_1b, z01n, z10n, bf_t, l_0, l_1, l_2, l_3, l_4, l_5, l_6, l_7, l_8, l_9, l_10, l_11, l_12, l_13, l_14, l_15, l_16, l_17, l_18, l_19, l_20, l_21, l_22, l_23, l_24, l_30, l_31, l_32, l_40, l_41, l_48, l_57, l_59, l_64, l_90, l_97, l_99, l_100, l_119, l_122, l_186, l_200, l_255, l_600, l_999, l_1488, l_1000000]))
    · skip
      have f1 := n_rg C y 1 9
      rw [e1] at f1
      obtain ⟨y9, l1, k1, rfl⟩ := qrg_t (by omega) (by omega) e1
      cases e2 : qrg z9 1 9
      · skip
        have f2 := n_rg C z9 1 9
        rw [e2] at f2
        exact ok_t g0 2 2 (by decide) (by simp (disch := omega) only [f_X8_addCat, f0, f1, f2, z01n, bf_t, xbx_0, xbx_1, xbx_2, xbx_3, th1_0, th1_1, th2_00, th2_01, th2_10, th2_11, th3_000, th3_001, th3_010, th3_011, th3_100, th3_101, th3_110, th3_111, ob_s, xl_s, xb_s, nBt0, nBf0, z10, z01, if_true, if_false, Bool.and_true, Bool.true_and, Bool.and_false, Bool.false_and, Bool.not_true, Bool.not_false, m_1, m_1b, z01n, z10n, bf_t, l_0, l_1, l_2, l_3, l_4, l_5, l_6, l_7, l_8, l_9, l_10, l_11, l_12, l_13, l_14, l_15, l_16, l_17, l_18, l_19, l_20, l_21, l_22, l_23, l_24, l_30, l_31, l_32, l_40, l_41, l_48, l_57, l_59, l_64, l_90, l_97, l_99, l_100, l_119, l_122, l_186, l_200, l_255, l_600, l_999, l_1488, l_1000000]) (by
          simp (disch := omega) only [f_X9_addCat, hsz, hrg, hcs, h0, q2, m0, m1, m3, rd_n, nB_0, e0, e1, e2, ob_s, xbx_0, xbx_1, xbx_2, xbx_3, th1_0, th1_1, th2_00, th2_01, th2_10, th2_11, th3_000, th3_001, th3_010, th3_011, th3_100, th3_101, th3_110, th3_111, ob_s, xl_s, xb_s, nBt0, nBf0, z10, z01, if_true, if_false, Bool.and_true, Bool.true_and, Bool.and_false, Bool.false_and, Bool.not_true, Bool.not_false, m_1, m_1b, z01n, z10n, bf_t, l_0, l_1, l_2, l_3, l_4, l_5, l_6, l_7, l_8, l_9, l_10, l_11, l_12, l_13, l_14, l_15, l_16, l_17, l_18, l_19, l_20, l_21, l_22, l_23, l_24, l_30, l_31, l_32, l_40, l_41, l_48, l_57, l_59, l_64, l_90, l_97, l_99, l_100, l_119, l_122, l_186, l_200, l_255, l_600, l_999, l_1488, l_1000000] <;> (repeat' split) <;> (try simp only [xbx_0, xbx_1, xbx_2, xbx_3, th1_0, th1_1, th2_00, th2_01, th2_10, th2_11, th3_000, th3_001, th3_010, th3_011, th3_100, th3_101, th3_110, th3_111, ob_s, xl_s, xb_s, nBt0, nBf0, z10, z01, if_true, if_false, Bool.and_true, Bool.true_and, Bool.and_false, Bool.false_and, Bool.not_true, Bool.not_false, m_1, m_1b, z01n, z10n, bf_t, l_0, l_1, l_2, l_3, l_4, l_5, l_6, l_7, l_8, l_9, l_10, l_11, l_12, l_13, l_14, l_15, l_16, l_17, l_18, l_19, l_20, l_21, l_22, l_23, l_24, l_30, l_31, l_32, l_40, l_41, l_48, l_57, l_59, l_64, l_90, l_97, l_99, l_100, l_119, l_122, l_186, l_200, l_255, l_600, l_999, l_1488, l_1000000]))
      · skip
        have f2 := n_rg C z9 1 9
        rw [e2] at f2
        obtain ⟨z99, l2, k2, rfl⟩ := qrg_t (by omega) (by omega) e2
        have q1 := kc_refCat hc w (k := x9) (by omega)
        by_cases z : u 0 7 < 8 ∧ qsit u x9 = 0
        rotate_left 1
        · exact ok_t g0 3 3 (by decide) (by simp (disch := omega) only [f_X8_addCat, f0, f1, f2, n_ref, n_ref', q1, decide_eq_false z, z01n, bf_t, xbx_0, xbx_1, xbx_2, xbx_3, th1_0, th1_1, th2_00, th2_01, th2_10, th2_11, th3_000, th3_001, th3_010, th3_011, th3_100, th3_101, th3_110, th3_111, ob_s, xl_s, xb_s, nBt0, nBf0, z10, z01, if_true, if_false, Bool.and_true, Bool.true_and, Bool.and_false, Bool.false_and, Bool.not_true, Bool.not_false, m_1, m_1b, z01n, z10n, bf_t, l_0, l_1, l_2, l_3, l_4, l_5, l_6, l_7, l_8, l_9, l_10, l_11, l_12, l_13, l_14, l_15, l_16, l_17, l_18, l_19, l_20, l_21, l_22, l_23, l_24, l_30, l_31, l_32, l_40, l_41, l_48, l_57, l_59, l_64, l_90, l_97, l_99, l_100, l_119, l_122, l_186, l_200, l_255, l_600, l_999, l_1488, l_1000000]) (by
            simp (disch := omega) only [f_X9_addCat, hsz, hrg, hcs, h0, q2, e0, e1, e2, m0, m1, m3, rd_n, q2, decide_eq_false z, nB_0, xbx_0, xbx_1, xbx_2, xbx_3, th1_0, th1_1, th2_00, th2_01, th2_10, th2_11, th3_000, th3_001, th3_010, th3_011, th3_100, th3_101, th3_110, th3_111, ob_s, xl_s, xb_s, nBt0, nBf0, z10, z01, if_true, if_false, Bool.and_true, Bool.true_and, Bool.and_false, Bool.false_and, Bool.not_true, Bool.not_false, m_1, m_1b, z01n, z10n, bf_t, l_0, l_1, l_2, l_3, l_4, l_5, l_6, l_7, l_8, l_9, l_10, l_11, l_12, l_13, l_14, l_15, l_16, l_17, l_18, l_19, l_20, l_21, l_22, l_23, l_24, l_30, l_31, l_32, l_40, l_41, l_48, l_57, l_59, l_64, l_90, l_97, l_99, l_100, l_119, l_122, l_186, l_200, l_255, l_600, l_999, l_1488, l_1000000] <;> (repeat' split) <;> (try simp only [xbx_0, xbx_1, xbx_2, xbx_3, th1_0, th1_1, th2_00, th2_01, th2_10, th2_11, th3_000, th3_001, th3_010, th3_011, th3_100, th3_101, th3_110, th3_111, ob_s, xl_s, xb_s, nBt0, nBf0, z10, z01, if_true, if_false, Bool.and_true, Bool.true_and, Bool.and_false, Bool.false_and, Bool.not_true, Bool.not_false, m_1, m_1b, z01n, z10n, bf_t, l_0, l_1, l_2, l_3, l_4, l_5, l_6, l_7, l_8, l_9, l_10, l_11, l_12, l_13, l_14, l_15, l_16, l_17, l_18, l_19, l_20, l_21, l_22, l_23, l_24, l_30, l_31, l_32, l_40, l_41, l_48, l_57, l_59, l_64, l_90, l_97, l_99, l_100, l_119, l_122, l_186, l_200, l_255, l_600, l_999, l_1488, l_1000000]))
        obtain ⟨S2, s1, s2, -, -⟩ := kc_put b2 w z.1 (k := x9) (g := y9) (s := z99)
        obtain ⟨T3, t1, t2, t3⟩ := km_put b4 w z.1 (x := x9) (g := y9) (s := z99)
        obtain ⟨T4, r1, r2, r3⟩ := b5 _ S2 T3 (nI (u 0 7)) s2 t2 t3 (wf_put w z.1 k0 z.2 ⟨l1, k1⟩ ⟨l2, k2⟩) (by rw [n13_qput x9 y9 0 z99]; exact hn)
        refine ok_r (r := nI (u 0 7)) r2 r3 ?_ ?_
        · simp (disch := omega) only [f_X8_addCat, f0, f1, f2, y_ref, y_ref', b1, s1, len_roof, z01n, bf_t, q1, decide_eq_true z, xbx_0, xbx_1, xbx_2, xbx_3, th1_0, th1_1, th2_00, th2_01, th2_10, th2_11, th3_000, th3_001, th3_010, th3_011, th3_100, th3_101, th3_110, th3_111, ob_s, xl_s, xb_s, nBt0, nBf0, z10, z01, if_true, if_false, Bool.and_true, Bool.true_and, Bool.and_false, Bool.false_and, Bool.not_true, Bool.not_false, m_1, m_1b, z01n, z10n, bf_t, l_0, l_1, l_2, l_3, l_4, l_5, l_6, l_7, l_8, l_9, l_10, l_11, l_12, l_13, l_14, l_15, l_16, l_17, l_18, l_19, l_20, l_21, l_22, l_23, l_24, l_30, l_31, l_32, l_40, l_41, l_48, l_57, l_59, l_64, l_90, l_97, l_99, l_100, l_119, l_122, l_186, l_200, l_255, l_600, l_999, l_1488, l_1000000]
        · simp (disch := omega) only [f_X9_addCat, hsz, hrg, hcs, h0, q2, e0, e1, e2, m0, m1, m3, rd_n, b3, t1, r1, q2, decide_eq_true z, xbx_0, xbx_1, xbx_2, xbx_3, th1_0, th1_1, th2_00, th2_01, th2_10, th2_11, th3_000, th3_001, th3_010, th3_011, th3_100, th3_101, th3_110, th3_111, ob_s, xl_s, xb_s, nBt0, nBf0, z10, z01, if_true, if_false, Bool.and_true, Bool.true_and, Bool.and_false, Bool.false_and, Bool.not_true, Bool.not_false, m_1, m_1b, z01n, z10n, bf_t, l_0, l_1, l_2, l_3, l_4, l_5, l_6, l_7, l_8, l_9, l_10, l_11, l_12, l_13, l_14, l_15, l_16, l_17, l_18, l_19, l_20, l_21, l_22, l_23, l_24, l_30, l_31, l_32, l_40, l_41, l_48, l_57, l_59, l_64, l_90, l_97, l_99, l_100, l_119, l_122, l_186, l_200, l_255, l_600, l_999, l_1488, l_1000000]
theorem q_step (g : GI C T) (x y : Int32) : OK [(1, 1), (3, 2)] (f_X8_step C x y) (f_X9_step T x y) := by
  have g0 := g
  obtain ⟨u, hc, hm, w, hn, B, T2, b1, b2, b3, b4, b5⟩ := ch_all g
  have b0 : u 0 0 ≤ 10 ∧ u 0 3 ≤ 20 ∧ u 0 7 ≤ 8 := by obtain ⟨hB, w0, w3, w7, wN, wk, wg, wc, wd, wo, wv⟩ := w; exact ⟨w0, w3, w7⟩
  have m0 : T 1 0 = nI (u 0 0) := hm.1
  have m1 : T 1 1 = nI (u 0 3) := hm.2.1
  have m3 : T 1 3 = nI (u 0 13) := hm.2.2.2.1
  have hsz := m_sizes
  have hrg := m_rg
  have hcs := m_cats hm w
  have h0 := km_isCat hm w x
  have h1 := km_isGutter hm w y
  cases e0 : qin x (u 0 7)
  · skip
    exact ok_t g0 1 1 (by decide) (by simp (disch := omega) only [f_X8_step, n_cat hc e0, z01n, bf_t, xbx_0, xbx_1, xbx_2, xbx_3, th1_0, th1_1, th2_00, th2_01, th2_10, th2_11, th3_000, th3_001, th3_010, th3_011, th3_100, th3_101, th3_110, th3_111, ob_s, xl_s, xb_s, nBt0, nBf0, z10, z01, if_true, if_false, Bool.and_true, Bool.true_and, Bool.and_false, Bool.false_and, Bool.not_true, Bool.not_false, m_1, m_1b, z01n, z10n, bf_t, l_0, l_1, l_2, l_3, l_4, l_5, l_6, l_7, l_8, l_9, l_10, l_11, l_12, l_13, l_14, l_15, l_16, l_17, l_18, l_19, l_20, l_21, l_22, l_23, l_24, l_30, l_31, l_32, l_40, l_41, l_48, l_57, l_59, l_64, l_90, l_97, l_99, l_100, l_119, l_122, l_186, l_200, l_255, l_600, l_999, l_1488, l_1000000]) (by
      simp (disch := omega) only [f_X9_step, hsz, hrg, hcs, h0, h1, m0, m1, m3, rd_n, nB_0, e0, ob_s, xbx_0, xbx_1, xbx_2, xbx_3, th1_0, th1_1, th2_00, th2_01, th2_10, th2_11, th3_000, th3_001, th3_010, th3_011, th3_100, th3_101, th3_110, th3_111, ob_s, xl_s, xb_s, nBt0, nBf0, z10, z01, if_true, if_false, Bool.and_true, Bool.true_and, Bool.and_false, Bool.false_and, Bool.not_true, Bool.not_false, m_1, m_1b, z01n, z10n, bf_t, l_0, l_1, l_2, l_3, l_4, l_5, l_6, l_7, l_8, l_9, l_10, l_11, l_12, l_13, l_14, l_15, l_16, l_17, l_18, l_19, l_20, l_21, l_22, l_23, l_24, l_30, l_31, l_32, l_40, l_41, l_48, l_57, l_59, l_64, l_90, l_97, l_99, l_100, l_119, l_122, l_186, l_200, l_255, l_600, l_999, l_1488, l_1000000] <;> (repeat' split) <;> (try simp only [xbx_0, xbx_1, xbx_2, xbx_3, th1_0, th1_1, th2_00, th2_01, th2_10, th2_11, th3_000, th3_001, th3_010, th3_011, th3_100, th3_101, th3_110, th3_111, ob_s, xl_s, xb_s, nBt0, nBf0, z10, z01, if_true, if_false, Bool.and_true, Bool.true_and, Bool.and_false, Bool.false_and, Bool.not_true, Bool.not_false, m_1, m_1b, z01n, z10n, bf_t, l_0, l_1, l_2, l_3, l_4, l_5, l_6, l_7, l_8, l_9, l_10, l_11, l_12, l_13, l_14, l_15, l_16, l_17, l_18, l_19, l_20, l_21, l_22, l_23, l_24, l_30, l_31, l_32, l_40, l_41, l_48, l_57, l_59, l_64, l_90, l_97, l_99, l_100, l_119, l_122, l_186, l_200, l_255, l_600, l_999, l_1488, l_1000000]))
  · skip
    have f0 := y_cat hc e0
    obtain ⟨x9, k0, rfl⟩ := qin_t (by omega) e0
    cases e1 : qin y (u 0 3)
    · skip
      exact ok_t g0 1 1 (by decide) (by simp (disch := omega) only [f_X8_step, f0, n_gut hc e1, z01n, bf_t, xbx_0, xbx_1, xbx_2, xbx_3, th1_0, th1_1, th2_00, th2_01, th2_10, th2_11, th3_000, th3_001, th3_010, th3_011, th3_100, th3_101, th3_110, th3_111, ob_s, xl_s, xb_s, nBt0, nBf0, z10, z01, if_true, if_false, Bool.and_true, Bool.true_and, Bool.and_false, Bool.false_and, Bool.not_true, Bool.not_false, m_1, m_1b, z01n, z10n, bf_t, l_0, l_1, l_2, l_3, l_4, l_5, l_6, l_7, l_8, l_9, l_10, l_11, l_12, l_13, l_14, l_15, l_16, l_17, l_18, l_19, l_20, l_21, l_22, l_23, l_24, l_30, l_31, l_32, l_40, l_41, l_48, l_57, l_59, l_64, l_90, l_97, l_99, l_100, l_119, l_122, l_186, l_200, l_255, l_600, l_999, l_1488, l_1000000]) (by
        simp (disch := omega) only [f_X9_step, hsz, hrg, hcs, h0, h1, m0, m1, m3, rd_n, nB_0, e0, e1, ob_s, xbx_0, xbx_1, xbx_2, xbx_3, th1_0, th1_1, th2_00, th2_01, th2_10, th2_11, th3_000, th3_001, th3_010, th3_011, th3_100, th3_101, th3_110, th3_111, ob_s, xl_s, xb_s, nBt0, nBf0, z10, z01, if_true, if_false, Bool.and_true, Bool.true_and, Bool.and_false, Bool.false_and, Bool.not_true, Bool.not_false, m_1, m_1b, z01n, z10n, bf_t, l_0, l_1, l_2, l_3, l_4, l_5, l_6, l_7, l_8, l_9, l_10, l_11, l_12, l_13, l_14, l_15, l_16, l_17, l_18, l_19, l_20, l_21, l_22, l_23, l_24, l_30, l_31, l_32, l_40, l_41, l_48, l_57, l_59, l_64, l_90, l_97, l_99, l_100, l_119, l_122, l_186, l_200, l_255, l_600, l_999, l_1488, l_1000000] <;> (repeat' split) <;> (try simp only [xbx_0, xbx_1, xbx_2, xbx_3, th1_0, th1_1, th2_00, th2_01, th2_10, th2_11, th3_000, th3_001, th3_010, th3_011, th3_100, th3_101, th3_110, th3_111, ob_s, xl_s, xb_s, nBt0, nBf0, z10, z01, if_true, if_false, Bool.and_true, Bool.true_and, Bool.and_false, Bool.false_and, Bool.not_true, Bool.not_false, m_1, m_1b, z01n, z10n, bf_t, l_0, l_1, l_2, l_3, l_4, l_5, l_6, l_7, l_8, l_9, l_10, l_11, l_12, l_13, l_14, l_15, l_16, l_17, l_18, l_19, l_20, l_21, l_22, l_23, l_24, l_30, l_31, l_32, l_40, l_41, l_48, l_57, l_59, l_64, l_90, l_97, l_99, l_100, l_119, l_122, l_186, l_200, l_255, l_600, l_999, l_1488, l_1000000]))
    · skip
      have f1 := y_gut hc e1
      obtain ⟨y9, k1, rfl⟩ := qin_t (by omega) e1
      have q1 := kc_step hc w k0 k1
      have q2 := km_step hm w k0 k1
      have q3 := qstep_le u x9 y9
      by_cases z : qstep u x9 y9 = 0
      rotate_left 1
      · exact ok_t g0 3 2 (by decide) (by simp (disch := omega) only [f_X8_step, f0, f1, n_ref, n_ref', q1, i_eqF, z01n, bf_t, xbx_0, xbx_1, xbx_2, xbx_3, th1_0, th1_1, th2_00, th2_01, th2_10, th2_11, th3_000, th3_001, th3_010, th3_011, th3_100, th3_101, th3_110, th3_111, ob_s, xl_s, xb_s, nBt0, nBf0, z10, z01, if_true, if_false, Bool.and_true, Bool.true_and, Bool.and_false, Bool.false_and, Bool.not_true, Bool.not_false, m_1, m_1b, z01n, z10n, bf_t, l_0, l_1, l_2, l_3, l_4, l_5, l_6, l_7, l_8, l_9, l_10, l_11, l_12, l_13, l_14, l_15, l_16, l_17, l_18, l_19, l_20, l_21, l_22, l_23, l_24, l_30, l_31, l_32, l_40, l_41, l_48, l_57, l_59, l_64, l_90, l_97, l_99, l_100, l_119, l_122, l_186, l_200, l_255, l_600, l_999, l_1488, l_1000000]) (by
          simp (disch := omega) only [f_X9_step, hsz, hrg, hcs, h0, h1, e0, e1, m0, m1, m3, rd_n, q2, i_eqF, nB_0, xbx_0, xbx_1, xbx_2, xbx_3, th1_0, th1_1, th2_00, th2_01, th2_10, th2_11, th3_000, th3_001, th3_010, th3_011, th3_100, th3_101, th3_110, th3_111, ob_s, xl_s, xb_s, nBt0, nBf0, z10, z01, if_true, if_false, Bool.and_true, Bool.true_and, Bool.and_false, Bool.false_and, Bool.not_true, Bool.not_false, m_1, m_1b, z01n, z10n, bf_t, l_0, l_1, l_2, l_3, l_4, l_5, l_6, l_7, l_8, l_9, l_10, l_11, l_12, l_13, l_14, l_15, l_16, l_17, l_18, l_19, l_20, l_21, l_22, l_23, l_24, l_30, l_31, l_32, l_40, l_41, l_48, l_57, l_59, l_64, l_90, l_97, l_99, l_100, l_119, l_122, l_186, l_200, l_255, l_600, l_999, l_1488, l_1000000] <;> (repeat' split) <;> (try simp only [xbx_0, xbx_1, xbx_2, xbx_3, th1_0, th1_1, th2_00, th2_01, th2_10, th2_11, th3_000, th3_001, th3_010, th3_011, th3_100, th3_101, th3_110, th3_111, ob_s, xl_s, xb_s, nBt0, nBf0, z10, z01, if_true, if_false, Bool.and_true, Bool.true_and, Bool.and_false, Bool.false_and, Bool.not_true, Bool.not_false, m_1, m_1b, z01n, z10n, bf_t, l_0, l_1, l_2, l_3, l_4, l_5, l_6, l_7, l_8, l_9, l_10, l_11, l_12, l_13, l_14, l_15, l_16, l_17, l_18, l_19, l_20, l_21, l_22, l_23, l_24, l_30, l_31, l_32, l_40, l_41, l_48, l_57, l_59, l_64, l_90, l_97, l_99, l_100, l_119, l_122, l_186, l_200, l_255, l_600, l_999, l_1488, l_1000000]))
      obtain ⟨S2, s1, s2⟩ := kc_go b2 w k0 k1
      obtain ⟨T3, t1, t2, t3⟩ := km_go b4 w k0 k1 z
      obtain ⟨T4, r1, r2, r3⟩ := b5 _ S2 T3 (nI (qfar u x9 y9)) s2 t2 t3 (wf_go w k0 k1 z) (by rw [n13_qgo x9 y9 0 0]; exact hn)
      refine ok_r (r := nI (qfar u x9 y9)) r2 r3 ?_ ?_
      · simp (disch := omega) only [f_X8_step, f0, f1, y_ref, y_ref', b1, s1, len_roof, z01n, bf_t, q1, z, xbx_0, xbx_1, xbx_2, xbx_3, th1_0, th1_1, th2_00, th2_01, th2_10, th2_11, th3_000, th3_001, th3_010, th3_011, th3_100, th3_101, th3_110, th3_111, ob_s, xl_s, xb_s, nBt0, nBf0, z10, z01, if_true, if_false, Bool.and_true, Bool.true_and, Bool.and_false, Bool.false_and, Bool.not_true, Bool.not_false, m_1, m_1b, z01n, z10n, bf_t, l_0, l_1, l_2, l_3, l_4, l_5, l_6, l_7, l_8, l_9, l_10, l_11, l_12, l_13, l_14, l_15, l_16, l_17, l_18, l_19, l_20, l_21, l_22, l_23, l_24, l_30, l_31, l_32, l_40, l_41, l_48, l_57, l_59, l_64, l_90, l_97, l_99, l_100, l_119, l_122, l_186, l_200, l_255, l_600, l_999, l_1488, l_1000000]
      · simp (disch := omega) only [f_X9_step, hsz, hrg, hcs, h0, h1, e0, e1, m0, m1, m3, rd_n, b3, t1, r1, q2, z, xbx_0, xbx_1, xbx_2, xbx_3, th1_0, th1_1, th2_00, th2_01, th2_10, th2_11, th3_000, th3_001, th3_010, th3_011, th3_100, th3_101, th3_110, th3_111, ob_s, xl_s, xb_s, nBt0, nBf0, z10, z01, if_true, if_false, Bool.and_true, Bool.true_and, Bool.and_false, Bool.false_and, Bool.not_true, Bool.not_false, m_1, m_1b, z01n, z10n, bf_t, l_0, l_1, l_2, l_3, l_4, l_5, l_6, l_7, l_8, l_9, l_10, l_11, l_12, l_13, l_14, l_15, l_16, l_17, l_18, l_19, l_20, l_21, l_22, l_23, l_24, l_30, l_31, l_32, l_40, l_41, l_48, l_57, l_59, l_64, l_90, l_97, l_99, l_100, l_119, l_122, l_186, l_200, l_255, l_600, l_999, l_1488, l_1000000]
theorem q_claim (g : GI C T) (x : Int32) : OK [(1, 1), (3, 2)] (f_X8_claim C x) (f_X9_claim T x) := by
  have g0 := g
  obtain ⟨u, hc, hm, w, hn, B, T2, b1, b2, b3, b4, b5⟩ := ch_all g
  have b0 : u 0 0 ≤ 10 ∧ u 0 3 ≤ 20 ∧ u 0 7 ≤ 8 := by obtain ⟨hB, w0, w3, w7, wN, wk, wg, wc, wd, wo, wv⟩ := w; exact ⟨w0, w3, w7⟩
  have m0 : T 1 0 = nI (u 0 0) := hm.1
  have m1 : T 1 1 = nI (u 0 3) := hm.2.1
  have m3 : T 1 3 = nI (u 0 13) := hm.2.2.2.1
  have hsz := m_sizes
  have hrg := m_rg
  have hcs := m_cats hm w
  have h0 := km_isCat hm w x
  cases e0 : qin x (u 0 7)
  · skip
    exact ok_t g0 1 1 (by decide) (by simp (disch := omega) only [f_X8_claim, n_cat hc e0, z01n, bf_t, xbx_0, xbx_1, xbx_2, xbx_3, th1_0, th1_1, th2_00, th2_01, th2_10, th2_11, th3_000, th3_001, th3_010, th3_011, th3_100, th3_101, th3_110, th3_111, ob_s, xl_s, xb_s, nBt0, nBf0, z10, z01, if_true, if_false, Bool.and_true, Bool.true_and, Bool.and_false, Bool.false_and, Bool.not_true, Bool.not_false, m_1, m_1b, z01n, z10n, bf_t, l_0, l_1, l_2, l_3, l_4, l_5, l_6, l_7, l_8, l_9, l_10, l_11, l_12, l_13, l_14, l_15, l_16, l_17, l_18, l_19, l_20, l_21, l_22, l_23, l_24, l_30, l_31, l_32, l_40, l_41, l_48, l_57, l_59, l_64, l_90, l_97, l_99, l_100, l_119, l_122, l_186, l_200, l_255, l_600, l_999, l_1488, l_1000000]) (by
      simp (disch := omega) only [f_X9_claim, hsz, hrg, hcs, h0, m0, m1, m3, rd_n, nB_0, e0, ob_s, xbx_0, xbx_1, xbx_2, xbx_3, th1_0, th1_1, th2_00, th2_01, th2_10, th2_11, th3_000, th3_001, th3_010, th3_011, th3_100, th3_101, th3_110, th3_111, ob_s, xl_s, xb_s, nBt0, nBf0, z10, z01, if_true, if_false, Bool.and_true, Bool.true_and, Bool.and_false, Bool.false_and, Bool.not_true, Bool.not_false, m_1, m_1b, z01n, z10n, bf_t, l_0, l_1, l_2, l_3, l_4, l_5, l_6, l_7, l_8, l_9, l_10, l_11, l_12, l_13, l_14, l_15, l_16, l_17, l_18, l_19, l_20, l_21, l_22, l_23, l_24, l_30, l_31, l_32, l_40, l_41, l_48, l_57, l_59, l_64, l_90, l_97, l_99, l_100, l_119, l_122, l_186, l_200, l_255, l_600, l_999, l_1488, l_1000000] <;> (repeat' split) <;> (try simp only [xbx_0, xbx_1, xbx_2, xbx_3, th1_0, th1_1, th2_00, th2_01, th2_10, th2_11, th3_000, th3_001, th3_010, th3_011, th3_100, th3_101, th3_110, th3_111, ob_s, xl_s, xb_s, nBt0, nBf0, z10, z01, if_true, if_false, Bool.and_true, Bool.true_and, Bool.and_false, Bool.false_and, Bool.not_true, Bool.not_false, m_1, m_1b, z01n, z10n, bf_t, l_0, l_1, l_2, l_3, l_4, l_5, l_6, l_7, l_8, l_9, l_10, l_11, l_12, l_13, l_14, l_15, l_16, l_17, l_18, l_19, l_20, l_21, l_22, l_23, l_24, l_30, l_31, l_32, l_40, l_41, l_48, l_57, l_59, l_64, l_90, l_97, l_99, l_100, l_119, l_122, l_186, l_200, l_255, l_600, l_999, l_1488, l_1000000]))
  · skip
    have f0 := y_cat hc e0
    obtain ⟨x9, k0, rfl⟩ := qin_t (by omega) e0
    have q1 := kc_claim hc w k0
    have q2 := km_claim hm w k0
    have q3 := qclaim_le u x9
    by_cases z : qclaim u x9 = 0
    rotate_left 1
    · exact ok_t g0 3 2 (by decide) (by simp (disch := omega) only [f_X8_claim, f0, n_ref, n_ref', q1, i_eqF, z01n, bf_t, xbx_0, xbx_1, xbx_2, xbx_3, th1_0, th1_1, th2_00, th2_01, th2_10, th2_11, th3_000, th3_001, th3_010, th3_011, th3_100, th3_101, th3_110, th3_111, ob_s, xl_s, xb_s, nBt0, nBf0, z10, z01, if_true, if_false, Bool.and_true, Bool.true_and, Bool.and_false, Bool.false_and, Bool.not_true, Bool.not_false, m_1, m_1b, z01n, z10n, bf_t, l_0, l_1, l_2, l_3, l_4, l_5, l_6, l_7, l_8, l_9, l_10, l_11, l_12, l_13, l_14, l_15, l_16, l_17, l_18, l_19, l_20, l_21, l_22, l_23, l_24, l_30, l_31, l_32, l_40, l_41, l_48, l_57, l_59, l_64, l_90, l_97, l_99, l_100, l_119, l_122, l_186, l_200, l_255, l_600, l_999, l_1488, l_1000000]) (by
        simp (disch := omega) only [f_X9_claim, hsz, hrg, hcs, h0, e0, m0, m1, m3, rd_n, q2, i_eqF, nB_0, xbx_0, xbx_1, xbx_2, xbx_3, th1_0, th1_1, th2_00, th2_01, th2_10, th2_11, th3_000, th3_001, th3_010, th3_011, th3_100, th3_101, th3_110, th3_111, ob_s, xl_s, xb_s, nBt0, nBf0, z10, z01, if_true, if_false, Bool.and_true, Bool.true_and, Bool.and_false, Bool.false_and, Bool.not_true, Bool.not_false, m_1, m_1b, z01n, z10n, bf_t, l_0, l_1, l_2, l_3, l_4, l_5, l_6, l_7, l_8, l_9, l_10, l_11, l_12, l_13, l_14, l_15, l_16, l_17, l_18, l_19, l_20, l_21, l_22, l_23, l_24, l_30, l_31, l_32, l_40, l_41, l_48, l_57, l_59, l_64, l_90, l_97, l_99, l_100, l_119, l_122, l_186, l_200, l_255, l_600, l_999, l_1488, l_1000000] <;> (repeat' split) <;> (try simp only [xbx_0, xbx_1, xbx_2, xbx_3, th1_0, th1_1, th2_00, th2_01, th2_10, th2_11, th3_000, th3_001, th3_010, th3_011, th3_100, th3_101, th3_110, th3_111, ob_s, xl_s, xb_s, nBt0, nBf0, z10, z01, if_true, if_false, Bool.and_true, Bool.true_and, Bool.and_false, Bool.false_and, Bool.not_true, Bool.not_false, m_1, m_1b, z01n, z10n, bf_t, l_0, l_1, l_2, l_3, l_4, l_5, l_6, l_7, l_8, l_9, l_10, l_11, l_12, l_13, l_14, l_15, l_16, l_17, l_18, l_19, l_20, l_21, l_22, l_23, l_24, l_30, l_31, l_32, l_40, l_41, l_48, l_57, l_59, l_64, l_90, l_97, l_99, l_100, l_119, l_122, l_186, l_200, l_255, l_600, l_999, l_1488, l_1000000]))
    have w5 := wf_take w k0 z
    obtain ⟨S2, s1, s2⟩ := kc_take b2 w k0 w5
    obtain ⟨T3, t1, t2, t3⟩ := km_take b4 w k0 w5
    obtain ⟨T4, r1, r2, r3⟩ := b5 _ S2 T3 (nI (qown (qtake u x9) x9)) s2 t2 t3 w5 (by rw [n13_qtake x9 0 0 0]; exact hn)
    refine ok_r (r := nI (qown (qtake u x9) x9)) r2 r3 ?_ ?_
    · simp (disch := omega) only [f_X8_claim, f0, y_ref, y_ref', b1, s1, len_roof, z01n, bf_t, q1, z, xbx_0, xbx_1, xbx_2, xbx_3, th1_0, th1_1, th2_00, th2_01, th2_10, th2_11, th3_000, th3_001, th3_010, th3_011, th3_100, th3_101, th3_110, th3_111, ob_s, xl_s, xb_s, nBt0, nBf0, z10, z01, if_true, if_false, Bool.and_true, Bool.true_and, Bool.and_false, Bool.false_and, Bool.not_true, Bool.not_false, m_1, m_1b, z01n, z10n, bf_t, l_0, l_1, l_2, l_3, l_4, l_5, l_6, l_7, l_8, l_9, l_10, l_11, l_12, l_13, l_14, l_15, l_16, l_17, l_18, l_19, l_20, l_21, l_22, l_23, l_24, l_30, l_31, l_32, l_40, l_41, l_48, l_57, l_59, l_64, l_90, l_97, l_99, l_100, l_119, l_122, l_186, l_200, l_255, l_600, l_999, l_1488, l_1000000]
    · simp (disch := omega) only [f_X9_claim, hsz, hrg, hcs, h0, e0, m0, m1, m3, rd_n, b3, t1, r1, q2, z, xbx_0, xbx_1, xbx_2, xbx_3, th1_0, th1_1, th2_00, th2_01, th2_10, th2_11, th3_000, th3_001, th3_010, th3_011, th3_100, th3_101, th3_110, th3_111, ob_s, xl_s, xb_s, nBt0, nBf0, z10, z01, if_true, if_false, Bool.and_true, Bool.true_and, Bool.and_false, Bool.false_and, Bool.not_true, Bool.not_false, m_1, m_1b, z01n, z10n, bf_t, l_0, l_1, l_2, l_3, l_4, l_5, l_6, l_7, l_8, l_9, l_10, l_11, l_12, l_13, l_14, l_15, l_16, l_17, l_18, l_19, l_20, l_21, l_22, l_23, l_24, l_30, l_31, l_32, l_40, l_41, l_48, l_57, l_59, l_64, l_90, l_97, l_99, l_100, l_119, l_122, l_186, l_200, l_255, l_600, l_999, l_1488, l_1000000]
theorem q_abandon (g : GI C T) (x : Int32) : OK [(1, 1), (3, 2)] (f_X8_abandon C x) (f_X9_abandon T x) := by
  have g0 := g
  obtain ⟨u, hc, hm, w, hn, B, T2, b1, b2, b3, b4, b5⟩ := ch_all g
  have b0 : u 0 0 ≤ 10 ∧ u 0 3 ≤ 20 ∧ u 0 7 ≤ 8 := by obtain ⟨hB, w0, w3, w7, wN, wk, wg, wc, wd, wo, wv⟩ := w; exact ⟨w0, w3, w7⟩
  have m0 : T 1 0 = nI (u 0 0) := hm.1
  have m1 : T 1 1 = nI (u 0 3) := hm.2.1
  have m3 : T 1 3 = nI (u 0 13) := hm.2.2.2.1
  have hsz := m_sizes
  have hrg := m_rg
  have hcs := m_cats hm w
  have h0 := km_isChimney hm w x
  cases e0 : qin x (u 0 0)
  · skip
    exact ok_t g0 1 1 (by decide) (by simp (disch := omega) only [f_X8_abandon, n_chi hc e0, z01n, bf_t, xbx_0, xbx_1, xbx_2, xbx_3, th1_0, th1_1, th2_00, th2_01, th2_10, th2_11, th3_000, th3_001, th3_010, th3_011, th3_100, th3_101, th3_110, th3_111, ob_s, xl_s, xb_s, nBt0, nBf0, z10, z01, if_true, if_false, Bool.and_true, Bool.true_and, Bool.and_false, Bool.false_and, Bool.not_true, Bool.not_false, m_1, m_1b, z01n, z10n, bf_t, l_0, l_1, l_2, l_3, l_4, l_5, l_6, l_7, l_8, l_9, l_10, l_11, l_12, l_13, l_14, l_15, l_16, l_17, l_18, l_19, l_20, l_21, l_22, l_23, l_24, l_30, l_31, l_32, l_40, l_41, l_48, l_57, l_59, l_64, l_90, l_97, l_99, l_100, l_119, l_122, l_186, l_200, l_255, l_600, l_999, l_1488, l_1000000]) (by
      simp (disch := omega) only [f_X9_abandon, hsz, hrg, hcs, h0, m0, m1, m3, rd_n, nB_0, e0, ob_s, xbx_0, xbx_1, xbx_2, xbx_3, th1_0, th1_1, th2_00, th2_01, th2_10, th2_11, th3_000, th3_001, th3_010, th3_011, th3_100, th3_101, th3_110, th3_111, ob_s, xl_s, xb_s, nBt0, nBf0, z10, z01, if_true, if_false, Bool.and_true, Bool.true_and, Bool.and_false, Bool.false_and, Bool.not_true, Bool.not_false, m_1, m_1b, z01n, z10n, bf_t, l_0, l_1, l_2, l_3, l_4, l_5, l_6, l_7, l_8, l_9, l_10, l_11, l_12, l_13, l_14, l_15, l_16, l_17, l_18, l_19, l_20, l_21, l_22, l_23, l_24, l_30, l_31, l_32, l_40, l_41, l_48, l_57, l_59, l_64, l_90, l_97, l_99, l_100, l_119, l_122, l_186, l_200, l_255, l_600, l_999, l_1488, l_1000000] <;> (repeat' split) <;> (try simp only [xbx_0, xbx_1, xbx_2, xbx_3, th1_0, th1_1, th2_00, th2_01, th2_10, th2_11, th3_000, th3_001, th3_010, th3_011, th3_100, th3_101, th3_110, th3_111, ob_s, xl_s, xb_s, nBt0, nBf0, z10, z01, if_true, if_false, Bool.and_true, Bool.true_and, Bool.and_false, Bool.false_and, Bool.not_true, Bool.not_false, m_1, m_1b, z01n, z10n, bf_t, l_0, l_1, l_2, l_3, l_4, l_5, l_6, l_7, l_8, l_9, l_10, l_11, l_12, l_13, l_14, l_15, l_16, l_17, l_18, l_19, l_20, l_21, l_22, l_23, l_24, l_30, l_31, l_32, l_40, l_41, l_48, l_57, l_59, l_64, l_90, l_97, l_99, l_100, l_119, l_122, l_186, l_200, l_255, l_600, l_999, l_1488, l_1000000]))
  · skip
    have f0 := y_chi hc e0
    obtain ⟨x9, k0, rfl⟩ := qin_t (by omega) e0
    have q1 : C 3 x9 = oI (u 2 x9) := hc.2.2.1 x9 k0
    have q2 := km_owner hm (k := x9) (by omega)
    have q3 : u 2 x9 < 1048576 := by obtain ⟨hB, w0, w3, w7, wN, wk, wg, wc, wd, wo, wv⟩ := w; exact hB 2 x9 (by decide)
    by_cases z : u 2 x9 ≠ 0
    rotate_left 1
    · exact ok_t g0 3 2 (by decide) (by simp (disch := omega) only [f_X8_abandon, f0, n_ref, n_ref', q1, i_oT, rd_n, z01n, bf_t, xbx_0, xbx_1, xbx_2, xbx_3, th1_0, th1_1, th2_00, th2_01, th2_10, th2_11, th3_000, th3_001, th3_010, th3_011, th3_100, th3_101, th3_110, th3_111, ob_s, xl_s, xb_s, nBt0, nBf0, z10, z01, if_true, if_false, Bool.and_true, Bool.true_and, Bool.and_false, Bool.false_and, Bool.not_true, Bool.not_false, m_1, m_1b, z01n, z10n, bf_t, l_0, l_1, l_2, l_3, l_4, l_5, l_6, l_7, l_8, l_9, l_10, l_11, l_12, l_13, l_14, l_15, l_16, l_17, l_18, l_19, l_20, l_21, l_22, l_23, l_24, l_30, l_31, l_32, l_40, l_41, l_48, l_57, l_59, l_64, l_90, l_97, l_99, l_100, l_119, l_122, l_186, l_200, l_255, l_600, l_999, l_1488, l_1000000]) (by
        simp (disch := omega) only [f_X9_abandon, hsz, hrg, hcs, h0, e0, m0, m1, m3, rd_n, q2, i_oT, nB_0, xbx_0, xbx_1, xbx_2, xbx_3, th1_0, th1_1, th2_00, th2_01, th2_10, th2_11, th3_000, th3_001, th3_010, th3_011, th3_100, th3_101, th3_110, th3_111, ob_s, xl_s, xb_s, nBt0, nBf0, z10, z01, if_true, if_false, Bool.and_true, Bool.true_and, Bool.and_false, Bool.false_and, Bool.not_true, Bool.not_false, m_1, m_1b, z01n, z10n, bf_t, l_0, l_1, l_2, l_3, l_4, l_5, l_6, l_7, l_8, l_9, l_10, l_11, l_12, l_13, l_14, l_15, l_16, l_17, l_18, l_19, l_20, l_21, l_22, l_23, l_24, l_30, l_31, l_32, l_40, l_41, l_48, l_57, l_59, l_64, l_90, l_97, l_99, l_100, l_119, l_122, l_186, l_200, l_255, l_600, l_999, l_1488, l_1000000] <;> (repeat' split) <;> (try simp only [xbx_0, xbx_1, xbx_2, xbx_3, th1_0, th1_1, th2_00, th2_01, th2_10, th2_11, th3_000, th3_001, th3_010, th3_011, th3_100, th3_101, th3_110, th3_111, ob_s, xl_s, xb_s, nBt0, nBf0, z10, z01, if_true, if_false, Bool.and_true, Bool.true_and, Bool.and_false, Bool.false_and, Bool.not_true, Bool.not_false, m_1, m_1b, z01n, z10n, bf_t, l_0, l_1, l_2, l_3, l_4, l_5, l_6, l_7, l_8, l_9, l_10, l_11, l_12, l_13, l_14, l_15, l_16, l_17, l_18, l_19, l_20, l_21, l_22, l_23, l_24, l_30, l_31, l_32, l_40, l_41, l_48, l_57, l_59, l_64, l_90, l_97, l_99, l_100, l_119, l_122, l_186, l_200, l_255, l_600, l_999, l_1488, l_1000000]))
    obtain ⟨S2, s1, s2⟩ := kc_rel b2 w k0
    obtain ⟨T3, t1, t2, t3⟩ := km_rel b4 w k0
    obtain ⟨T4, r1, r2, r3⟩ := b5 _ S2 T3 (oI (u 2 x9)) s2 t2 t3 (wf_rel w k0) (by rw [n13_qrel x9 0 0 0]; exact hn)
    refine ok_r (r := oI (u 2 x9)) r2 r3 ?_ ?_
    · simp (disch := omega) only [f_X8_abandon, f0, y_ref, y_ref', b1, s1, len_roof, z01n, bf_t, q1, i_oF, rd_n, xbx_0, xbx_1, xbx_2, xbx_3, th1_0, th1_1, th2_00, th2_01, th2_10, th2_11, th3_000, th3_001, th3_010, th3_011, th3_100, th3_101, th3_110, th3_111, ob_s, xl_s, xb_s, nBt0, nBf0, z10, z01, if_true, if_false, Bool.and_true, Bool.true_and, Bool.and_false, Bool.false_and, Bool.not_true, Bool.not_false, m_1, m_1b, z01n, z10n, bf_t, l_0, l_1, l_2, l_3, l_4, l_5, l_6, l_7, l_8, l_9, l_10, l_11, l_12, l_13, l_14, l_15, l_16, l_17, l_18, l_19, l_20, l_21, l_22, l_23, l_24, l_30, l_31, l_32, l_40, l_41, l_48, l_57, l_59, l_64, l_90, l_97, l_99, l_100, l_119, l_122, l_186, l_200, l_255, l_600, l_999, l_1488, l_1000000]
    · simp (disch := omega) only [f_X9_abandon, hsz, hrg, hcs, h0, e0, m0, m1, m3, rd_n, b3, t1, r1, q2, i_oF, xbx_0, xbx_1, xbx_2, xbx_3, th1_0, th1_1, th2_00, th2_01, th2_10, th2_11, th3_000, th3_001, th3_010, th3_011, th3_100, th3_101, th3_110, th3_111, ob_s, xl_s, xb_s, nBt0, nBf0, z10, z01, if_true, if_false, Bool.and_true, Bool.true_and, Bool.and_false, Bool.false_and, Bool.not_true, Bool.not_false, m_1, m_1b, z01n, z10n, bf_t, l_0, l_1, l_2, l_3, l_4, l_5, l_6, l_7, l_8, l_9, l_10, l_11, l_12, l_13, l_14, l_15, l_16, l_17, l_18, l_19, l_20, l_21, l_22, l_23, l_24, l_30, l_31, l_32, l_40, l_41, l_48, l_57, l_59, l_64, l_90, l_97, l_99, l_100, l_119, l_122, l_186, l_200, l_255, l_600, l_999, l_1488, l_1000000]
theorem q_buyTruce (g : GI C T) (x y a b : Int32) : OK [(1, 1), (2, 2), (3, 3)] (f_X8_buyTruce C x y a b) (f_X9_buyTruce T x y a b) := by
  have g0 := g
  obtain ⟨u, hc, hm, w, hn, B, T2, b1, b2, b3, b4, b5⟩ := ch_all g
  have b0 : u 0 0 ≤ 10 ∧ u 0 3 ≤ 20 ∧ u 0 7 ≤ 8 := by obtain ⟨hB, w0, w3, w7, wN, wk, wg, wc, wd, wo, wv⟩ := w; exact ⟨w0, w3, w7⟩
  have m0 : T 1 0 = nI (u 0 0) := hm.1
  have m1 : T 1 1 = nI (u 0 3) := hm.2.1
  have m3 : T 1 3 = nI (u 0 13) := hm.2.2.2.1
  have hsz := m_sizes
  have hrg := m_rg
  have hcs := m_cats hm w
  have h0 := km_isCat hm w x
  have h1 := km_isCat hm w y
  cases e0 : qin x (u 0 7)
  · skip
    exact ok_t g0 1 1 (by decide) (by simp (disch := omega) only [f_X8_buyTruce, n_cat hc e0, z01n, bf_t, xbx_0, xbx_1, xbx_2, xbx_3, th1_0, th1_1, th2_00, th2_01, th2_10, th2_11, th3_000, th3_001, th3_010, th3_011, th3_100, th3_101, th3_110, th3_111, ob_s, xl_s, xb_s, nBt0, nBf0, z10, z01, if_true, if_false, Bool.and_true, Bool.true_and, Bool.and_false, Bool.false_and, Bool.not_true, Bool.not_false, m_1, m_1b, z01n, z10n, bf_t, l_0, l_1, l_2, l_3, l_4, l_5, l_6, l_7, l_8, l_9, l_10, l_11, l_12, l_13, l_14, l_15, l_16, l_17, l_18, l_19, l_20, l_21, l_22, l_23, l_24, l_30, l_31, l_32, l_40, l_41, l_48, l_57, l_59, l_64, l_90, l_97, l_99, l_100, l_119, l_122, l_186, l_200, l_255, l_600, l_999, l_1488, l_1000000]) (by
      simp (disch := omega) only [f_X9_buyTruce, hsz, hrg, hcs, h0, h1, m0, m1, m3, rd_n, nB_0, e0, ob_s, xbx_0, xbx_1, xbx_2, xbx_3, th1_0, th1_1, th2_00, th2_01, th2_10, th2_11, th3_000, th3_001, th3_010, th3_011, th3_100, th3_101, th3_110, th3_111, ob_s, xl_s, xb_s, nBt0, nBf0, z10, z01, if_true, if_false, Bool.and_true, Bool.true_and, Bool.and_false, Bool.false_and, Bool.not_true, Bool.not_false, m_1, m_1b, z01n, z10n, bf_t, l_0, l_1, l_2, l_3, l_4, l_5, l_6, l_7, l_8, l_9, l_10, l_11, l_12, l_13, l_14, l_15, l_16, l_17, l_18, l_19, l_20, l_21, l_22, l_23, l_24, l_30, l_31, l_32, l_40, l_41, l_48, l_57, l_59, l_64, l_90, l_97, l_99, l_100, l_119, l_122, l_186, l_200, l_255, l_600, l_999, l_1488, l_1000000] <;> (repeat' split) <;> (try simp only [xbx_0, xbx_1, xbx_2, xbx_3, th1_0, th1_1, th2_00, th2_01, th2_10, th2_11, th3_000, th3_001, th3_010, th3_011, th3_100, th3_101, th3_110, th3_111, ob_s, xl_s, xb_s, nBt0, nBf0, z10, z01, if_true, if_false, Bool.and_true, Bool.true_and, Bool.and_false, Bool.false_and, Bool.not_true, Bool.not_false, m_1, m_1b, z01n, z10n, bf_t, l_0, l_1, l_2, l_3, l_4, l_5, l_6, l_7, l_8, l_9, l_10, l_11, l_12, l_13, l_14, l_15, l_16, l_17, l_18, l_19, l_20, l_21, l_22, l_23, l_24, l_30, l_31, l_32, l_40, l_41, l_48, l_57, l_59, l_64, l_90, l_97, l_99, l_100, l_119, l_122, l_186, l_200, l_255, l_600, l_999, l_1488, l_1000000]))
  · skip
    have f0 := y_cat hc e0
    obtain ⟨x9, k0, rfl⟩ := qin_t (by omega) e0
    cases e1 : qin y (u 0 7)
    · skip
      exact ok_t g0 1 1 (by decide) (by simp (disch := omega) only [f_X8_buyTruce, f0, n_cat hc e1, z01n, bf_t, xbx_0, xbx_1, xbx_2, xbx_3, th1_0, th1_1, th2_00, th2_01, th2_10, th2_11, th3_000, th3_001, th3_010, th3_011, th3_100, th3_101, th3_110, th3_111, ob_s, xl_s, xb_s, nBt0, nBf0, z10, z01, if_true, if_false, Bool.and_true, Bool.true_and, Bool.and_false, Bool.false_and, Bool.not_true, Bool.not_false, m_1, m_1b, z01n, z10n, bf_t, l_0, l_1, l_2, l_3, l_4, l_5, l_6, l_7, l_8, l_9, l_10, l_11, l_12, l_13, l_14, l_15, l_16, l_17, l_18, l_19, l_20, l_21, l_22, l_23, l_24, l_30, l_31, l_32, l_40, l_41, l_48, l_57, l_59, l_64, l_90, l_97, l_99, l_100, l_119, l_122, l_186, l_200, l_255, l_600, l_999, l_1488, l_1000000]) (by
        simp (disch := omega) only [f_X9_buyTruce, hsz, hrg, hcs, h0, h1, m0, m1, m3, rd_n, nB_0, e0, e1, ob_s, xbx_0, xbx_1, xbx_2, xbx_3, th1_0, th1_1, th2_00, th2_01, th2_10, th2_11, th3_000, th3_001, th3_010, th3_011, th3_100, th3_101, th3_110, th3_111, ob_s, xl_s, xb_s, nBt0, nBf0, z10, z01, if_true, if_false, Bool.and_true, Bool.true_and, Bool.and_false, Bool.false_and, Bool.not_true, Bool.not_false, m_1, m_1b, z01n, z10n, bf_t, l_0, l_1, l_2, l_3, l_4, l_5, l_6, l_7, l_8, l_9, l_10, l_11, l_12, l_13, l_14, l_15, l_16, l_17, l_18, l_19, l_20, l_21, l_22, l_23, l_24, l_30, l_31, l_32, l_40, l_41, l_48, l_57, l_59, l_64, l_90, l_97, l_99, l_100, l_119, l_122, l_186, l_200, l_255, l_600, l_999, l_1488, l_1000000] <;> (repeat' split) <;> (try simp only [xbx_0, xbx_1, xbx_2, xbx_3, th1_0, th1_1, th2_00, th2_01, th2_10, th2_11, th3_000, th3_001, th3_010, th3_011, th3_100, th3_101, th3_110, th3_111, ob_s, xl_s, xb_s, nBt0, nBf0, z10, z01, if_true, if_false, Bool.and_true, Bool.true_and, Bool.and_false, Bool.false_and, Bool.not_true, Bool.not_false, m_1, m_1b, z01n, z10n, bf_t, l_0, l_1, l_2, l_3, l_4, l_5, l_6, l_7, l_8, l_9, l_10, l_11, l_12, l_13, l_14, l_15, l_16, l_17, l_18, l_19, l_20, l_21, l_22, l_23, l_24, l_30, l_31, l_32, l_40, l_41, l_48, l_57, l_59, l_64, l_90, l_97, l_99, l_100, l_119, l_122, l_186, l_200, l_255, l_600, l_999, l_1488, l_1000000]))
    · skip
      have f1 := y_cat hc e1
      obtain ⟨y9, k1, rfl⟩ := qin_t (by omega) e1
      by_cases e2 : (nI x9) = (nI y9)
      · skip
        exact ok_t g0 2 2 (by decide) (by simp (disch := omega) only [f_X8_buyTruce, f0, f1, n_two e2, z01n, bf_t, xbx_0, xbx_1, xbx_2, xbx_3, th1_0, th1_1, th2_00, th2_01, th2_10, th2_11, th3_000, th3_001, th3_010, th3_011, th3_100, th3_101, th3_110, th3_111, ob_s, xl_s, xb_s, nBt0, nBf0, z10, z01, if_true, if_false, Bool.and_true, Bool.true_and, Bool.and_false, Bool.false_and, Bool.not_true, Bool.not_false, m_1, m_1b, z01n, z10n, bf_t, l_0, l_1, l_2, l_3, l_4, l_5, l_6, l_7, l_8, l_9, l_10, l_11, l_12, l_13, l_14, l_15, l_16, l_17, l_18, l_19, l_20, l_21, l_22, l_23, l_24, l_30, l_31, l_32, l_40, l_41, l_48, l_57, l_59, l_64, l_90, l_97, l_99, l_100, l_119, l_122, l_186, l_200, l_255, l_600, l_999, l_1488, l_1000000]) (by
          simp (disch := omega) only [f_X9_buyTruce, hsz, hrg, hcs, h0, h1, m0, m1, m3, rd_n, nB_0, e0, e1, if_pos e2, ob_s, xbx_0, xbx_1, xbx_2, xbx_3, th1_0, th1_1, th2_00, th2_01, th2_10, th2_11, th3_000, th3_001, th3_010, th3_011, th3_100, th3_101, th3_110, th3_111, ob_s, xl_s, xb_s, nBt0, nBf0, z10, z01, if_true, if_false, Bool.and_true, Bool.true_and, Bool.and_false, Bool.false_and, Bool.not_true, Bool.not_false, m_1, m_1b, z01n, z10n, bf_t, l_0, l_1, l_2, l_3, l_4, l_5, l_6, l_7, l_8, l_9, l_10, l_11, l_12, l_13, l_14, l_15, l_16, l_17, l_18, l_19, l_20, l_21, l_22, l_23, l_24, l_30, l_31, l_32, l_40, l_41, l_48, l_57, l_59, l_64, l_90, l_97, l_99, l_100, l_119, l_122, l_186, l_200, l_255, l_600, l_999, l_1488, l_1000000] <;> (repeat' split) <;> (try simp only [xbx_0, xbx_1, xbx_2, xbx_3, th1_0, th1_1, th2_00, th2_01, th2_10, th2_11, th3_000, th3_001, th3_010, th3_011, th3_100, th3_101, th3_110, th3_111, ob_s, xl_s, xb_s, nBt0, nBf0, z10, z01, if_true, if_false, Bool.and_true, Bool.true_and, Bool.and_false, Bool.false_and, Bool.not_true, Bool.not_false, m_1, m_1b, z01n, z10n, bf_t, l_0, l_1, l_2, l_3, l_4, l_5, l_6, l_7, l_8, l_9, l_10, l_11, l_12, l_13, l_14, l_15, l_16, l_17, l_18, l_19, l_20, l_21, l_22, l_23, l_24, l_30, l_31, l_32, l_40, l_41, l_48, l_57, l_59, l_64, l_90, l_97, l_99, l_100, l_119, l_122, l_186, l_200, l_255, l_600, l_999, l_1488, l_1000000]))
      · skip
        have f2 := y_two (C := C) e2
        cases e3 : qrg a 1 9
        · skip
          have f3 := n_rg C a 1 9
          rw [e3] at f3
          exact ok_t g0 2 2 (by decide) (by simp (disch := omega) only [f_X8_buyTruce, f0, f1, f2, f3, z01n, bf_t, xbx_0, xbx_1, xbx_2, xbx_3, th1_0, th1_1, th2_00, th2_01, th2_10, th2_11, th3_000, th3_001, th3_010, th3_011, th3_100, th3_101, th3_110, th3_111, ob_s, xl_s, xb_s, nBt0, nBf0, z10, z01, if_true, if_false, Bool.and_true, Bool.true_and, Bool.and_false, Bool.false_and, Bool.not_true, Bool.not_false, m_1, m_1b, z01n, z10n, bf_t, l_0, l_1, l_2, l_3, l_4, l_5, l_6, l_7, l_8, l_9, l_10, l_11, l_12, l_13, l_14, l_15, l_16, l_17, l_18, l_19, l_20, l_21, l_22, l_23, l_24, l_30, l_31, l_32, l_40, l_41, l_48, l_57, l_59, l_64, l_90, l_97, l_99, l_100, l_119, l_122, l_186, l_200, l_255, l_600, l_999, l_1488, l_1000000]) (by
            simp (disch := omega) only [f_X9_buyTruce, hsz, hrg, hcs, h0, h1, m0, m1, m3, rd_n, nB_0, e0, e1, if_neg e2, e3, ob_s, xbx_0, xbx_1, xbx_2, xbx_3, th1_0, th1_1, th2_00, th2_01, th2_10, th2_11, th3_000, th3_001, th3_010, th3_011, th3_100, th3_101, th3_110, th3_111, ob_s, xl_s, xb_s, nBt0, nBf0, z10, z01, if_true, if_false, Bool.and_true, Bool.true_and, Bool.and_false, Bool.false_and, Bool.not_true, Bool.not_false, m_1, m_1b, z01n, z10n, bf_t, l_0, l_1, l_2, l_3, l_4, l_5, l_6, l_7, l_8, l_9, l_10, l_11, l_12, l_13, l_14, l_15, l_16, l_17, l_18, l_19, l_20, l_21, l_22, l_23, l_24, l_30, l_31, l_32, l_40, l_41, l_48, l_57, l_59, l_64, l_90, l_97, l_99, l_100, l_119, l_122, l_186, l_200, l_255, l_600, l_999, l_1488, l_1000000] <;> (repeat' split) <;> (try simp only [xbx_0, xbx_1, xbx_2, xbx_3, th1_0, th1_1, th2_00, th2_01, th2_10, th2_11, th3_000, th3_001, th3_010, th3_011, th3_100, th3_101, th3_110, th3_111, ob_s, xl_s, xb_s, nBt0, nBf0, z10, z01, if_true, if_false, Bool.and_true, Bool.true_and, Bool.and_false, Bool.false_and, Bool.not_true, Bool.not_false, m_1, m_1b, z01n, z10n, bf_t, l_0, l_1, l_2, l_3, l_4, l_5, l_6, l_7, l_8, l_9, l_10, l_11, l_12, l_13, l_14, l_15, l_16, l_17, l_18, l_19, l_20, l_21, l_22, l_23, l_24, l_30, l_31, l_32, l_40, l_41, l_48, l_57, l_59, l_64, l_90, l_97, l_99, l_100, l_119, l_122, l_186, l_200, l_255, l_600, l_999, l_1488, l_1000000]))
        · skip
          have f3 := n_rg C a 1 9
          rw [e3] at f3
          obtain ⟨a9, l3, k3, rfl⟩ := qrg_t (by omega) (by omega) e3
          cases e4 : qrg b 1 20
          · skip
            have f4 := n_rg C b 1 20
            rw [e4] at f4
            exact ok_t g0 2 2 (by decide) (by simp (disch := omega) only [f_X8_buyTruce, f0, f1, f2, f3, f4, z01n, bf_t, xbx_0, xbx_1, xbx_2, xbx_3, th1_0, th1_1, th2_00, th2_01, th2_10, th2_11, th3_000, th3_001, th3_010, th3_011, th3_100, th3_101, th3_110, th3_111, ob_s, xl_s, xb_s, nBt0, nBf0, z10, z01, if_true, if_false, Bool.and_true, Bool.true_and, Bool.and_false, Bool.false_and, Bool.not_true, Bool.not_false, m_1, m_1b, z01n, z10n, bf_t, l_0, l_1, l_2, l_3, l_4, l_5, l_6, l_7, l_8, l_9, l_10, l_11, l_12, l_13, l_14, l_15, l_16, l_17, l_18, l_19, l_20, l_21, l_22, l_23, l_24, l_30, l_31, l_32, l_40, l_41, l_48, l_57, l_59, l_64, l_90, l_97, l_99, l_100, l_119, l_122, l_186, l_200, l_255, l_600, l_999, l_1488, l_1000000]) (by
              simp (disch := omega) only [f_X9_buyTruce, hsz, hrg, hcs, h0, h1, m0, m1, m3, rd_n, nB_0, e0, e1, if_neg e2, e3, e4, ob_s, xbx_0, xbx_1, xbx_2, xbx_3, th1_0, th1_1, th2_00, th2_01, th2_10, th2_11, th3_000, th3_001, th3_010, th3_011, th3_100, th3_101, th3_110, th3_111, ob_s, xl_s, xb_s, nBt0, nBf0, z10, z01, if_true, if_false, Bool.and_true, Bool.true_and, Bool.and_false, Bool.false_and, Bool.not_true, Bool.not_false, m_1, m_1b, z01n, z10n, bf_t, l_0, l_1, l_2, l_3, l_4, l_5, l_6, l_7, l_8, l_9, l_10, l_11, l_12, l_13, l_14, l_15, l_16, l_17, l_18, l_19, l_20, l_21, l_22, l_23, l_24, l_30, l_31, l_32, l_40, l_41, l_48, l_57, l_59, l_64, l_90, l_97, l_99, l_100, l_119, l_122, l_186, l_200, l_255, l_600, l_999, l_1488, l_1000000] <;> (repeat' split) <;> (try simp only [xbx_0, xbx_1, xbx_2, xbx_3, th1_0, th1_1, th2_00, th2_01, th2_10, th2_11, th3_000, th3_001, th3_010, th3_011, th3_100, th3_101, th3_110, th3_111, ob_s, xl_s, xb_s, nBt0, nBf0, z10, z01, if_true, if_false, Bool.and_true, Bool.true_and, Bool.and_false, Bool.false_and, Bool.not_true, Bool.not_false, m_1, m_1b, z01n, z10n, bf_t, l_0, l_1, l_2, l_3, l_4, l_5, l_6, l_7, l_8, l_9, l_10, l_11, l_12, l_13, l_14, l_15, l_16, l_17, l_18, l_19, l_20, l_21, l_22, l_23, l_24, l_30, l_31, l_32, l_40, l_41, l_48, l_57, l_59, l_64, l_90, l_97, l_99, l_100, l_119, l_122, l_186, l_200, l_255, l_600, l_999, l_1488, l_1000000]))
          · skip
            have f4 := n_rg C b 1 20
            rw [e4] at f4
            obtain ⟨b9, l4, k4, rfl⟩ := qrg_t (by omega) (by omega) e4
            have q1 := kc_refTruce hc w k0 k1 (f := a9) (by omega)
            have q2 := km_canBuy hm w k0 k1 (f := a9) (by omega)
            by_cases z : qbuy u x9 y9 a9 = true
            rotate_left 1
            · exact ok_t g0 3 3 (by decide) (by simp (disch := omega) only [f_X8_buyTruce, f0, f1, f2, f3, f4, n_ref, n_ref', q1, b_f z, z01n, bf_t, xbx_0, xbx_1, xbx_2, xbx_3, th1_0, th1_1, th2_00, th2_01, th2_10, th2_11, th3_000, th3_001, th3_010, th3_011, th3_100, th3_101, th3_110, th3_111, ob_s, xl_s, xb_s, nBt0, nBf0, z10, z01, if_true, if_false, Bool.and_true, Bool.true_and, Bool.and_false, Bool.false_and, Bool.not_true, Bool.not_false, m_1, m_1b, z01n, z10n, bf_t, l_0, l_1, l_2, l_3, l_4, l_5, l_6, l_7, l_8, l_9, l_10, l_11, l_12, l_13, l_14, l_15, l_16, l_17, l_18, l_19, l_20, l_21, l_22, l_23, l_24, l_30, l_31, l_32, l_40, l_41, l_48, l_57, l_59, l_64, l_90, l_97, l_99, l_100, l_119, l_122, l_186, l_200, l_255, l_600, l_999, l_1488, l_1000000]) (by
                simp (disch := omega) only [f_X9_buyTruce, hsz, hrg, hcs, h0, h1, e0, e1, if_neg e2, e3, e4, m0, m1, m3, rd_n, q2, b_f z, nB_0, xbx_0, xbx_1, xbx_2, xbx_3, th1_0, th1_1, th2_00, th2_01, th2_10, th2_11, th3_000, th3_001, th3_010, th3_011, th3_100, th3_101, th3_110, th3_111, ob_s, xl_s, xb_s, nBt0, nBf0, z10, z01, if_true, if_false, Bool.and_true, Bool.true_and, Bool.and_false, Bool.false_and, Bool.not_true, Bool.not_false, m_1, m_1b, z01n, z10n, bf_t, l_0, l_1, l_2, l_3, l_4, l_5, l_6, l_7, l_8, l_9, l_10, l_11, l_12, l_13, l_14, l_15, l_16, l_17, l_18, l_19, l_20, l_21, l_22, l_23, l_24, l_30, l_31, l_32, l_40, l_41, l_48, l_57, l_59, l_64, l_90, l_97, l_99, l_100, l_119, l_122, l_186, l_200, l_255, l_600, l_999, l_1488, l_1000000] <;> (repeat' split) <;> (try simp only [xbx_0, xbx_1, xbx_2, xbx_3, th1_0, th1_1, th2_00, th2_01, th2_10, th2_11, th3_000, th3_001, th3_010, th3_011, th3_100, th3_101, th3_110, th3_111, ob_s, xl_s, xb_s, nBt0, nBf0, z10, z01, if_true, if_false, Bool.and_true, Bool.true_and, Bool.and_false, Bool.false_and, Bool.not_true, Bool.not_false, m_1, m_1b, z01n, z10n, bf_t, l_0, l_1, l_2, l_3, l_4, l_5, l_6, l_7, l_8, l_9, l_10, l_11, l_12, l_13, l_14, l_15, l_16, l_17, l_18, l_19, l_20, l_21, l_22, l_23, l_24, l_30, l_31, l_32, l_40, l_41, l_48, l_57, l_59, l_64, l_90, l_97, l_99, l_100, l_119, l_122, l_186, l_200, l_255, l_600, l_999, l_1488, l_1000000]))
            have hxy : x9 ≠ y9 := fun q => e2 (by rw [q])
            obtain ⟨S2, s1, s2⟩ := kc_agree b2 w k0 k1 hxy z (n := b9)
            obtain ⟨T3, t1, t2, t3⟩ := km_agree b4 w k0 k1 hxy z (n := b9)
            obtain ⟨T4, r1, r2, r3⟩ := b5 _ S2 T3 (nI (u 0 13 + b9)) s2 t2 t3 (wf_agree w k0 k1 z (by omega)) (by rw [n13_qagree x9 y9 a9 b9]; exact hn)
            refine ok_r (r := nI (u 0 13 + b9)) r2 r3 ?_ ?_
            · simp (disch := omega) only [f_X8_buyTruce, f0, f1, f2, f3, f4, y_ref, y_ref', b1, s1, len_roof, z01n, bf_t, q1, z, xbx_0, xbx_1, xbx_2, xbx_3, th1_0, th1_1, th2_00, th2_01, th2_10, th2_11, th3_000, th3_001, th3_010, th3_011, th3_100, th3_101, th3_110, th3_111, ob_s, xl_s, xb_s, nBt0, nBf0, z10, z01, if_true, if_false, Bool.and_true, Bool.true_and, Bool.and_false, Bool.false_and, Bool.not_true, Bool.not_false, m_1, m_1b, z01n, z10n, bf_t, l_0, l_1, l_2, l_3, l_4, l_5, l_6, l_7, l_8, l_9, l_10, l_11, l_12, l_13, l_14, l_15, l_16, l_17, l_18, l_19, l_20, l_21, l_22, l_23, l_24, l_30, l_31, l_32, l_40, l_41, l_48, l_57, l_59, l_64, l_90, l_97, l_99, l_100, l_119, l_122, l_186, l_200, l_255, l_600, l_999, l_1488, l_1000000]
            · simp (disch := omega) only [f_X9_buyTruce, hsz, hrg, hcs, h0, h1, e0, e1, if_neg e2, e3, e4, m0, m1, m3, rd_n, b3, t1, r1, q2, z, nBt0, xbx_0, xbx_1, xbx_2, xbx_3, th1_0, th1_1, th2_00, th2_01, th2_10, th2_11, th3_000, th3_001, th3_010, th3_011, th3_100, th3_101, th3_110, th3_111, ob_s, xl_s, xb_s, nBt0, nBf0, z10, z01, if_true, if_false, Bool.and_true, Bool.true_and, Bool.and_false, Bool.false_and, Bool.not_true, Bool.not_false, m_1, m_1b, z01n, z10n, bf_t, l_0, l_1, l_2, l_3, l_4, l_5, l_6, l_7, l_8, l_9, l_10, l_11, l_12, l_13, l_14, l_15, l_16, l_17, l_18, l_19, l_20, l_21, l_22, l_23, l_24, l_30, l_31, l_32, l_40, l_41, l_48, l_57, l_59, l_64, l_90, l_97, l_99, l_100, l_119, l_122, l_186, l_200, l_255, l_600, l_999, l_1488, l_1000000]
theorem q_passNights (g : GI C T) (x : Int32) : OK [(2, 1), (3, 2)] (f_X8_passNights C x) (f_X9_passNights T x) := by
  have g0 := g
  obtain ⟨u, hc, hm, w, hn, B, T2, b1, b2, b3, b4, b5⟩ := ch_all g
  have b0 : u 0 0 ≤ 10 ∧ u 0 3 ≤ 20 ∧ u 0 7 ≤ 8 := by obtain ⟨hB, w0, w3, w7, wN, wk, wg, wc, wd, wo, wv⟩ := w; exact ⟨w0, w3, w7⟩
  have m0 : T 1 0 = nI (u 0 0) := hm.1
  have m1 : T 1 1 = nI (u 0 3) := hm.2.1
  have m3 : T 1 3 = nI (u 0 13) := hm.2.2.2.1
  have hsz := m_sizes
  have hrg := m_rg
  have hcs := m_cats hm w
  cases e0 : qrg x 1 30
  · skip
    have f0 := n_rg C x 1 30
    rw [e0] at f0
    exact ok_t g0 2 1 (by decide) (by simp (disch := omega) only [f_X8_passNights, f0, z01n, bf_t, xbx_0, xbx_1, xbx_2, xbx_3, th1_0, th1_1, th2_00, th2_01, th2_10, th2_11, th3_000, th3_001, th3_010, th3_011, th3_100, th3_101, th3_110, th3_111, ob_s, xl_s, xb_s, nBt0, nBf0, z10, z01, if_true, if_false, Bool.and_true, Bool.true_and, Bool.and_false, Bool.false_and, Bool.not_true, Bool.not_false, m_1, m_1b, z01n, z10n, bf_t, l_0, l_1, l_2, l_3, l_4, l_5, l_6, l_7, l_8, l_9, l_10, l_11, l_12, l_13, l_14, l_15, l_16, l_17, l_18, l_19, l_20, l_21, l_22, l_23, l_24, l_30, l_31, l_32, l_40, l_41, l_48, l_57, l_59, l_64, l_90, l_97, l_99, l_100, l_119, l_122, l_186, l_200, l_255, l_600, l_999, l_1488, l_1000000]) (by
      simp (disch := omega) only [f_X9_passNights, hsz, hrg, hcs, m0, m1, m3, rd_n, nB_0, e0, ob_s, xbx_0, xbx_1, xbx_2, xbx_3, th1_0, th1_1, th2_00, th2_01, th2_10, th2_11, th3_000, th3_001, th3_010, th3_011, th3_100, th3_101, th3_110, th3_111, ob_s, xl_s, xb_s, nBt0, nBf0, z10, z01, if_true, if_false, Bool.and_true, Bool.true_and, Bool.and_false, Bool.false_and, Bool.not_true, Bool.not_false, m_1, m_1b, z01n, z10n, bf_t, l_0, l_1, l_2, l_3, l_4, l_5, l_6, l_7, l_8, l_9, l_10, l_11, l_12, l_13, l_14, l_15, l_16, l_17, l_18, l_19, l_20, l_21, l_22, l_23, l_24, l_30, l_31, l_32, l_40, l_41, l_48, l_57, l_59, l_64, l_90, l_97, l_99, l_100, l_119, l_122, l_186, l_200, l_255, l_600, l_999, l_1488, l_1000000] <;> (repeat' split) <;> (try simp only [xbx_0, xbx_1, xbx_2, xbx_3, th1_0, th1_1, th2_00, th2_01, th2_10, th2_11, th3_000, th3_001, th3_010, th3_011, th3_100, th3_101, th3_110, th3_111, ob_s, xl_s, xb_s, nBt0, nBf0, z10, z01, if_true, if_false, Bool.and_true, Bool.true_and, Bool.and_false, Bool.false_and, Bool.not_true, Bool.not_false, m_1, m_1b, z01n, z10n, bf_t, l_0, l_1, l_2, l_3, l_4, l_5, l_6, l_7, l_8, l_9, l_10, l_11, l_12, l_13, l_14, l_15, l_16, l_17, l_18, l_19, l_20, l_21, l_22, l_23, l_24, l_30, l_31, l_32, l_40, l_41, l_48, l_57, l_59, l_64, l_90, l_97, l_99, l_100, l_119, l_122, l_186, l_200, l_255, l_600, l_999, l_1488, l_1000000]))
  · skip
    have f0 := n_rg C x 1 30
    rw [e0] at f0
    obtain ⟨x9, l0, k0, rfl⟩ := qrg_t (by omega) (by omega) e0
    have q1 : f_X6_refusesNights (xs 1 C) (nI x9) = (if nI (u 0 13 + x9) ≤ nI 999 then some (nI 0) else some (nI 1)) := by
      have h1 : C 1 13 = nI (u 0 13) := hc.1.2.2.2.1
      simp only [f_X6_refusesNights, xs_d, Nat.add_zero, h1, nI_add, l_0, l_1, l_2, l_3, l_4, l_5, l_6, l_7, l_8, l_9, l_10, l_11, l_12, l_13, l_14, l_15, l_16, l_17, l_18, l_19, l_20, l_21, l_22, l_23, l_24, l_30, l_31, l_32, l_40, l_41, l_48, l_57, l_59, l_64, l_90, l_97, l_99, l_100, l_119, l_122, l_186, l_200, l_255, l_600, l_999, l_1488, l_1000000]
    by_cases z : u 0 13 + x9 ≤ 999
    rotate_left 1
    · exact ok_t g0 3 2 (by decide) (by simp (disch := omega) only [f_X8_passNights, f0, n_ref, n_ref', q1, i_leF, z01n, bf_t, xbx_0, xbx_1, xbx_2, xbx_3, th1_0, th1_1, th2_00, th2_01, th2_10, th2_11, th3_000, th3_001, th3_010, th3_011, th3_100, th3_101, th3_110, th3_111, ob_s, xl_s, xb_s, nBt0, nBf0, z10, z01, if_true, if_false, Bool.and_true, Bool.true_and, Bool.and_false, Bool.false_and, Bool.not_true, Bool.not_false, m_1, m_1b, z01n, z10n, bf_t, l_0, l_1, l_2, l_3, l_4, l_5, l_6, l_7, l_8, l_9, l_10, l_11, l_12, l_13, l_14, l_15, l_16, l_17, l_18, l_19, l_20, l_21, l_22, l_23, l_24, l_30, l_31, l_32, l_40, l_41, l_48, l_57, l_59, l_64, l_90, l_97, l_99, l_100, l_119, l_122, l_186, l_200, l_255, l_600, l_999, l_1488, l_1000000]) (by
        simp (disch := omega) only [f_X9_passNights, hsz, hrg, hcs, e0, m0, m1, m3, rd_n, nI_add, i_leF, nB_0, xbx_0, xbx_1, xbx_2, xbx_3, th1_0, th1_1, th2_00, th2_01, th2_10, th2_11, th3_000, th3_001, th3_010, th3_011, th3_100, th3_101, th3_110, th3_111, ob_s, xl_s, xb_s, nBt0, nBf0, z10, z01, if_true, if_false, Bool.and_true, Bool.true_and, Bool.and_false, Bool.false_and, Bool.not_true, Bool.not_false, m_1, m_1b, z01n, z10n, bf_t, l_0, l_1, l_2, l_3, l_4, l_5, l_6, l_7, l_8, l_9, l_10, l_11, l_12, l_13, l_14, l_15, l_16, l_17, l_18, l_19, l_20, l_21, l_22, l_23, l_24, l_30, l_31, l_32, l_40, l_41, l_48, l_57, l_59, l_64, l_90, l_97, l_99, l_100, l_119, l_122, l_186, l_200, l_255, l_600, l_999, l_1488, l_1000000] <;> (repeat' split) <;> (try simp only [xbx_0, xbx_1, xbx_2, xbx_3, th1_0, th1_1, th2_00, th2_01, th2_10, th2_11, th3_000, th3_001, th3_010, th3_011, th3_100, th3_101, th3_110, th3_111, ob_s, xl_s, xb_s, nBt0, nBf0, z10, z01, if_true, if_false, Bool.and_true, Bool.true_and, Bool.and_false, Bool.false_and, Bool.not_true, Bool.not_false, m_1, m_1b, z01n, z10n, bf_t, l_0, l_1, l_2, l_3, l_4, l_5, l_6, l_7, l_8, l_9, l_10, l_11, l_12, l_13, l_14, l_15, l_16, l_17, l_18, l_19, l_20, l_21, l_22, l_23, l_24, l_30, l_31, l_32, l_40, l_41, l_48, l_57, l_59, l_64, l_90, l_97, l_99, l_100, l_119, l_122, l_186, l_200, l_255, l_600, l_999, l_1488, l_1000000]))
    obtain ⟨S2, s1, s2⟩ := kc_spend b2 w (N := x9) (by omega)
    obtain ⟨T3, t1, t2, t3⟩ := km_passes b4 w (N := x9) (by omega) (by omega)
    obtain ⟨T4, r1, r2, r3⟩ := b5 _ S2 T3 (nI (u 0 13 + x9)) s2 t2 t3 (wf_N w (by omega)) (by show u 0 13 + x9 ≤ 999; exact z)
    refine ok_r (r := nI (u 0 13 + x9)) r2 r3 ?_ ?_
    · simp (disch := omega) only [f_X8_passNights, f0, y_ref, y_ref', b1, s1, len_roof, z01n, bf_t, q1, i_leT, xbx_0, xbx_1, xbx_2, xbx_3, th1_0, th1_1, th2_00, th2_01, th2_10, th2_11, th3_000, th3_001, th3_010, th3_011, th3_100, th3_101, th3_110, th3_111, ob_s, xl_s, xb_s, nBt0, nBf0, z10, z01, if_true, if_false, Bool.and_true, Bool.true_and, Bool.and_false, Bool.false_and, Bool.not_true, Bool.not_false, m_1, m_1b, z01n, z10n, bf_t, l_0, l_1, l_2, l_3, l_4, l_5, l_6, l_7, l_8, l_9, l_10, l_11, l_12, l_13, l_14, l_15, l_16, l_17, l_18, l_19, l_20, l_21, l_22, l_23, l_24, l_30, l_31, l_32, l_40, l_41, l_48, l_57, l_59, l_64, l_90, l_97, l_99, l_100, l_119, l_122, l_186, l_200, l_255, l_600, l_999, l_1488, l_1000000]
    · simp (disch := omega) only [f_X9_passNights, hsz, hrg, hcs, e0, m0, m1, m3, rd_n, b3, t1, r1, nI_add, i_leT, xbx_0, xbx_1, xbx_2, xbx_3, th1_0, th1_1, th2_00, th2_01, th2_10, th2_11, th3_000, th3_001, th3_010, th3_011, th3_100, th3_101, th3_110, th3_111, ob_s, xl_s, xb_s, nBt0, nBf0, z10, z01, if_true, if_false, Bool.and_true, Bool.true_and, Bool.and_false, Bool.false_and, Bool.not_true, Bool.not_false, m_1, m_1b, z01n, z10n, bf_t, l_0, l_1, l_2, l_3, l_4, l_5, l_6, l_7, l_8, l_9, l_10, l_11, l_12, l_13, l_14, l_15, l_16, l_17, l_18, l_19, l_20, l_21, l_22, l_23, l_24, l_30, l_31, l_32, l_40, l_41, l_48, l_57, l_59, l_64, l_90, l_97, l_99, l_100, l_119, l_122, l_186, l_200, l_255, l_600, l_999, l_1488, l_1000000]
theorem xm_12 {D S' : XS} : xm 1 13 D (xm 11 2 (xs 1 D) S') = xm 12 2 D S' := by
  funext a y
  by_cases h1 : 12 ≤ a ∧ a < 14
  · rw [xm_i (by omega), xm_i (by omega), xm_i (by omega), show a - 1 - 11 = a - 12 from by omega]
  · rw [xm_n (o := 12) (by omega)]
    by_cases h2 : 1 ≤ a ∧ a < 14
    · rw [xm_i (by omega), xm_n (by omega), xs_d, show 1 + (a - 1) = a from by omega]
    · rw [xm_n (by omega)]
theorem xs_k12 {D : XS} : xs 11 (xs 1 D) = xs 12 D := by
  funext a y
  rw [xs_d, xs_d, xs_d, show 1 + (11 + a) = 12 + a from by omega]
theorem len_kit2 : shKit.length = 2 := Eq.trans rfl rfl
theorem xm_17 {D S' : XS} : xm 12 2 D S' 1 7 = D 1 7 := xm_n (by decide)
theorem q_chase (g : GI C T) (x y : Int32) : OK [(1, 1), (2, 2), (3, 3)] (f_X8_chase C x y) (f_X9_chase T x y) := by
  have g0 := g
  obtain ⟨u, hc, hm, w, hn, B, T2, b1, b2, b3, b4, b5⟩ := ch_all g
  have b0 : u 0 0 ≤ 10 ∧ u 0 3 ≤ 20 ∧ u 0 7 ≤ 8 := by obtain ⟨hB, w0, w3, w7, wN, wk, wg, wc, wd, wo, wv⟩ := w; exact ⟨w0, w3, w7⟩
  have m0 : T 1 0 = nI (u 0 0) := hm.1
  have m1 : T 1 1 = nI (u 0 3) := hm.2.1
  have m3 : T 1 3 = nI (u 0 13) := hm.2.2.2.1
  have hsz := m_sizes
  have hrg := m_rg
  have hcs := m_cats hm w
  have h0 := km_isCat hm w x
  have h1 := km_isCat hm w y
  cases e0 : qin x (u 0 7)
  · skip
    exact ok_t g0 1 1 (by decide) (by simp (disch := omega) only [f_X8_chase, n_cat hc e0, z01n, bf_t, xbx_0, xbx_1, xbx_2, xbx_3, th1_0, th1_1, th2_00, th2_01, th2_10, th2_11, th3_000, th3_001, th3_010, th3_011, th3_100, th3_101, th3_110, th3_111, ob_s, xl_s, xb_s, nBt0, nBf0, z10, z01, if_true, if_false, Bool.and_true, Bool.true_and, Bool.and_false, Bool.false_and, Bool.not_true, Bool.not_false, m_1, m_1b, z01n, z10n, bf_t, l_0, l_1, l_2, l_3, l_4, l_5, l_6, l_7, l_8, l_9, l_10, l_11, l_12, l_13, l_14, l_15, l_16, l_17, l_18, l_19, l_20, l_21, l_22, l_23, l_24, l_30, l_31, l_32, l_40, l_41, l_48, l_57, l_59, l_64, l_90, l_97, l_99, l_100, l_119, l_122, l_186, l_200, l_255, l_600, l_999, l_1488, l_1000000]) (by
      simp (disch := omega) only [f_X9_chase, hsz, hrg, hcs, h0, h1, m0, m1, m3, rd_n, nB_0, e0, ob_s, xbx_0, xbx_1, xbx_2, xbx_3, th1_0, th1_1, th2_00, th2_01, th2_10, th2_11, th3_000, th3_001, th3_010, th3_011, th3_100, th3_101, th3_110, th3_111, ob_s, xl_s, xb_s, nBt0, nBf0, z10, z01, if_true, if_false, Bool.and_true, Bool.true_and, Bool.and_false, Bool.false_and, Bool.not_true, Bool.not_false, m_1, m_1b, z01n, z10n, bf_t, l_0, l_1, l_2, l_3, l_4, l_5, l_6, l_7, l_8, l_9, l_10, l_11, l_12, l_13, l_14, l_15, l_16, l_17, l_18, l_19, l_20, l_21, l_22, l_23, l_24, l_30, l_31, l_32, l_40, l_41, l_48, l_57, l_59, l_64, l_90, l_97, l_99, l_100, l_119, l_122, l_186, l_200, l_255, l_600, l_999, l_1488, l_1000000] <;> (repeat' split) <;> (try simp only [xbx_0, xbx_1, xbx_2, xbx_3, th1_0, th1_1, th2_00, th2_01, th2_10, th2_11, th3_000, th3_001, th3_010, th3_011, th3_100, th3_101, th3_110, th3_111, ob_s, xl_s, xb_s, nBt0, nBf0, z10, z01, if_true, if_false, Bool.and_true, Bool.true_and, Bool.and_false, Bool.false_and, Bool.not_true, Bool.not_false, m_1, m_1b, z01n, z10n, bf_t, l_0, l_1, l_2, l_3, l_4, l_5, l_6, l_7, l_8, l_9, l_10, l_11, l_12, l_13, l_14, l_15, l_16, l_17, l_18, l_19, l_20, l_21, l_22, l_23, l_24, l_30, l_31, l_32, l_40, l_41, l_48, l_57, l_59, l_64, l_90, l_97, l_99, l_100, l_119, l_122, l_186, l_200, l_255, l_600, l_999, l_1488, l_1000000]))
  · skip
    have f0 := y_cat hc e0
    obtain ⟨x9, k0, rfl⟩ := qin_t (by omega) e0
    cases e1 : qin y (u 0 7)
    · skip
      exact ok_t g0 1 1 (by decide) (by simp (disch := omega) only [f_X8_chase, f0, n_cat hc e1, z01n, bf_t, xbx_0, xbx_1, xbx_2, xbx_3, th1_0, th1_1, th2_00, th2_01, th2_10, th2_11, th3_000, th3_001, th3_010, th3_011, th3_100, th3_101, th3_110, th3_111, ob_s, xl_s, xb_s, nBt0, nBf0, z10, z01, if_true, if_false, Bool.and_true, Bool.true_and, Bool.and_false, Bool.false_and, Bool.not_true, Bool.not_false, m_1, m_1b, z01n, z10n, bf_t, l_0, l_1, l_2, l_3, l_4, l_5, l_6, l_7, l_8, l_9, l_10, l_11, l_12, l_13, l_14, l_15, l_16, l_17, l_18, l_19, l_20, l_21, l_22, l_23, l_24, l_30, l_31, l_32, l_40, l_41, l_48, l_57, l_59, l_64, l_90, l_97, l_99, l_100, l_119, l_122, l_186, l_200, l_255, l_600, l_999, l_1488, l_1000000]) (by
        simp (disch := omega) only [f_X9_chase, hsz, hrg, hcs, h0, h1, m0, m1, m3, rd_n, nB_0, e0, e1, ob_s, xbx_0, xbx_1, xbx_2, xbx_3, th1_0, th1_1, th2_00, th2_01, th2_10, th2_11, th3_000, th3_001, th3_010, th3_011, th3_100, th3_101, th3_110, th3_111, ob_s, xl_s, xb_s, nBt0, nBf0, z10, z01, if_true, if_false, Bool.and_true, Bool.true_and, Bool.and_false, Bool.false_and, Bool.not_true, Bool.not_false, m_1, m_1b, z01n, z10n, bf_t, l_0, l_1, l_2, l_3, l_4, l_5, l_6, l_7, l_8, l_9, l_10, l_11, l_12, l_13, l_14, l_15, l_16, l_17, l_18, l_19, l_20, l_21, l_22, l_23, l_24, l_30, l_31, l_32, l_40, l_41, l_48, l_57, l_59, l_64, l_90, l_97, l_99, l_100, l_119, l_122, l_186, l_200, l_255, l_600, l_999, l_1488, l_1000000] <;> (repeat' split) <;> (try simp only [xbx_0, xbx_1, xbx_2, xbx_3, th1_0, th1_1, th2_00, th2_01, th2_10, th2_11, th3_000, th3_001, th3_010, th3_011, th3_100, th3_101, th3_110, th3_111, ob_s, xl_s, xb_s, nBt0, nBf0, z10, z01, if_true, if_false, Bool.and_true, Bool.true_and, Bool.and_false, Bool.false_and, Bool.not_true, Bool.not_false, m_1, m_1b, z01n, z10n, bf_t, l_0, l_1, l_2, l_3, l_4, l_5, l_6, l_7, l_8, l_9, l_10, l_11, l_12, l_13, l_14, l_15, l_16, l_17, l_18, l_19, l_20, l_21, l_22, l_23, l_24, l_30, l_31, l_32, l_40, l_41, l_48, l_57, l_59, l_64, l_90, l_97, l_99, l_100, l_119, l_122, l_186, l_200, l_255, l_600, l_999, l_1488, l_1000000]))
    · skip
      have f1 := y_cat hc e1
      obtain ⟨y9, k1, rfl⟩ := qin_t (by omega) e1
      have q2 := km_chase hm w k0 k1
      by_cases e2 : (nI x9) = (nI y9)
      · skip
        exact ok_t g0 2 2 (by decide) (by simp (disch := omega) only [f_X8_chase, f0, f1, n_two e2, z01n, bf_t, xbx_0, xbx_1, xbx_2, xbx_3, th1_0, th1_1, th2_00, th2_01, th2_10, th2_11, th3_000, th3_001, th3_010, th3_011, th3_100, th3_101, th3_110, th3_111, ob_s, xl_s, xb_s, nBt0, nBf0, z10, z01, if_true, if_false, Bool.and_true, Bool.true_and, Bool.and_false, Bool.false_and, Bool.not_true, Bool.not_false, m_1, m_1b, z01n, z10n, bf_t, l_0, l_1, l_2, l_3, l_4, l_5, l_6, l_7, l_8, l_9, l_10, l_11, l_12, l_13, l_14, l_15, l_16, l_17, l_18, l_19, l_20, l_21, l_22, l_23, l_24, l_30, l_31, l_32, l_40, l_41, l_48, l_57, l_59, l_64, l_90, l_97, l_99, l_100, l_119, l_122, l_186, l_200, l_255, l_600, l_999, l_1488, l_1000000]) (by
          simp (disch := omega) only [f_X9_chase, hsz, hrg, hcs, h0, h1, q2, m0, m1, m3, rd_n, nB_0, e0, e1, if_pos e2, ob_s, xbx_0, xbx_1, xbx_2, xbx_3, th1_0, th1_1, th2_00, th2_01, th2_10, th2_11, th3_000, th3_001, th3_010, th3_011, th3_100, th3_101, th3_110, th3_111, ob_s, xl_s, xb_s, nBt0, nBf0, z10, z01, if_true, if_false, Bool.and_true, Bool.true_and, Bool.and_false, Bool.false_and, Bool.not_true, Bool.not_false, m_1, m_1b, z01n, z10n, bf_t, l_0, l_1, l_2, l_3, l_4, l_5, l_6, l_7, l_8, l_9, l_10, l_11, l_12, l_13, l_14, l_15, l_16, l_17, l_18, l_19, l_20, l_21, l_22, l_23, l_24, l_30, l_31, l_32, l_40, l_41, l_48, l_57, l_59, l_64, l_90, l_97, l_99, l_100, l_119, l_122, l_186, l_200, l_255, l_600, l_999, l_1488, l_1000000] <;> (repeat' split) <;> (try simp only [xbx_0, xbx_1, xbx_2, xbx_3, th1_0, th1_1, th2_00, th2_01, th2_10, th2_11, th3_000, th3_001, th3_010, th3_011, th3_100, th3_101, th3_110, th3_111, ob_s, xl_s, xb_s, nBt0, nBf0, z10, z01, if_true, if_false, Bool.and_true, Bool.true_and, Bool.and_false, Bool.false_and, Bool.not_true, Bool.not_false, m_1, m_1b, z01n, z10n, bf_t, l_0, l_1, l_2, l_3, l_4, l_5, l_6, l_7, l_8, l_9, l_10, l_11, l_12, l_13, l_14, l_15, l_16, l_17, l_18, l_19, l_20, l_21, l_22, l_23, l_24, l_30, l_31, l_32, l_40, l_41, l_48, l_57, l_59, l_64, l_90, l_97, l_99, l_100, l_119, l_122, l_186, l_200, l_255, l_600, l_999, l_1488, l_1000000]))
      · skip
        have f2 := y_two (C := C) e2
        have q1 := kc_chase hc w k0 k1 (fun q => e2 (by rw [q]))
        have q3 := qchase_le u x9 y9
        by_cases z : qchase u x9 y9 = 0
        rotate_left 1
        · exact ok_t g0 3 3 (by decide) (by simp (disch := omega) only [f_X8_chase, f0, f1, f2, n_ref, n_ref', q1, i_eqF, z01n, bf_t, xbx_0, xbx_1, xbx_2, xbx_3, th1_0, th1_1, th2_00, th2_01, th2_10, th2_11, th3_000, th3_001, th3_010, th3_011, th3_100, th3_101, th3_110, th3_111, ob_s, xl_s, xb_s, nBt0, nBf0, z10, z01, if_true, if_false, Bool.and_true, Bool.true_and, Bool.and_false, Bool.false_and, Bool.not_true, Bool.not_false, m_1, m_1b, z01n, z10n, bf_t, l_0, l_1, l_2, l_3, l_4, l_5, l_6, l_7, l_8, l_9, l_10, l_11, l_12, l_13, l_14, l_15, l_16, l_17, l_18, l_19, l_20, l_21, l_22, l_23, l_24, l_30, l_31, l_32, l_40, l_41, l_48, l_57, l_59, l_64, l_90, l_97, l_99, l_100, l_119, l_122, l_186, l_200, l_255, l_600, l_999, l_1488, l_1000000]) (by
            simp (disch := omega) only [f_X9_chase, hsz, hrg, hcs, h0, h1, q2, e0, e1, if_neg e2, m0, m1, m3, rd_n, q2, i_eqF, nB_0, xbx_0, xbx_1, xbx_2, xbx_3, th1_0, th1_1, th2_00, th2_01, th2_10, th2_11, th3_000, th3_001, th3_010, th3_011, th3_100, th3_101, th3_110, th3_111, ob_s, xl_s, xb_s, nBt0, nBf0, z10, z01, if_true, if_false, Bool.and_true, Bool.true_and, Bool.and_false, Bool.false_and, Bool.not_true, Bool.not_false, m_1, m_1b, z01n, z10n, bf_t, l_0, l_1, l_2, l_3, l_4, l_5, l_6, l_7, l_8, l_9, l_10, l_11, l_12, l_13, l_14, l_15, l_16, l_17, l_18, l_19, l_20, l_21, l_22, l_23, l_24, l_30, l_31, l_32, l_40, l_41, l_48, l_57, l_59, l_64, l_90, l_97, l_99, l_100, l_119, l_122, l_186, l_200, l_255, l_600, l_999, l_1488, l_1000000] <;> (repeat' split) <;> (try simp only [xbx_0, xbx_1, xbx_2, xbx_3, th1_0, th1_1, th2_00, th2_01, th2_10, th2_11, th3_000, th3_001, th3_010, th3_011, th3_100, th3_101, th3_110, th3_111, ob_s, xl_s, xb_s, nBt0, nBf0, z10, z01, if_true, if_false, Bool.and_true, Bool.true_and, Bool.and_false, Bool.false_and, Bool.not_true, Bool.not_false, m_1, m_1b, z01n, z10n, bf_t, l_0, l_1, l_2, l_3, l_4, l_5, l_6, l_7, l_8, l_9, l_10, l_11, l_12, l_13, l_14, l_15, l_16, l_17, l_18, l_19, l_20, l_21, l_22, l_23, l_24, l_30, l_31, l_32, l_40, l_41, l_48, l_57, l_59, l_64, l_90, l_97, l_99, l_100, l_119, l_122, l_186, l_200, l_255, l_600, l_999, l_1488, l_1000000]))
        have hxy : x9 ≠ y9 := fun q => e2 (by rw [q])
        obtain ⟨S2, s1, s2⟩ := kc_drive b2 w k0 k1 hxy
        obtain ⟨T3, t1, t2, t3⟩ := km_drive b4 w k0 k1 hxy
        generalize decide (qdrive u x9 y9 2 (u 9 y9) = x9 + 1) = bb at s1 t1
        obtain ⟨T4, r1, r2, r3⟩ := b5 _ S2 T3 (nB bb) s2 t2 t3 (wf_drive w k0 k1 hxy) (by rw [n13_drive]; exact hn)
        refine ok_r (r := nB bb) r2 r3 ?_ ?_
        · simp (disch := omega) only [f_X8_chase, f0, f1, f2, y_ref, y_ref', b1, s1, len_roof, xz_b, q1, z, xbx_0, xbx_1, xbx_2, xbx_3, th1_0, th1_1, th2_00, th2_01, th2_10, th2_11, th3_000, th3_001, th3_010, th3_011, th3_100, th3_101, th3_110, th3_111, ob_s, xl_s, xb_s, nBt0, nBf0, z10, z01, if_true, if_false, Bool.and_true, Bool.true_and, Bool.and_false, Bool.false_and, Bool.not_true, Bool.not_false, m_1, m_1b, z01n, z10n, bf_t, l_0, l_1, l_2, l_3, l_4, l_5, l_6, l_7, l_8, l_9, l_10, l_11, l_12, l_13, l_14, l_15, l_16, l_17, l_18, l_19, l_20, l_21, l_22, l_23, l_24, l_30, l_31, l_32, l_40, l_41, l_48, l_57, l_59, l_64, l_90, l_97, l_99, l_100, l_119, l_122, l_186, l_200, l_255, l_600, l_999, l_1488, l_1000000]
        · revert r1 t1
          cases bb <;> intro r1 t1 <;> simp only [nB_f, nB_t] at r1 t1 <;> simp (disch := omega) only [f_X9_chase, hsz, hrg, hcs, h0, h1, q2, e0, e1, if_neg e2, m0, m1, m3, rd_n, b3, t1, r1, q2, z, nB_f, nB_t, xbx_0, xbx_1, xbx_2, xbx_3, th1_0, th1_1, th2_00, th2_01, th2_10, th2_11, th3_000, th3_001, th3_010, th3_011, th3_100, th3_101, th3_110, th3_111, ob_s, xl_s, xb_s, nBt0, nBf0, z10, z01, if_true, if_false, Bool.and_true, Bool.true_and, Bool.and_false, Bool.false_and, Bool.not_true, Bool.not_false, m_1, m_1b, z01n, z10n, bf_t, l_0, l_1, l_2, l_3, l_4, l_5, l_6, l_7, l_8, l_9, l_10, l_11, l_12, l_13, l_14, l_15, l_16, l_17, l_18, l_19, l_20, l_21, l_22, l_23, l_24, l_30, l_31, l_32, l_40, l_41, l_48, l_57, l_59, l_64, l_90, l_97, l_99, l_100, l_119, l_122, l_186, l_200, l_255, l_600, l_999, l_1488, l_1000000]
theorem q_vote (g : GI C T) (x : Int32) (y : Bool) : OK [(1, 1), (3, 2)] (f_X8_vote C x (nB y)) (f_X9_vote T x (nB y)) := by
  have g0 := g
  obtain ⟨u, hc, hm, w, hn, B, T2, b1, b2, b3, b4, b5⟩ := ch_all g
  have b0 : u 0 0 ≤ 10 ∧ u 0 3 ≤ 20 ∧ u 0 7 ≤ 8 := by obtain ⟨hB, w0, w3, w7, wN, wk, wg, wc, wd, wo, wv⟩ := w; exact ⟨w0, w3, w7⟩
  have m0 : T 1 0 = nI (u 0 0) := hm.1
  have m1 : T 1 1 = nI (u 0 3) := hm.2.1
  have m3 : T 1 3 = nI (u 0 13) := hm.2.2.2.1
  have hsz := m_sizes
  have hrg := m_rg
  have hcs := m_cats hm w
  have h0 := km_isCat hm w x
  cases e0 : qin x (u 0 7)
  · skip
    exact ok_t g0 1 1 (by decide) (by simp (disch := omega) only [f_X8_vote, n_cat hc e0, z01n, bf_t, xbx_0, xbx_1, xbx_2, xbx_3, th1_0, th1_1, th2_00, th2_01, th2_10, th2_11, th3_000, th3_001, th3_010, th3_011, th3_100, th3_101, th3_110, th3_111, ob_s, xl_s, xb_s, nBt0, nBf0, z10, z01, if_true, if_false, Bool.and_true, Bool.true_and, Bool.and_false, Bool.false_and, Bool.not_true, Bool.not_false, m_1, m_1b, z01n, z10n, bf_t, l_0, l_1, l_2, l_3, l_4, l_5, l_6, l_7, l_8, l_9, l_10, l_11, l_12, l_13, l_14, l_15, l_16, l_17, l_18, l_19, l_20, l_21, l_22, l_23, l_24, l_30, l_31, l_32, l_40, l_41, l_48, l_57, l_59, l_64, l_90, l_97, l_99, l_100, l_119, l_122, l_186, l_200, l_255, l_600, l_999, l_1488, l_1000000]) (by
      simp (disch := omega) only [f_X9_vote, hsz, hrg, hcs, h0, m0, m1, m3, rd_n, nB_0, e0, ob_s, xbx_0, xbx_1, xbx_2, xbx_3, th1_0, th1_1, th2_00, th2_01, th2_10, th2_11, th3_000, th3_001, th3_010, th3_011, th3_100, th3_101, th3_110, th3_111, ob_s, xl_s, xb_s, nBt0, nBf0, z10, z01, if_true, if_false, Bool.and_true, Bool.true_and, Bool.and_false, Bool.false_and, Bool.not_true, Bool.not_false, m_1, m_1b, z01n, z10n, bf_t, l_0, l_1, l_2, l_3, l_4, l_5, l_6, l_7, l_8, l_9, l_10, l_11, l_12, l_13, l_14, l_15, l_16, l_17, l_18, l_19, l_20, l_21, l_22, l_23, l_24, l_30, l_31, l_32, l_40, l_41, l_48, l_57, l_59, l_64, l_90, l_97, l_99, l_100, l_119, l_122, l_186, l_200, l_255, l_600, l_999, l_1488, l_1000000] <;> (repeat' split) <;> (try simp only [xbx_0, xbx_1, xbx_2, xbx_3, th1_0, th1_1, th2_00, th2_01, th2_10, th2_11, th3_000, th3_001, th3_010, th3_011, th3_100, th3_101, th3_110, th3_111, ob_s, xl_s, xb_s, nBt0, nBf0, z10, z01, if_true, if_false, Bool.and_true, Bool.true_and, Bool.and_false, Bool.false_and, Bool.not_true, Bool.not_false, m_1, m_1b, z01n, z10n, bf_t, l_0, l_1, l_2, l_3, l_4, l_5, l_6, l_7, l_8, l_9, l_10, l_11, l_12, l_13, l_14, l_15, l_16, l_17, l_18, l_19, l_20, l_21, l_22, l_23, l_24, l_30, l_31, l_32, l_40, l_41, l_48, l_57, l_59, l_64, l_90, l_97, l_99, l_100, l_119, l_122, l_186, l_200, l_255, l_600, l_999, l_1488, l_1000000]))
  · skip
    have f0 := y_cat hc e0
    obtain ⟨x9, k0, rfl⟩ := qin_t (by omega) e0
    have q1 := kc_refVote hc w (c := x9) (by omega)
    have q2 := km_canVote hm w (c := x9) (by omega)
    by_cases z : qvot u x9 = true
    rotate_left 1
    · exact ok_t g0 3 2 (by decide) (by simp (disch := omega) only [f_X8_vote, f0, n_ref, n_ref', q1, b_f z, z01n, bf_t, xbx_0, xbx_1, xbx_2, xbx_3, th1_0, th1_1, th2_00, th2_01, th2_10, th2_11, th3_000, th3_001, th3_010, th3_011, th3_100, th3_101, th3_110, th3_111, ob_s, xl_s, xb_s, nBt0, nBf0, z10, z01, if_true, if_false, Bool.and_true, Bool.true_and, Bool.and_false, Bool.false_and, Bool.not_true, Bool.not_false, m_1, m_1b, z01n, z10n, bf_t, l_0, l_1, l_2, l_3, l_4, l_5, l_6, l_7, l_8, l_9, l_10, l_11, l_12, l_13, l_14, l_15, l_16, l_17, l_18, l_19, l_20, l_21, l_22, l_23, l_24, l_30, l_31, l_32, l_40, l_41, l_48, l_57, l_59, l_64, l_90, l_97, l_99, l_100, l_119, l_122, l_186, l_200, l_255, l_600, l_999, l_1488, l_1000000]) (by
        simp (disch := omega) only [f_X9_vote, hsz, hrg, hcs, h0, e0, m0, m1, m3, rd_n, q2, b_f z, nB_0, xbx_0, xbx_1, xbx_2, xbx_3, th1_0, th1_1, th2_00, th2_01, th2_10, th2_11, th3_000, th3_001, th3_010, th3_011, th3_100, th3_101, th3_110, th3_111, ob_s, xl_s, xb_s, nBt0, nBf0, z10, z01, if_true, if_false, Bool.and_true, Bool.true_and, Bool.and_false, Bool.false_and, Bool.not_true, Bool.not_false, m_1, m_1b, z01n, z10n, bf_t, l_0, l_1, l_2, l_3, l_4, l_5, l_6, l_7, l_8, l_9, l_10, l_11, l_12, l_13, l_14, l_15, l_16, l_17, l_18, l_19, l_20, l_21, l_22, l_23, l_24, l_30, l_31, l_32, l_40, l_41, l_48, l_57, l_59, l_64, l_90, l_97, l_99, l_100, l_119, l_122, l_186, l_200, l_255, l_600, l_999, l_1488, l_1000000] <;> (repeat' split) <;> (try simp only [xbx_0, xbx_1, xbx_2, xbx_3, th1_0, th1_1, th2_00, th2_01, th2_10, th2_11, th3_000, th3_001, th3_010, th3_011, th3_100, th3_101, th3_110, th3_111, ob_s, xl_s, xb_s, nBt0, nBf0, z10, z01, if_true, if_false, Bool.and_true, Bool.true_and, Bool.and_false, Bool.false_and, Bool.not_true, Bool.not_false, m_1, m_1b, z01n, z10n, bf_t, l_0, l_1, l_2, l_3, l_4, l_5, l_6, l_7, l_8, l_9, l_10, l_11, l_12, l_13, l_14, l_15, l_16, l_17, l_18, l_19, l_20, l_21, l_22, l_23, l_24, l_30, l_31, l_32, l_40, l_41, l_48, l_57, l_59, l_64, l_90, l_97, l_99, l_100, l_119, l_122, l_186, l_200, l_255, l_600, l_999, l_1488, l_1000000]))
    obtain ⟨S2, s1, s2⟩ := kc_vote b2 w k0 z y
    obtain ⟨T3, t1, t2, t3⟩ := km_vote b4 w k0 z y
    generalize (qdone (qv1 u x9 y) && qadm (qv1 u x9 y)) = bb at s1 t1
    obtain ⟨T4, r1, r2, r3⟩ := b5 _ S2 T3 (nB bb) s2 t2 t3 (wf_vt w k0 z y) (by rw [n13_vt]; exact hn)
    refine ok_r (r := nB bb) r2 r3 ?_ ?_
    · simp (disch := omega) only [f_X8_vote, f0, y_ref, y_ref', b1, s1, len_roof, xz_b, q1, z, xbx_0, xbx_1, xbx_2, xbx_3, th1_0, th1_1, th2_00, th2_01, th2_10, th2_11, th3_000, th3_001, th3_010, th3_011, th3_100, th3_101, th3_110, th3_111, ob_s, xl_s, xb_s, nBt0, nBf0, z10, z01, if_true, if_false, Bool.and_true, Bool.true_and, Bool.and_false, Bool.false_and, Bool.not_true, Bool.not_false, m_1, m_1b, z01n, z10n, bf_t, l_0, l_1, l_2, l_3, l_4, l_5, l_6, l_7, l_8, l_9, l_10, l_11, l_12, l_13, l_14, l_15, l_16, l_17, l_18, l_19, l_20, l_21, l_22, l_23, l_24, l_30, l_31, l_32, l_40, l_41, l_48, l_57, l_59, l_64, l_90, l_97, l_99, l_100, l_119, l_122, l_186, l_200, l_255, l_600, l_999, l_1488, l_1000000]
    · revert r1 t1
      cases bb <;> intro r1 t1 <;> simp only [nB_f, nB_t] at r1 t1 <;> simp (disch := omega) only [f_X9_vote, hsz, hrg, hcs, h0, e0, m0, m1, m3, rd_n, b3, t1, r1, q2, z, nB_f, nB_t, xbx_0, xbx_1, xbx_2, xbx_3, th1_0, th1_1, th2_00, th2_01, th2_10, th2_11, th3_000, th3_001, th3_010, th3_011, th3_100, th3_101, th3_110, th3_111, ob_s, xl_s, xb_s, nBt0, nBf0, z10, z01, if_true, if_false, Bool.and_true, Bool.true_and, Bool.and_false, Bool.false_and, Bool.not_true, Bool.not_false, m_1, m_1b, z01n, z10n, bf_t, l_0, l_1, l_2, l_3, l_4, l_5, l_6, l_7, l_8, l_9, l_10, l_11, l_12, l_13, l_14, l_15, l_16, l_17, l_18, l_19, l_20, l_21, l_22, l_23, l_24, l_30, l_31, l_32, l_40, l_41, l_48, l_57, l_59, l_64, l_90, l_97, l_99, l_100, l_119, l_122, l_186, l_200, l_255, l_600, l_999, l_1488, l_1000000]
theorem q_nominate (g : GI C T) (x y : Int32) : OK [(2, 1), (3, 2)] (f_X8_nominate C x y) (f_X9_nominate T x y) := by
  have g0 := g
  obtain ⟨u, hc, hm, w, hn, B, T2, b1, b2, b3, b4, b5⟩ := ch_all g
  have b0 : u 0 0 ≤ 10 ∧ u 0 3 ≤ 20 ∧ u 0 7 ≤ 8 := by obtain ⟨hB, w0, w3, w7, wN, wk, wg, wc, wd, wo, wv⟩ := w; exact ⟨w0, w3, w7⟩
  have m0 : T 1 0 = nI (u 0 0) := hm.1
  have m1 : T 1 1 = nI (u 0 3) := hm.2.1
  have m3 : T 1 3 = nI (u 0 13) := hm.2.2.2.1
  have hsz := m_sizes
  have hrg := m_rg
  have hcs := m_cats hm w
  have hnm := km_canNom hm w
  cases e0 : qrg x 1 9
  · skip
    have f0 := n_rg C x 1 9
    rw [e0] at f0
    exact ok_t g0 2 1 (by decide) (by simp (disch := omega) only [f_X8_nominate, f0, z01n, bf_t, xbx_0, xbx_1, xbx_2, xbx_3, th1_0, th1_1, th2_00, th2_01, th2_10, th2_11, th3_000, th3_001, th3_010, th3_011, th3_100, th3_101, th3_110, th3_111, ob_s, xl_s, xb_s, nBt0, nBf0, z10, z01, if_true, if_false, Bool.and_true, Bool.true_and, Bool.and_false, Bool.false_and, Bool.not_true, Bool.not_false, m_1, m_1b, z01n, z10n, bf_t, l_0, l_1, l_2, l_3, l_4, l_5, l_6, l_7, l_8, l_9, l_10, l_11, l_12, l_13, l_14, l_15, l_16, l_17, l_18, l_19, l_20, l_21, l_22, l_23, l_24, l_30, l_31, l_32, l_40, l_41, l_48, l_57, l_59, l_64, l_90, l_97, l_99, l_100, l_119, l_122, l_186, l_200, l_255, l_600, l_999, l_1488, l_1000000]) (by
      simp (disch := omega) only [f_X9_nominate, hsz, hrg, hcs, hnm, m0, m1, m3, rd_n, nB_0, e0, ob_s, xbx_0, xbx_1, xbx_2, xbx_3, th1_0, th1_1, th2_00, th2_01, th2_10, th2_11, th3_000, th3_001, th3_010, th3_011, th3_100, th3_101, th3_110, th3_111, ob_s, xl_s, xb_s, nBt0, nBf0, z10, z01, if_true, if_false, Bool.and_true, Bool.true_and, Bool.and_false, Bool.false_and, Bool.not_true, Bool.not_false, m_1, m_1b, z01n, z10n, bf_t, l_0, l_1, l_2, l_3, l_4, l_5, l_6, l_7, l_8, l_9, l_10, l_11, l_12, l_13, l_14, l_15, l_16, l_17, l_18, l_19, l_20, l_21, l_22, l_23, l_24, l_30, l_31, l_32, l_40, l_41, l_48, l_57, l_59, l_64, l_90, l_97, l_99, l_100, l_119, l_122, l_186, l_200, l_255, l_600, l_999, l_1488, l_1000000] <;> (repeat' split) <;> (try simp only [xbx_0, xbx_1, xbx_2, xbx_3, th1_0, th1_1, th2_00, th2_01, th2_10, th2_11, th3_000, th3_001, th3_010, th3_011, th3_100, th3_101, th3_110, th3_111, ob_s, xl_s, xb_s, nBt0, nBf0, z10, z01, if_true, if_false, Bool.and_true, Bool.true_and, Bool.and_false, Bool.false_and, Bool.not_true, Bool.not_false, m_1, m_1b, z01n, z10n, bf_t, l_0, l_1, l_2, l_3, l_4, l_5, l_6, l_7, l_8, l_9, l_10, l_11, l_12, l_13, l_14, l_15, l_16, l_17, l_18, l_19, l_20, l_21, l_22, l_23, l_24, l_30, l_31, l_32, l_40, l_41, l_48, l_57, l_59, l_64, l_90, l_97, l_99, l_100, l_119, l_122, l_186, l_200, l_255, l_600, l_999, l_1488, l_1000000]))
  · skip
    have f0 := n_rg C x 1 9
    rw [e0] at f0
    obtain ⟨x9, l0, k0, rfl⟩ := qrg_t (by omega) (by omega) e0
    cases e1 : qrg y 1 9
    · skip
      have f1 := n_rg C y 1 9
      rw [e1] at f1
      exact ok_t g0 2 1 (by decide) (by simp (disch := omega) only [f_X8_nominate, f0, f1, z01n, bf_t, xbx_0, xbx_1, xbx_2, xbx_3, th1_0, th1_1, th2_00, th2_01, th2_10, th2_11, th3_000, th3_001, th3_010, th3_011, th3_100, th3_101, th3_110, th3_111, ob_s, xl_s, xb_s, nBt0, nBf0, z10, z01, if_true, if_false, Bool.and_true, Bool.true_and, Bool.and_false, Bool.false_and, Bool.not_true, Bool.not_false, m_1, m_1b, z01n, z10n, bf_t, l_0, l_1, l_2, l_3, l_4, l_5, l_6, l_7, l_8, l_9, l_10, l_11, l_12, l_13, l_14, l_15, l_16, l_17, l_18, l_19, l_20, l_21, l_22, l_23, l_24, l_30, l_31, l_32, l_40, l_41, l_48, l_57, l_59, l_64, l_90, l_97, l_99, l_100, l_119, l_122, l_186, l_200, l_255, l_600, l_999, l_1488, l_1000000]) (by
        simp (disch := omega) only [f_X9_nominate, hsz, hrg, hcs, hnm, m0, m1, m3, rd_n, nB_0, e0, e1, ob_s, xbx_0, xbx_1, xbx_2, xbx_3, th1_0, th1_1, th2_00, th2_01, th2_10, th2_11, th3_000, th3_001, th3_010, th3_011, th3_100, th3_101, th3_110, th3_111, ob_s, xl_s, xb_s, nBt0, nBf0, z10, z01, if_true, if_false, Bool.and_true, Bool.true_and, Bool.and_false, Bool.false_and, Bool.not_true, Bool.not_false, m_1, m_1b, z01n, z10n, bf_t, l_0, l_1, l_2, l_3, l_4, l_5, l_6, l_7, l_8, l_9, l_10, l_11, l_12, l_13, l_14, l_15, l_16, l_17, l_18, l_19, l_20, l_21, l_22, l_23, l_24, l_30, l_31, l_32, l_40, l_41, l_48, l_57, l_59, l_64, l_90, l_97, l_99, l_100, l_119, l_122, l_186, l_200, l_255, l_600, l_999, l_1488, l_1000000] <;> (repeat' split) <;> (try simp only [xbx_0, xbx_1, xbx_2, xbx_3, th1_0, th1_1, th2_00, th2_01, th2_10, th2_11, th3_000, th3_001, th3_010, th3_011, th3_100, th3_101, th3_110, th3_111, ob_s, xl_s, xb_s, nBt0, nBf0, z10, z01, if_true, if_false, Bool.and_true, Bool.true_and, Bool.and_false, Bool.false_and, Bool.not_true, Bool.not_false, m_1, m_1b, z01n, z10n, bf_t, l_0, l_1, l_2, l_3, l_4, l_5, l_6, l_7, l_8, l_9, l_10, l_11, l_12, l_13, l_14, l_15, l_16, l_17, l_18, l_19, l_20, l_21, l_22, l_23, l_24, l_30, l_31, l_32, l_40, l_41, l_48, l_57, l_59, l_64, l_90, l_97, l_99, l_100, l_119, l_122, l_186, l_200, l_255, l_600, l_999, l_1488, l_1000000]))
    · skip
      have f1 := n_rg C y 1 9
      rw [e1] at f1
      obtain ⟨y9, l1, k1, rfl⟩ := qrg_t (by omega) (by omega) e1
      have q1 := kc_refKitten hc w
      by_cases z : qnom u = true
      rotate_left 1
      · exact ok_t g0 3 2 (by decide) (by simp (disch := omega) only [f_X8_nominate, f0, f1, n_ref, n_ref', q1, b_f z, z01n, bf_t, xbx_0, xbx_1, xbx_2, xbx_3, th1_0, th1_1, th2_00, th2_01, th2_10, th2_11, th3_000, th3_001, th3_010, th3_011, th3_100, th3_101, th3_110, th3_111, ob_s, xl_s, xb_s, nBt0, nBf0, z10, z01, if_true, if_false, Bool.and_true, Bool.true_and, Bool.and_false, Bool.false_and, Bool.not_true, Bool.not_false, m_1, m_1b, z01n, z10n, bf_t, l_0, l_1, l_2, l_3, l_4, l_5, l_6, l_7, l_8, l_9, l_10, l_11, l_12, l_13, l_14, l_15, l_16, l_17, l_18, l_19, l_20, l_21, l_22, l_23, l_24, l_30, l_31, l_32, l_40, l_41, l_48, l_57, l_59, l_64, l_90, l_97, l_99, l_100, l_119, l_122, l_186, l_200, l_255, l_600, l_999, l_1488, l_1000000]) (by
          simp (disch := omega) only [f_X9_nominate, hsz, hrg, hcs, hnm, e0, e1, m0, m1, m3, rd_n, b_f z, nB_0, xbx_0, xbx_1, xbx_2, xbx_3, th1_0, th1_1, th2_00, th2_01, th2_10, th2_11, th3_000, th3_001, th3_010, th3_011, th3_100, th3_101, th3_110, th3_111, ob_s, xl_s, xb_s, nBt0, nBf0, z10, z01, if_true, if_false, Bool.and_true, Bool.true_and, Bool.and_false, Bool.false_and, Bool.not_true, Bool.not_false, m_1, m_1b, z01n, z10n, bf_t, l_0, l_1, l_2, l_3, l_4, l_5, l_6, l_7, l_8, l_9, l_10, l_11, l_12, l_13, l_14, l_15, l_16, l_17, l_18, l_19, l_20, l_21, l_22, l_23, l_24, l_30, l_31, l_32, l_40, l_41, l_48, l_57, l_59, l_64, l_90, l_97, l_99, l_100, l_119, l_122, l_186, l_200, l_255, l_600, l_999, l_1488, l_1000000] <;> (repeat' split) <;> (try simp only [xbx_0, xbx_1, xbx_2, xbx_3, th1_0, th1_1, th2_00, th2_01, th2_10, th2_11, th3_000, th3_001, th3_010, th3_011, th3_100, th3_101, th3_110, th3_111, ob_s, xl_s, xb_s, nBt0, nBf0, z10, z01, if_true, if_false, Bool.and_true, Bool.true_and, Bool.and_false, Bool.false_and, Bool.not_true, Bool.not_false, m_1, m_1b, z01n, z10n, bf_t, l_0, l_1, l_2, l_3, l_4, l_5, l_6, l_7, l_8, l_9, l_10, l_11, l_12, l_13, l_14, l_15, l_16, l_17, l_18, l_19, l_20, l_21, l_22, l_23, l_24, l_30, l_31, l_32, l_40, l_41, l_48, l_57, l_59, l_64, l_90, l_97, l_99, l_100, l_119, l_122, l_186, l_200, l_255, l_600, l_999, l_1488, l_1000000]))
      have zk : u 11 0 = 0 := (of_decide_eq_true z).1
      obtain ⟨S2, s1, s2⟩ := kc_arrive b2 (a := x9) (b := y9) (by omega) (fun c _ => qb_0 w zk c)
      obtain ⟨T3, t1, t2, t3⟩ := km_nom b4 (a := x9) (b := y9)
      obtain ⟨T4, r1, r2, r3⟩ := b5 _ _ T3 (nI (u 0 7)) s2 t2 t3 (wf_arr w ⟨l0, k0⟩ ⟨l1, k1⟩) (by rw [n13_qarr x9 y9 0 0]; exact hn)
      rw [xs_k12] at s1
      rw [xm_12] at r2
      have d7 : xmF (xτ 27 106 1 13) C B 1 7 = nI (u 0 7) := b2.1.2.2.1
      refine ok_r (r := nI (u 0 7)) r2 r3 ?_ ?_
      · simp (disch := omega) only [f_X8_nominate, f0, f1, y_ref, y_ref', b1, s1, len_roof, z01n, bf_t, q1, z, len_kit2, xm_17, d7, xbx_0, xbx_1, xbx_2, xbx_3, th1_0, th1_1, th2_00, th2_01, th2_10, th2_11, th3_000, th3_001, th3_010, th3_011, th3_100, th3_101, th3_110, th3_111, ob_s, xl_s, xb_s, nBt0, nBf0, z10, z01, if_true, if_false, Bool.and_true, Bool.true_and, Bool.and_false, Bool.false_and, Bool.not_true, Bool.not_false, m_1, m_1b, z01n, z10n, bf_t, l_0, l_1, l_2, l_3, l_4, l_5, l_6, l_7, l_8, l_9, l_10, l_11, l_12, l_13, l_14, l_15, l_16, l_17, l_18, l_19, l_20, l_21, l_22, l_23, l_24, l_30, l_31, l_32, l_40, l_41, l_48, l_57, l_59, l_64, l_90, l_97, l_99, l_100, l_119, l_122, l_186, l_200, l_255, l_600, l_999, l_1488, l_1000000]
      · simp (disch := omega) only [f_X9_nominate, hsz, hrg, hcs, hnm, e0, e1, m0, m1, m3, rd_n, b3, t1, r1, z, xbx_0, xbx_1, xbx_2, xbx_3, th1_0, th1_1, th2_00, th2_01, th2_10, th2_11, th3_000, th3_001, th3_010, th3_011, th3_100, th3_101, th3_110, th3_111, ob_s, xl_s, xb_s, nBt0, nBf0, z10, z01, if_true, if_false, Bool.and_true, Bool.true_and, Bool.and_false, Bool.false_and, Bool.not_true, Bool.not_false, m_1, m_1b, z01n, z10n, bf_t, l_0, l_1, l_2, l_3, l_4, l_5, l_6, l_7, l_8, l_9, l_10, l_11, l_12, l_13, l_14, l_15, l_16, l_17, l_18, l_19, l_20, l_21, l_22, l_23, l_24, l_30, l_31, l_32, l_40, l_41, l_48, l_57, l_59, l_64, l_90, l_97, l_99, l_100, l_119, l_122, l_186, l_200, l_255, l_600, l_999, l_1488, l_1000000]
end
