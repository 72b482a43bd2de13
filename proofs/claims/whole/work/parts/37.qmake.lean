/-! level 2: changes of one roof, each as a change of places -/
def up (u : QU) (r i v : Nat) : QU := fun a b => if a = r then (if b = i then v else u r b) else u a b
section
variable {u : QU} {S : XS} {r i v a b k : Nat} {x : Int32}
theorem up_n (h : a ≠ r) : up u r i v a b = u a b := by simp [up, h]
theorem up_s : up u r i v r b = if b = i then v else u r b := by simp [up]
theorem xq_n (h : a ≠ k) : xput S k i x a b = S a b := by simp [xput, h]
theorem up_B (hB : ∀ r i, r < 20 → u r i < 1048576) (hv : v < 1048576) : ∀ a b, a < 20 → up u r i v a b < 1048576 := by
  intro a b ha
  unfold up
  split
  · split
    · exact hv
    · rename_i h _; rw [← h]; exact hB a b ha
  · exact hB a b ha
end
def qbuild (u : QU) (h : Nat) : QU := up (up (up u 1 (u 0 0) h) 2 (u 0 0) 0) 0 0 (u 0 0 + 1)
def qlay (u : QU) (a b x : Nat) : QU := up (up (up (up u 3 (u 0 3) a) 4 (u 0 3) b) 5 (u 0 3) x) 0 3 (u 0 3 + 1)
def qput (u : QU) (k g s : Nat) : QU := up (up (up (up (up u 6 (u 0 7) g) 7 (u 0 7) s) 8 (u 0 7) 5) 9 (u 0 7) k) 0 7 (u 0 7 + 1)
def qgo (u : QU) (c g : Nat) : QU := up u 9 c (qfar u c g)
def qtake (u : QU) (c : Nat) : QU := up u 2 (u 9 c) (c + 1)
def qrel (u : QU) (k : Nat) : QU := up u 2 k 0
def qagree (u : QU) (a b f n : Nat) : QU := up (up (up (up u 8 a (u 8 a - f)) 8 b (u 8 b + f)) 10 (a * 8 + b) (u 0 13 + n)) 10 (b * 8 + a) (u 0 13 + n)
def qarr (u : QU) (g s : Nat) : QU := up (up (up (up u 11 0 g) 11 1 s) 12 0 0) 12 1 0
section
variable {S T : XS} {u : QU} {a b c d g k : Nat}
theorem kc_build (h : RC S u) (w : WF u) (hn : u 0 0 < 10) {x : Nat} : ∃ S', f_X6_putChimney S (nI x) = some (nI (u 0 0), S') ∧ RC S' (qbuild u x) := by
  obtain ⟨⟨c0, c3, c7, cN, cG, cA⟩, r1, r2, r3, r4, r5, r6, r7, r8, r9, rT, kw, kg, kb⟩ := h
  obtain ⟨hB, w0, w3, w7, wN, wk, wg, wc, wd, wo, wv⟩ := w
  simp only [qb] at kb
  refine ⟨xput (xput (xput S 1 (u 0 0) (nI x)) 2 (u 0 0) (oI 0)) 0 0 (nI (u 0 0 + 1)), ?_, ?_⟩
  · simp (disch := omega) only [f_X6_putChimney, xl_s, ob_s, xb_s, rd_n, wr_n, m_1, m_1b, nI_add, pk_mul, l_0, l_1, l_2, l_3, l_4, l_5, l_6, l_7, l_8, l_9, l_10, l_11, l_12, l_13, l_14, l_15, l_16, l_17, l_18, l_19, l_20, l_21, l_22, l_23, l_24, l_30, l_31, l_32, l_40, l_41, l_48, l_57, l_59, l_64, l_90, l_97, l_99, l_100, l_119, l_122, l_186, l_200, l_255, l_600, l_999, l_1488, l_1000000, c0, xq_n, xp_s, i_T, if_true, if_false, and_self]
    rw [show nI (u 0 0 + 1) - nI 1 = nI (u 0 0) from nI_pred (u 0 0)]
  · unfold qbuild
    refine ⟨⟨?_, ?_, ?_, ?_, ?_, ?_⟩, fun k hk => ?_, fun k hk => ?_, fun k hk => ?_, fun k hk => ?_, fun k hk => ?_, fun k hk => ?_, fun k hk => ?_, fun k hk => ?_, fun k hk => ?_, fun k hk => ?_, ?_, fun hk => ?_, fun k hk => ?_⟩
    all_goals (try simp (disch := omega) only [xq_n, xp_s, up_n, up_s, i_T, i_F, if_true, if_false, and_self] at hk)
    all_goals (try by_cases e : k = u 0 0)
    all_goals simp (disch := omega) only [qb, xq_n, xp_s, up_n, up_s, i_T, i_F, c0, c3, c7, cN, cG, cA, r1, r2, r3, r4, r5, r6, r7, r8, r9, rT, kw, kg, kb, if_true, if_false, and_self]
    all_goals (first | exact kg hk | rfl)
theorem km_build (h : RM (T 1) u) (w : WF u) (hn : u 0 0 < 10) {x : Nat} : ∃ T', f_X9_builds T (nI x) = some (nI (u 0 0), T') ∧ RM (T' 1) (qbuild u x) ∧ ∀ i, i ≠ 1 → T' i = T i := by
  obtain ⟨m0, m1, m2, m3, m4, m5, m6, m7, m8, m9, n1, n2, n3, n4, n5, n6, n7, n8, n9, nT⟩ := h
  obtain ⟨hB, w0, w3, w7, wN, wk, wg, wc, wd, wo, wv⟩ := w
  refine ⟨xput (xput (xput T 1 (10 + u 0 0) (nI x)) 1 (20 + u 0 0) (oI 0)) 1 0 (nI (u 0 0 + 1)), ?_, ?_, fun i hi => by rw [xp_n hi, xp_n hi, xp_n hi]⟩
  · simp (disch := omega) only [f_X9_builds, xl_s, ob_s, xb_s, rd_n, wr_n, m_1, m_1b, nI_add, pk_mul, l_0, l_1, l_2, l_3, l_4, l_5, l_6, l_7, l_8, l_9, l_10, l_11, l_12, l_13, l_14, l_15, l_16, l_17, l_18, l_19, l_20, l_21, l_22, l_23, l_24, l_30, l_31, l_32, l_40, l_41, l_48, l_57, l_59, l_64, l_90, l_97, l_99, l_100, l_119, l_122, l_186, l_200, l_255, l_600, l_999, l_1488, l_1000000, m0, xp_s, i_T, i_F, if_true, if_false, and_self]
    rw [show nI (u 0 0 + 1) - nI 1 = nI (u 0 0) from nI_pred (u 0 0)]
  · unfold qbuild
    refine ⟨?_, ?_, ?_, ?_, ?_, ?_, ?_, ?_, ?_, ?_, fun k hk => ?_, fun k hk => ?_, fun k hk => ?_, fun k hk => ?_, fun k hk => ?_, fun k hk => ?_, fun k hk => ?_, fun k hk => ?_, fun k hk => ?_, fun a b ha hb => ?_⟩
    all_goals (try by_cases e : k = u 0 0)
    all_goals simp (disch := omega) only [xp_s, up_n, up_s, i_T, i_F, m0, m1, m2, m3, m4, m5, m6, m7, m8, m9, n1, n2, n3, n4, n5, n6, n7, n8, n9, nT, if_true, if_false, and_self]
    all_goals rfl
theorem wf_build (w : WF u) (hn : u 0 0 < 10) {x : Nat} (hx : x ≤ 9) : WF (qbuild u x) := by
  have hq : ∀ c, qown (qbuild u x) c = qown u c := fun c => by
    unfold qown qbuild
    simp (disch := omega) only [up_n, up_s, i_T, if_true, if_false, and_self]
    rw [fb_ct_succ]
    simp only [if_true]
    rw [if_neg (by simp), Nat.add_zero]
    exact fb_ct_cong (fun k hk => by rw [if_neg (by omega)])
  obtain ⟨hB, w0, w3, w7, wN, wk, wg, wc, wd, wo, wv⟩ := w
  refine ⟨?_, ?_, ?_, ?_, ?_, fun k hk => ?_, fun k hk => ?_, fun k hk => ?_, fun k k2 hk hk2 => ?_, fun k hk => ?_, ?_⟩
  · exact up_B (up_B (up_B hB (by omega)) (by omega)) (by omega)
  all_goals (try unfold qbuild at hk)
  all_goals (try unfold qbuild at hk2)
  all_goals (try simp (disch := omega) only [up_n, up_s, i_T, i_F, if_true, if_false, and_self] at hk)
  all_goals (try simp (disch := omega) only [up_n, up_s, i_T, i_F, if_true, if_false, and_self] at hk2)
  all_goals (try rw [hq])
  all_goals (try unfold qbuild)
  all_goals (try simp (disch := omega) only [up_n, up_s, i_T, i_F, if_true, if_false, and_self])
  · omega
  · exact w3
  · exact w7
  · exact wN
  · by_cases e : k = u 0 0
    · simp (disch := omega) only [i_T, if_true, if_false, and_self]; omega
    · have := wk k (by omega)
      simp (disch := omega) only [i_F, if_true, if_false, and_self]; omega
  · have := wg k hk; omega
  · have := wc k hk; omega
  · exact wd k k2 hk hk2
  · exact wo k hk
  · exact wv
theorem kc_lay (h : RC S u) (w : WF u) (hn : u 0 3 < 20) {a b x : Nat} : ∃ S', f_X6_putGutter S (nI a) (nI b) (nI x) = some (nI (u 0 3), S') ∧ RC S' (qlay u a b x) := by
  obtain ⟨⟨c0, c3, c7, cN, cG, cA⟩, r1, r2, r3, r4, r5, r6, r7, r8, r9, rT, kw, kg, kb⟩ := h
  obtain ⟨hB, w0, w3, w7, wN, wk, wg, wc, wd, wo, wv⟩ := w
  simp only [qb] at kb
  refine ⟨xput (xput (xput (xput S 3 (u 0 3) (nI a)) 4 (u 0 3) (nI b)) 5 (u 0 3) (nI x)) 0 3 (nI (u 0 3 + 1)), ?_, ?_⟩
  · simp (disch := omega) only [f_X6_putGutter, xl_s, ob_s, xb_s, rd_n, wr_n, m_1, m_1b, nI_add, pk_mul, l_0, l_1, l_2, l_3, l_4, l_5, l_6, l_7, l_8, l_9, l_10, l_11, l_12, l_13, l_14, l_15, l_16, l_17, l_18, l_19, l_20, l_21, l_22, l_23, l_24, l_30, l_31, l_32, l_40, l_41, l_48, l_57, l_59, l_64, l_90, l_97, l_99, l_100, l_119, l_122, l_186, l_200, l_255, l_600, l_999, l_1488, l_1000000, c3, xq_n, xp_s, i_T, if_true, if_false, and_self]
    rw [show nI (u 0 3 + 1) - nI 1 = nI (u 0 3) from nI_pred (u 0 3)]
  · unfold qlay
    refine ⟨⟨?_, ?_, ?_, ?_, ?_, ?_⟩, fun k hk => ?_, fun k hk => ?_, fun k hk => ?_, fun k hk => ?_, fun k hk => ?_, fun k hk => ?_, fun k hk => ?_, fun k hk => ?_, fun k hk => ?_, fun k hk => ?_, ?_, fun hk => ?_, fun k hk => ?_⟩
    all_goals (try simp (disch := omega) only [xq_n, xp_s, up_n, up_s, i_T, i_F, if_true, if_false, and_self] at hk)
    all_goals (try by_cases e : k = u 0 3)
    all_goals simp (disch := omega) only [qb, xq_n, xp_s, up_n, up_s, i_T, i_F, c0, c3, c7, cN, cG, cA, r1, r2, r3, r4, r5, r6, r7, r8, r9, rT, kw, kg, kb, if_true, if_false, and_self]
    all_goals (first | exact kg hk | rfl)
theorem km_lay (h : RM (T 1) u) (w : WF u) (hn : u 0 3 < 20) {a b x : Nat} : ∃ T', f_X9_lays T (nI a) (nI b) (nI x) = some (nI (u 0 3), T') ∧ RM (T' 1) (qlay u a b x) ∧ ∀ i, i ≠ 1 → T' i = T i := by
  obtain ⟨m0, m1, m2, m3, m4, m5, m6, m7, m8, m9, n1, n2, n3, n4, n5, n6, n7, n8, n9, nT⟩ := h
  obtain ⟨hB, w0, w3, w7, wN, wk, wg, wc, wd, wo, wv⟩ := w
  refine ⟨xput (xput (xput (xput T 1 (30 + 3 * u 0 3 + 0) (nI a)) 1 (30 + 3 * u 0 3 + 1) (nI b)) 1 (30 + 3 * u 0 3 + 2) (nI x)) 1 1 (nI (u 0 3 + 1)), ?_, ?_, fun i hi => by rw [xp_n hi, xp_n hi, xp_n hi, xp_n hi]⟩
  · simp (disch := omega) only [f_X9_lays, xl_s, ob_s, xb_s, rd_n, wr_n, m_1, m_1b, nI_add, pk_mul, l_0, l_1, l_2, l_3, l_4, l_5, l_6, l_7, l_8, l_9, l_10, l_11, l_12, l_13, l_14, l_15, l_16, l_17, l_18, l_19, l_20, l_21, l_22, l_23, l_24, l_30, l_31, l_32, l_40, l_41, l_48, l_57, l_59, l_64, l_90, l_97, l_99, l_100, l_119, l_122, l_186, l_200, l_255, l_600, l_999, l_1488, l_1000000, m1, xp_s, i_T, i_F, if_true, if_false, and_self]
    rw [show nI (u 0 3 + 1) - nI 1 = nI (u 0 3) from nI_pred (u 0 3)]
  · unfold qlay
    refine ⟨?_, ?_, ?_, ?_, ?_, ?_, ?_, ?_, ?_, ?_, fun k hk => ?_, fun k hk => ?_, fun k hk => ?_, fun k hk => ?_, fun k hk => ?_, fun k hk => ?_, fun k hk => ?_, fun k hk => ?_, fun k hk => ?_, fun a b ha hb => ?_⟩
    all_goals (try by_cases e : k = u 0 3)
    all_goals simp (disch := omega) only [xp_s, up_n, up_s, i_T, i_F, m0, m1, m2, m3, m4, m5, m6, m7, m8, m9, n1, n2, n3, n4, n5, n6, n7, n8, n9, nT, if_true, if_false, and_self]
theorem wf_lay (w : WF u) (hn : u 0 3 < 20) {a b x : Nat} (ha : a < u 0 0) (hb : b < u 0 0) (hab : a ≠ b) (hx : 1 ≤ x ∧ x ≤ 9) : WF (qlay u a b x) := by
  have hq : ∀ c, qown (qlay u a b x) c = qown u c := fun c => by
    unfold qown qlay
    simp (disch := omega) only [up_n, up_s, i_F, if_true, if_false, and_self]
  obtain ⟨hB, w0, w3, w7, wN, wk, wg, wc, wd, wo, wv⟩ := w
  refine ⟨?_, ?_, ?_, ?_, ?_, fun k hk => ?_, fun k hk => ?_, fun k hk => ?_, fun k k2 hk hk2 => ?_, fun k hk => ?_, ?_⟩
  · exact up_B (up_B (up_B (up_B hB (by omega)) (by omega)) (by omega)) (by omega)
  all_goals (try unfold qlay at hk)
  all_goals (try unfold qlay at hk2)
  all_goals (try simp (disch := omega) only [up_n, up_s, i_T, i_F, if_true, if_false, and_self] at hk)
  all_goals (try simp (disch := omega) only [up_n, up_s, i_T, i_F, if_true, if_false, and_self] at hk2)
  all_goals (try rw [hq])
  all_goals (try unfold qlay)
  all_goals (try simp (disch := omega) only [up_n, up_s, i_T, i_F, if_true, if_false, and_self])
  · exact w0
  · omega
  · exact w7
  · exact wN
  · exact wk k hk
  · by_cases e : k = u 0 3
    · simp (disch := omega) only [i_T, if_true, if_false, and_self]; omega
    · have := wg k (by omega)
      simp (disch := omega) only [i_F, if_true, if_false, and_self]; omega
  · have := wc k hk; omega
  · exact wd k k2 hk hk2
  · exact wo k hk
  · exact wv
theorem kc_put (h : RC S u) (w : WF u) (hn : u 0 7 < 8) {k g s : Nat} : ∃ S', f_X6_putCat S (nI k) (nI g) (nI s) = some (nI (u 0 7), S') ∧ RC S' (qput u k g s) ∧ S' 11 = S 11 ∧ S' 12 = S 12 := by
  obtain ⟨⟨c0, c3, c7, cN, cG, cA⟩, r1, r2, r3, r4, r5, r6, r7, r8, r9, rT, kw, kg, kb⟩ := h
  obtain ⟨hB, w0, w3, w7, wN, wk, wg, wc, wd, wo, wv⟩ := w
  simp only [qb] at kb
  refine ⟨xput (xput (xput (xput (xput S 6 (u 0 7) (nI g)) 7 (u 0 7) (nI s)) 8 (u 0 7) (nI 5)) 9 (u 0 7) (nI k)) 0 7 (nI (u 0 7 + 1)), ?_, ?_, ?_, ?_⟩
  · simp (disch := omega) only [f_X6_putCat, xl_s, ob_s, xb_s, rd_n, wr_n, m_1, m_1b, nI_add, pk_mul, l_0, l_1, l_2, l_3, l_4, l_5, l_6, l_7, l_8, l_9, l_10, l_11, l_12, l_13, l_14, l_15, l_16, l_17, l_18, l_19, l_20, l_21, l_22, l_23, l_24, l_30, l_31, l_32, l_40, l_41, l_48, l_57, l_59, l_64, l_90, l_97, l_99, l_100, l_119, l_122, l_186, l_200, l_255, l_600, l_999, l_1488, l_1000000, c7, xq_n, xp_s, i_T, if_true, if_false, and_self]
    rw [show nI (u 0 7 + 1) - nI 1 = nI (u 0 7) from nI_pred (u 0 7)]
  · unfold qput
    refine ⟨⟨?_, ?_, ?_, ?_, ?_, ?_⟩, fun k hk => ?_, fun k hk => ?_, fun k hk => ?_, fun k hk => ?_, fun k hk => ?_, fun k hk => ?_, fun k hk => ?_, fun k hk => ?_, fun k hk => ?_, fun k hk => ?_, ?_, fun hk => ?_, fun k hk => ?_⟩
    all_goals (try simp (disch := omega) only [xq_n, xp_s, up_n, up_s, i_T, i_F, if_true, if_false, and_self] at hk)
    all_goals (try by_cases e : k = u 0 7)
    all_goals simp (disch := omega) only [qb, xq_n, xp_s, up_n, up_s, i_T, i_F, c0, c3, c7, cN, cG, cA, r1, r2, r3, r4, r5, r6, r7, r8, r9, rT, kw, kg, kb, if_true, if_false, and_self]
    all_goals (first | exact kg hk | rfl)
  · simp (disch := omega) only [xp_n]
  · simp (disch := omega) only [xp_n]
theorem km_put (h : RM (T 1) u) (w : WF u) (hn : u 0 7 < 8) {x g s : Nat} : ∃ T', f_X9_enters T (nI x) (nI g) (nI s) = some (nI (u 0 7), T') ∧ RM (T' 1) (qput u x g s) ∧ ∀ i, i ≠ 1 → T' i = T i := by
  obtain ⟨m0, m1, m2, m3, m4, m5, m6, m7, m8, m9, n1, n2, n3, n4, n5, n6, n7, n8, n9, nT⟩ := h
  obtain ⟨hB, w0, w3, w7, wN, wk, wg, wc, wd, wo, wv⟩ := w
  refine ⟨xput (xput (xput (xput (xput T 1 2 (nI (u 0 7 + 1))) 1 (90 + 4 * u 0 7 + 0) (nI g)) 1 (90 + 4 * u 0 7 + 1) (nI s)) 1 (90 + 4 * u 0 7 + 2) (nI 5)) 1 (90 + 4 * u 0 7 + 3) (nI x), ?_, ?_, fun i hi => by rw [xp_n hi, xp_n hi, xp_n hi, xp_n hi, xp_n hi]⟩
  · simp (disch := omega) only [f_X9_enters, f_X9_to, xl_s, ob_s, xb_s, rd_n, wr_n, m_1, m_1b, nI_add, pk_mul, l_0, l_1, l_2, l_3, l_4, l_5, l_6, l_7, l_8, l_9, l_10, l_11, l_12, l_13, l_14, l_15, l_16, l_17, l_18, l_19, l_20, l_21, l_22, l_23, l_24, l_30, l_31, l_32, l_40, l_41, l_48, l_57, l_59, l_64, l_90, l_97, l_99, l_100, l_119, l_122, l_186, l_200, l_255, l_600, l_999, l_1488, l_1000000, m2, xp_s, i_T, i_F, if_true, if_false, and_self]
  · unfold qput
    refine ⟨?_, ?_, ?_, ?_, ?_, ?_, ?_, ?_, ?_, ?_, fun k hk => ?_, fun k hk => ?_, fun k hk => ?_, fun k hk => ?_, fun k hk => ?_, fun k hk => ?_, fun k hk => ?_, fun k hk => ?_, fun k hk => ?_, fun a b ha hb => ?_⟩
    all_goals (try by_cases e : k = u 0 7)
    all_goals simp (disch := omega) only [xp_s, up_n, up_s, i_T, i_F, m0, m1, m2, m3, m4, m5, m6, m7, m8, m9, n1, n2, n3, n4, n5, n6, n7, n8, n9, nT, if_true, if_false, and_self]
theorem wf_put (w : WF u) (hn : u 0 7 < 8) {x g s : Nat} (hx : x < u 0 0) (h0 : qsit u x = 0) (hg : 1 ≤ g ∧ g ≤ 9) (hs : 1 ≤ s ∧ s ≤ 9) : WF (qput u x g s) := by
  have hsit := fun c (hc : c < u 0 7) => qsit_0 h0 hc
  have hq : ∀ c, qown (qput u x g s) c = qown u c := fun c => by
    unfold qown qput
    simp (disch := omega) only [up_n, up_s, i_F, if_true, if_false, and_self]
  have hq0 : qown u (u 0 7) = 0 := by
    obtain ⟨hB, w0, w3, w7, wN, wk, wg, wc, wd, wo, wv⟩ := w
    refine fb_ct_zero.mpr (fun k hk => decide_eq_false (fun e => ?_))
    have := wk k hk
    omega
  obtain ⟨hB, w0, w3, w7, wN, wk, wg, wc, wd, wo, wv⟩ := w
  refine ⟨?_, ?_, ?_, ?_, ?_, fun k hk => ?_, fun k hk => ?_, fun k hk => ?_, fun k k2 hk hk2 => ?_, fun k hk => ?_, ?_⟩
  · exact up_B (up_B (up_B (up_B (up_B hB (by omega)) (by omega)) (by omega)) (by omega)) (by omega)
  all_goals (try unfold qput at hk)
  all_goals (try unfold qput at hk2)
  all_goals (try simp (disch := omega) only [up_n, up_s, i_T, i_F, if_true, if_false, and_self] at hk)
  all_goals (try simp (disch := omega) only [up_n, up_s, i_T, i_F, if_true, if_false, and_self] at hk2)
  all_goals (try rw [hq])
  all_goals (try unfold qput)
  all_goals (try simp (disch := omega) only [up_n, up_s, i_T, i_F, if_true, if_false, and_self])
  · exact w0
  · exact w3
  · omega
  · exact wN
  · have := wk k hk; omega
  · exact wg k hk
  · by_cases e : k = u 0 7
    · simp (disch := omega) only [i_T, if_true, if_false, and_self]; omega
    · have := wc k (by omega)
      simp (disch := omega) only [i_F, if_true, if_false, and_self]; omega
  · by_cases e : k = u 0 7
    · by_cases e2 : k2 = u 0 7
      · intro _; omega
      · have := hsit k2 (by omega)
        simp (disch := omega) only [i_T, i_F, if_true, if_false, and_self]
        omega
    · by_cases e2 : k2 = u 0 7
      · have := hsit k (by omega)
        simp (disch := omega) only [i_T, i_F, if_true, if_false, and_self]
        omega
      · simp (disch := omega) only [i_F, if_true, if_false, and_self]
        exact wd k k2 (by omega) (by omega)
  · by_cases e : k = u 0 7
    · rw [e, hq0]; omega
    · exact wo k (by omega)
  · refine ⟨wv.1, wv.2.1, wv.2.2.1, ?_, wv.2.2.2.2⟩
    exact Nat.lt_trans wv.2.2.2.1 (p2_lt (by omega))
theorem kc_go (h : RC S u) (w : WF u) (hc : c < u 0 7) (hg : g < u 0 3) : ∃ S', f_X6_walk S (nI c) (nI g) = some (nI (qfar u c g), S') ∧ RC S' (qgo u c g) := by
  have h1 := kc_far h w hc hg
  obtain ⟨⟨c0, c3, c7, cN, cG, cA⟩, r1, r2, r3, r4, r5, r6, r7, r8, r9, rT, kw, kg, kb⟩ := h
  obtain ⟨hB, w0, w3, w7, wN, wk, wg, wc, wd, wo, wv⟩ := w
  simp only [qb] at kb
  refine ⟨xput S 9 c (nI (qfar u c g)), ?_, ?_⟩
  · simp (disch := omega) only [f_X6_walk, xl_s, ob_s, xb_s, rd_n, wr_n, m_1, m_1b, nI_add, pk_mul, l_0, l_1, l_2, l_3, l_4, l_5, l_6, l_7, l_8, l_9, l_10, l_11, l_12, l_13, l_14, l_15, l_16, l_17, l_18, l_19, l_20, l_21, l_22, l_23, l_24, l_30, l_31, l_32, l_40, l_41, l_48, l_57, l_59, l_64, l_90, l_97, l_99, l_100, l_119, l_122, l_186, l_200, l_255, l_600, l_999, l_1488, l_1000000, h1, xp_s, i_T, if_true, if_false, and_self]
  · unfold qgo
    refine ⟨⟨?_, ?_, ?_, ?_, ?_, ?_⟩, fun k hk => ?_, fun k hk => ?_, fun k hk => ?_, fun k hk => ?_, fun k hk => ?_, fun k hk => ?_, fun k hk => ?_, fun k hk => ?_, fun k hk => ?_, fun k hk => ?_, ?_, fun hk => ?_, fun k hk => ?_⟩
    all_goals (try simp (disch := omega) only [xq_n, xp_s, up_n, up_s, i_T, i_F, if_true, if_false, and_self] at hk)
    all_goals (try by_cases e : k = c)
    all_goals simp (disch := omega) only [qb, xq_n, xp_s, up_n, up_s, i_T, i_F, c0, c3, c7, cN, cG, cA, r1, r2, r3, r4, r5, r6, r7, r8, r9, rT, kw, kg, kb, if_true, if_false, and_self]
    all_goals (first | exact kg hk | rfl)
theorem km_go (h : RM (T 1) u) (w : WF u) (hc : c < u 0 7) (hg : g < u 0 3) (hs : qstep u c g = 0) : ∃ T', f_X9_goes T (nI c) (nI g) = some (nI (qfar u c g), T') ∧ RM (T' 1) (qgo u c g) ∧ ∀ i, i ≠ 1 → T' i = T i := by
  have ha := fun k (hk : k < u 0 0) => km_across h w hg hk
  have he : u 3 g = u 9 c ∨ u 4 g = u 9 c := by
    unfold qstep at hs
    by_cases e : u 3 g = u 9 c ∨ u 4 g = u 9 c
    · exact e
    · rw [if_neg e] at hs; cases hs
  obtain ⟨m0, m1, m2, m3, m4, m5, m6, m7, m8, m9, n1, n2, n3, n4, n5, n6, n7, n8, n9, nT⟩ := h
  obtain ⟨hB, w0, w3, w7, wN, wk, wg, wc, wd, wo, wv⟩ := w
  have h9 := wc c hc
  have hx : f_X9_across T (nI g) (nI (u 9 c)) = some (nI (qfar u c g)) := by
    rw [ha _ h9.2.2.2.2.2]
    congr 1
    unfold qfar
    by_cases e1 : u 3 g = u 9 c
    · rw [if_pos e1, if_pos e1]; rfl
    · rw [if_neg e1, if_neg e1, if_pos (he.resolve_left e1)]; rfl
  refine ⟨xput T 1 (90 + 4 * c + 3) (nI (qfar u c g)), ?_, ?_, fun i hi => xp_n hi⟩
  · simp (disch := omega) only [f_X9_goes, f_X9_to, xl_s, ob_s, xb_s, rd_n, wr_n, m_1, m_1b, nI_add, pk_mul, l_0, l_1, l_2, l_3, l_4, l_5, l_6, l_7, l_8, l_9, l_10, l_11, l_12, l_13, l_14, l_15, l_16, l_17, l_18, l_19, l_20, l_21, l_22, l_23, l_24, l_30, l_31, l_32, l_40, l_41, l_48, l_57, l_59, l_64, l_90, l_97, l_99, l_100, l_119, l_122, l_186, l_200, l_255, l_600, l_999, l_1488, l_1000000, km_of, n9, hx, xp_s, i_T, if_true, if_false, and_self]
  · unfold qgo
    refine ⟨?_, ?_, ?_, ?_, ?_, ?_, ?_, ?_, ?_, ?_, fun k hk => ?_, fun k hk => ?_, fun k hk => ?_, fun k hk => ?_, fun k hk => ?_, fun k hk => ?_, fun k hk => ?_, fun k hk => ?_, fun k hk => ?_, fun a b ha hb => ?_⟩
    all_goals (try by_cases e : k = c)
    all_goals simp (disch := omega) only [xp_s, up_n, up_s, i_T, i_F, m0, m1, m2, m3, m4, m5, m6, m7, m8, m9, n1, n2, n3, n4, n5, n6, n7, n8, n9, nT, if_true, if_false, and_self]
theorem wf_go (w : WF u) (hc : c < u 0 7) (hg : g < u 0 3) (hs : qstep u c g = 0) : WF (qgo u c g) := by
  have hf := qfar_lt w hg c
  have h0 : qsit u (qfar u c g) = 0 := by
    unfold qstep at hs
    by_cases e : u 3 g = u 9 c ∨ u 4 g = u 9 c
    · rw [if_pos e] at hs
      by_cases e2 : u 6 c ≤ u 5 g
      · rw [if_pos e2] at hs
        by_cases e3 : qsit u (qfar u c g) = 0
        · exact e3
        · rw [if_neg e3] at hs; cases hs
      · rw [if_neg e2] at hs; cases hs
    · rw [if_neg e] at hs; cases hs
  have hsit := fun c (hc : c < u 0 7) => qsit_0 h0 hc
  have hq : ∀ d, qown (qgo u c g) d = qown u d := fun d => by
    unfold qown qgo
    simp (disch := omega) only [up_n]
  obtain ⟨hB, w0, w3, w7, wN, wk, wg, wc, wd, wo, wv⟩ := w
  refine ⟨?_, ?_, ?_, ?_, ?_, fun k hk => ?_, fun k hk => ?_, fun k hk => ?_, fun k k2 hk hk2 => ?_, fun k hk => ?_, ?_⟩
  · exact up_B hB (by omega)
  all_goals (try unfold qgo at hk)
  all_goals (try unfold qgo at hk2)
  all_goals (try simp (disch := omega) only [up_n, up_s, i_T, i_F, if_true, if_false, and_self] at hk)
  all_goals (try simp (disch := omega) only [up_n, up_s, i_T, i_F, if_true, if_false, and_self] at hk2)
  all_goals (try rw [hq])
  all_goals (try unfold qgo)
  all_goals (try simp (disch := omega) only [up_n, up_s, i_T, i_F, if_true, if_false, and_self])
  · exact w0
  · exact w3
  · exact w7
  · exact wN
  · exact wk k hk
  · exact wg k hk
  · have := wc k hk
    by_cases e : k = c
    · simp (disch := omega) only [i_T, if_true, if_false, and_self]; omega
    · simp (disch := omega) only [i_F, if_true, if_false, and_self]; omega
  · by_cases e : k = c
    · by_cases e2 : k2 = c
      · intro _; omega
      · have := hsit k2 (by omega)
        simp (disch := omega) only [i_T, i_F, if_true, if_false, and_self]
        omega
    · by_cases e2 : k2 = c
      · have := hsit k (by omega)
        simp (disch := omega) only [i_T, i_F, if_true, if_false, and_self]
        omega
      · simp (disch := omega) only [i_F, if_true, if_false, and_self]
        exact wd k k2 hk hk2
  · exact wo k hk
  · exact wv
theorem own_up {k v : Nat} (hk : k < u 0 0) (d : Nat) : qown (up u 2 k v) d + (if u 2 k = d + 1 then 1 else 0) = qown u d + (if v = d + 1 then 1 else 0) := by
  have h := fb_ct_upd (fun j => decide (u 2 j = d + 1)) (decide (v = d + 1)) hk
  have e : qown (up u 2 k v) d = fb_ct (fun j => if j = k then decide (v = d + 1) else decide (u 2 j = d + 1)) (u 0 0) := by
    unfold qown
    simp (disch := omega) only [up_n, up_s]
    refine fb_ct_cong (fun j hj => ?_)
    by_cases e : j = k
    · rw [if_pos e, if_pos e]
    · rw [if_neg e, if_neg e]
  rw [e]
  simp only [decide_eq_true_eq] at h
  exact h
theorem kc_take (h : RC S u) (w : WF u) (hc : c < u 0 7) (w' : WF (qtake u c)) : ∃ S', f_X6_takeSeat S (nI c) = some (nI (qown (qtake u c) c), S') ∧ RC S' (qtake u c) := by
  have h' : RC (xput S 2 (u 9 c) (nI c)) (qtake u c) := by
    obtain ⟨⟨c0, c3, c7, cN, cG, cA⟩, r1, r2, r3, r4, r5, r6, r7, r8, r9, rT, kw, kg, kb⟩ := h
    obtain ⟨hB, w0, w3, w7, wN, wk, wg, wc, wd, wo, wv⟩ := w
    have h9 := wc c hc
    simp only [qb] at kb
    unfold qtake
    refine ⟨⟨?_, ?_, ?_, ?_, ?_, ?_⟩, fun k hk => ?_, fun k hk => ?_, fun k hk => ?_, fun k hk => ?_, fun k hk => ?_, fun k hk => ?_, fun k hk => ?_, fun k hk => ?_, fun k hk => ?_, fun k hk => ?_, ?_, fun hk => ?_, fun k hk => ?_⟩
    all_goals (try simp (disch := omega) only [xq_n, xp_s, up_n, up_s, i_T, i_F, if_true, if_false, and_self] at hk)
    all_goals (try by_cases e : k = u 9 c)
    all_goals simp (disch := omega) only [qb, xq_n, xp_s, up_n, up_s, i_T, i_F, c0, c3, c7, cN, cG, cA, r1, r2, r3, r4, r5, r6, r7, r8, r9, rT, kw, kg, kb, if_true, if_false, and_self]
    all_goals (first | exact kg hk | rfl)
  have h7 : u 0 7 ≤ 8 := by obtain ⟨hB, w0, w3, w7, wN, wk, wg, wc, wd, wo, wv⟩ := w; exact w7
  have h2 := kc_estate h' w' (c := c) (by omega)
  have h3 := qest_b w' c
  obtain ⟨⟨c0, c3, c7, cN, cG, cA⟩, r1, r2, r3, r4, r5, r6, r7, r8, r9, rT, kw, kg, kb⟩ := h
  obtain ⟨hB, w0, w3, w7, wN, wk, wg, wc, wd, wo, wv⟩ := w
  have h9 := wc c hc
  refine ⟨_, ?_, h'⟩
  simp (disch := omega) only [f_X6_takeSeat, xl_s, ob_s, xb_s, rd_n, wr_n, m_1, m_1b, nI_add, pk_mul, l_0, l_1, l_2, l_3, l_4, l_5, l_6, l_7, l_8, l_9, l_10, l_11, l_12, l_13, l_14, l_15, l_16, l_17, l_18, l_19, l_20, l_21, l_22, l_23, l_24, l_30, l_31, l_32, l_40, l_41, l_48, l_57, l_59, l_64, l_90, l_97, l_99, l_100, l_119, l_122, l_186, l_200, l_255, l_600, l_999, l_1488, l_1000000, r9, h2, h3]
theorem km_take (h : RM (T 1) u) (w : WF u) (hc : c < u 0 7) (w' : WF (qtake u c)) : ∃ T', f_X9_claims T (nI c) = some (nI (qown (qtake u c) c), T') ∧ RM (T' 1) (qtake u c) ∧ ∀ i, i ≠ 1 → T' i = T i := by
  have h' : RM (xput T 1 (20 + u 9 c) (nI c) 1) (qtake u c) := by
    obtain ⟨m0, m1, m2, m3, m4, m5, m6, m7, m8, m9, n1, n2, n3, n4, n5, n6, n7, n8, n9, nT⟩ := h
    obtain ⟨hB, w0, w3, w7, wN, wk, wg, wc, wd, wo, wv⟩ := w
    have h9 := wc c hc
    unfold qtake
    refine ⟨?_, ?_, ?_, ?_, ?_, ?_, ?_, ?_, ?_, ?_, fun k hk => ?_, fun k hk => ?_, fun k hk => ?_, fun k hk => ?_, fun k hk => ?_, fun k hk => ?_, fun k hk => ?_, fun k hk => ?_, fun k hk => ?_, fun a b ha hb => ?_⟩
    all_goals (try by_cases e : k = u 9 c)
    all_goals simp (disch := omega) only [xp_s, up_n, up_s, i_T, i_F, m0, m1, m2, m3, m4, m5, m6, m7, m8, m9, n1, n2, n3, n4, n5, n6, n7, n8, n9, nT, if_true, if_false, and_self]
    all_goals rfl
  have h7 : u 0 7 ≤ 8 := by obtain ⟨hB, w0, w3, w7, wN, wk, wg, wc, wd, wo, wv⟩ := w; exact w7
  have h2 := km_owns h' w' (c := c) (by omega)
  obtain ⟨m0, m1, m2, m3, m4, m5, m6, m7, m8, m9, n1, n2, n3, n4, n5, n6, n7, n8, n9, nT⟩ := h
  obtain ⟨hB, w0, w3, w7, wN, wk, wg, wc, wd, wo, wv⟩ := w
  have h9 := wc c hc
  refine ⟨_, ?_, h', fun i hi => xp_n hi⟩
  simp (disch := omega) only [f_X9_claims, xl_s, ob_s, xb_s, rd_n, wr_n, m_1, m_1b, nI_add, pk_mul, l_0, l_1, l_2, l_3, l_4, l_5, l_6, l_7, l_8, l_9, l_10, l_11, l_12, l_13, l_14, l_15, l_16, l_17, l_18, l_19, l_20, l_21, l_22, l_23, l_24, l_30, l_31, l_32, l_40, l_41, l_48, l_57, l_59, l_64, l_90, l_97, l_99, l_100, l_119, l_122, l_186, l_200, l_255, l_600, l_999, l_1488, l_1000000, km_of, n9, h2]
theorem qclaim_0 (hs : qclaim u c = 0) : u 2 (u 9 c) = 0 ∧ qown u c < 4 := by
  unfold qclaim at hs
  by_cases e : u 2 (u 9 c) = 0
  · rw [if_pos e] at hs
    by_cases e2 : qown u c < 4
    · exact ⟨e, e2⟩
    · rw [if_neg e2] at hs; cases hs
  · rw [if_neg e] at hs; cases hs
theorem wf_own (w : WF u) {i v : Nat} (hi : i < u 0 0) (hv : v ≤ u 0 7) (ho : ∀ d, d < u 0 7 → v = d + 1 → u 2 i ≠ d + 1 → qown u d < 4) : WF (up u 2 i v) := by
  have hq := fun d => own_up (u := u) (v := v) hi d
  obtain ⟨hB, w0, w3, w7, wN, wk, wg, wc, wd, wo, wv⟩ := w
  refine ⟨?_, ?_, ?_, ?_, ?_, fun k hk => ?_, fun k hk => ?_, fun k hk => ?_, fun k k2 hk hk2 => ?_, fun k hk => ?_, ?_⟩
  · exact up_B hB (by omega)
  all_goals (try simp (disch := omega) only [up_n, up_s, i_T, i_F, if_true, if_false, and_self] at hk)
  all_goals (try simp (disch := omega) only [up_n, up_s, i_T, i_F, if_true, if_false, and_self] at hk2)
  all_goals (try simp (disch := omega) only [up_n, up_s, i_T, i_F, if_true, if_false, and_self])
  · exact w0
  · exact w3
  · exact w7
  · exact wN
  · have := wk k hk
    by_cases e : k = i
    · simp (disch := omega) only [i_T, if_true, if_false, and_self]; omega
    · simp (disch := omega) only [i_F, if_true, if_false, and_self]; omega
  · exact wg k hk
  · exact wc k hk
  · exact wd k k2 hk hk2
  · have h1 := hq k
    have h2 := wo k hk
    have h3 := ho k hk
    by_cases e1 : v = k + 1
    · by_cases e2 : u 2 i = k + 1
      · rw [if_pos e1, if_pos e2] at h1; omega
      · rw [if_pos e1, if_neg e2] at h1; have := h3 e1 e2; omega
    · rw [if_neg e1] at h1; omega
  · exact wv
theorem wf_take (w : WF u) (hc : c < u 0 7) (hs : qclaim u c = 0) : WF (qtake u c) := by
  obtain ⟨h1, h2⟩ := qclaim_0 hs
  have h9 : u 9 c < u 0 0 := by obtain ⟨hB, w0, w3, w7, wN, wk, wg, wc, wd, wo, wv⟩ := w; exact (wc c hc).2.2.2.2.2
  refine wf_own w h9 (by omega) (fun d hd e _ => ?_)
  rw [show d = c by omega]
  exact h2
theorem wf_rel (w : WF u) (hk : k < u 0 0) : WF (qrel u k) := wf_own w hk (Nat.zero_le _) (fun d _ e => by omega)
/-! one place -/
theorem rc_own (h : RC S u) {i v : Nat} (hi : i < u 0 0) : RC (xput S 2 i (oI v)) (up u 2 i v) := by
  obtain ⟨⟨c0, c3, c7, cN, cG, cA⟩, r1, r2, r3, r4, r5, r6, r7, r8, r9, rT, kw, kg, kb⟩ := h
  simp only [qb] at kb
  refine ⟨⟨?_, ?_, ?_, ?_, ?_, ?_⟩, fun k hk => ?_, fun k hk => ?_, fun k hk => ?_, fun k hk => ?_, fun k hk => ?_, fun k hk => ?_, fun k hk => ?_, fun k hk => ?_, fun k hk => ?_, fun k hk => ?_, ?_, fun hk => ?_, fun k hk => ?_⟩
  all_goals (try simp (disch := omega) only [up_n] at hk)
  all_goals (try by_cases e : k = i)
  all_goals simp (disch := omega) only [qb, xq_n, xp_s, up_n, up_s, i_T, i_F, c0, c3, c7, cN, cG, cA, r1, r2, r3, r4, r5, r6, r7, r8, r9, rT, kw, kg, kb, if_true, if_false, and_self]
  all_goals (first | exact kg hk | rfl)
theorem rc_fish (h : RC S u) {i v : Nat} (hi : i < u 0 7) : RC (xput S 8 i (nI v)) (up u 8 i v) := by
  obtain ⟨⟨c0, c3, c7, cN, cG, cA⟩, r1, r2, r3, r4, r5, r6, r7, r8, r9, rT, kw, kg, kb⟩ := h
  simp only [qb] at kb
  refine ⟨⟨?_, ?_, ?_, ?_, ?_, ?_⟩, fun k hk => ?_, fun k hk => ?_, fun k hk => ?_, fun k hk => ?_, fun k hk => ?_, fun k hk => ?_, fun k hk => ?_, fun k hk => ?_, fun k hk => ?_, fun k hk => ?_, ?_, fun hk => ?_, fun k hk => ?_⟩
  all_goals (try simp (disch := omega) only [up_n] at hk)
  all_goals (try by_cases e : k = i)
  all_goals simp (disch := omega) only [qb, xq_n, xp_s, up_n, up_s, i_T, i_F, c0, c3, c7, cN, cG, cA, r1, r2, r3, r4, r5, r6, r7, r8, r9, rT, kw, kg, kb, if_true, if_false, and_self]
  all_goals (first | exact kg hk | rfl)
theorem rc_seat (h : RC S u) {i v : Nat} (hi : i < u 0 7) : RC (xput S 9 i (nI v)) (up u 9 i v) := by
  obtain ⟨⟨c0, c3, c7, cN, cG, cA⟩, r1, r2, r3, r4, r5, r6, r7, r8, r9, rT, kw, kg, kb⟩ := h
  simp only [qb] at kb
  refine ⟨⟨?_, ?_, ?_, ?_, ?_, ?_⟩, fun k hk => ?_, fun k hk => ?_, fun k hk => ?_, fun k hk => ?_, fun k hk => ?_, fun k hk => ?_, fun k hk => ?_, fun k hk => ?_, fun k hk => ?_, fun k hk => ?_, ?_, fun hk => ?_, fun k hk => ?_⟩
  all_goals (try simp (disch := omega) only [up_n] at hk)
  all_goals (try by_cases e : k = i)
  all_goals simp (disch := omega) only [qb, xq_n, xp_s, up_n, up_s, i_T, i_F, c0, c3, c7, cN, cG, cA, r1, r2, r3, r4, r5, r6, r7, r8, r9, rT, kw, kg, kb, if_true, if_false, and_self]
  all_goals (first | exact kg hk | rfl)
theorem rc_truce (h : RC S u) {i v : Nat} (hi : i < 64) : RC (xput S 10 i (nI v)) (up u 10 i v) := by
  obtain ⟨⟨c0, c3, c7, cN, cG, cA⟩, r1, r2, r3, r4, r5, r6, r7, r8, r9, rT, kw, kg, kb⟩ := h
  simp only [qb] at kb
  refine ⟨⟨?_, ?_, ?_, ?_, ?_, ?_⟩, fun k hk => ?_, fun k hk => ?_, fun k hk => ?_, fun k hk => ?_, fun k hk => ?_, fun k hk => ?_, fun k hk => ?_, fun k hk => ?_, fun k hk => ?_, fun k hk => ?_, ?_, fun hk => ?_, fun k hk => ?_⟩
  all_goals (try simp (disch := omega) only [up_n] at hk)
  all_goals (try by_cases e : k = i)
  all_goals simp (disch := omega) only [qb, xq_n, xp_s, up_n, up_s, i_T, i_F, c0, c3, c7, cN, cG, cA, r1, r2, r3, r4, r5, r6, r7, r8, r9, rT, kw, kg, kb, if_true, if_false, and_self]
  all_goals (first | exact kg hk | rfl)
theorem rm_own (h : RM (T 1) u) {i v : Nat} (hi : i < 10) : RM (xput T 1 (20 + i) (oI v) 1) (up u 2 i v) := by
  obtain ⟨m0, m1, m2, m3, m4, m5, m6, m7, m8, m9, n1, n2, n3, n4, n5, n6, n7, n8, n9, nT⟩ := h
  refine ⟨?_, ?_, ?_, ?_, ?_, ?_, ?_, ?_, ?_, ?_, fun k hk => ?_, fun k hk => ?_, fun k hk => ?_, fun k hk => ?_, fun k hk => ?_, fun k hk => ?_, fun k hk => ?_, fun k hk => ?_, fun k hk => ?_, fun a b ha hb => ?_⟩
  all_goals (try by_cases e : k = i)
  all_goals simp (disch := omega) only [xp_s, up_n, up_s, i_T, i_F, m0, m1, m2, m3, m4, m5, m6, m7, m8, m9, n1, n2, n3, n4, n5, n6, n7, n8, n9, nT, if_true, if_false, and_self]
theorem rm_fish (h : RM (T 1) u) {i v : Nat} (hi : i < 8) : RM (xput T 1 (90 + 4 * i + 2) (nI v) 1) (up u 8 i v) := by
  obtain ⟨m0, m1, m2, m3, m4, m5, m6, m7, m8, m9, n1, n2, n3, n4, n5, n6, n7, n8, n9, nT⟩ := h
  refine ⟨?_, ?_, ?_, ?_, ?_, ?_, ?_, ?_, ?_, ?_, fun k hk => ?_, fun k hk => ?_, fun k hk => ?_, fun k hk => ?_, fun k hk => ?_, fun k hk => ?_, fun k hk => ?_, fun k hk => ?_, fun k hk => ?_, fun a b ha hb => ?_⟩
  all_goals (try by_cases e : k = i)
  all_goals simp (disch := omega) only [xp_s, up_n, up_s, i_T, i_F, m0, m1, m2, m3, m4, m5, m6, m7, m8, m9, n1, n2, n3, n4, n5, n6, n7, n8, n9, nT, if_true, if_false, and_self]
theorem rm_seat (h : RM (T 1) u) {i v : Nat} (hi : i < 8) : RM (xput T 1 (90 + 4 * i + 3) (nI v) 1) (up u 9 i v) := by
  obtain ⟨m0, m1, m2, m3, m4, m5, m6, m7, m8, m9, n1, n2, n3, n4, n5, n6, n7, n8, n9, nT⟩ := h
  refine ⟨?_, ?_, ?_, ?_, ?_, ?_, ?_, ?_, ?_, ?_, fun k hk => ?_, fun k hk => ?_, fun k hk => ?_, fun k hk => ?_, fun k hk => ?_, fun k hk => ?_, fun k hk => ?_, fun k hk => ?_, fun k hk => ?_, fun a b ha hb => ?_⟩
  all_goals (try by_cases e : k = i)
  all_goals simp (disch := omega) only [xp_s, up_n, up_s, i_T, i_F, m0, m1, m2, m3, m4, m5, m6, m7, m8, m9, n1, n2, n3, n4, n5, n6, n7, n8, n9, nT, if_true, if_false, and_self]
theorem rm_truce (h : RM (T 1) u) {i j v : Nat} (hi : i < 8) (hj : j < 8) : RM (xput T 1 (122 + 8 * i + j) (nI v) 1) (up u 10 (i * 8 + j) v) := by
  obtain ⟨m0, m1, m2, m3, m4, m5, m6, m7, m8, m9, n1, n2, n3, n4, n5, n6, n7, n8, n9, nT⟩ := h
  refine ⟨?_, ?_, ?_, ?_, ?_, ?_, ?_, ?_, ?_, ?_, fun k hk => ?_, fun k hk => ?_, fun k hk => ?_, fun k hk => ?_, fun k hk => ?_, fun k hk => ?_, fun k hk => ?_, fun k hk => ?_, fun k hk => ?_, fun a b ha hb => ?_⟩
  rotate_right 1
  · by_cases e : a * 8 + b = i * 8 + j
    · simp (disch := omega) only [xp_s, up_s, i_T, if_true, if_false, and_self]
    · simp (disch := omega) only [xp_s, up_s, i_F, nT, if_true, if_false, and_self]
  all_goals simp (disch := omega) only [xp_s, up_n, i_F, m0, m1, m2, m3, m4, m5, m6, m7, m8, m9, n1, n2, n3, n4, n5, n6, n7, n8, n9, nT, if_true, if_false, and_self]
theorem kc_rel (h : RC S u) (w : WF u) (hk : k < u 0 0) : ∃ S', f_X6_release S (nI k) = some (oI (u 2 k), S') ∧ RC S' (qrel u k) := by
  refine ⟨xput S 2 k (oI 0), ?_, rc_own h hk⟩
  obtain ⟨⟨c0, c3, c7, cN, cG, cA⟩, r1, r2, r3, r4, r5, r6, r7, r8, r9, rT, kw, kg, kb⟩ := h
  obtain ⟨hB, w0, w3, w7, wN, wk, wg, wc, wd, wo, wv⟩ := w
  simp (disch := omega) only [f_X6_release, xl_s, ob_s, xb_s, rd_n, wr_n, m_1, m_1b, nI_add, pk_mul, l_0, l_1, l_2, l_3, l_4, l_5, l_6, l_7, l_8, l_9, l_10, l_11, l_12, l_13, l_14, l_15, l_16, l_17, l_18, l_19, l_20, l_21, l_22, l_23, l_24, l_30, l_31, l_32, l_40, l_41, l_48, l_57, l_59, l_64, l_90, l_97, l_99, l_100, l_119, l_122, l_186, l_200, l_255, l_600, l_999, l_1488, l_1000000, r2]
theorem km_rel (h : RM (T 1) u) (w : WF u) (hk : k < u 0 0) : ∃ T', f_X9_leaves T (nI k) = some (oI (u 2 k), T') ∧ RM (T' 1) (qrel u k) ∧ ∀ i, i ≠ 1 → T' i = T i := by
  have h0 : u 0 0 ≤ 10 := by obtain ⟨hB, w0, w3, w7, wN, wk, wg, wc, wd, wo, wv⟩ := w; exact w0
  have h1 := km_owner h (k := k) (by omega)
  refine ⟨xput T 1 (20 + k) (oI 0), ?_, rm_own h (by omega), fun i hi => xp_n hi⟩
  simp (disch := omega) only [f_X9_leaves, xl_s, ob_s, xb_s, rd_n, wr_n, m_1, m_1b, nI_add, pk_mul, l_0, l_1, l_2, l_3, l_4, l_5, l_6, l_7, l_8, l_9, l_10, l_11, l_12, l_13, l_14, l_15, l_16, l_17, l_18, l_19, l_20, l_21, l_22, l_23, l_24, l_30, l_31, l_32, l_40, l_41, l_48, l_57, l_59, l_64, l_90, l_97, l_99, l_100, l_119, l_122, l_186, l_200, l_255, l_600, l_999, l_1488, l_1000000, h1]
theorem up_same {r i v : Nat} (h : u r i = v) : up u r i v = u := by
  funext a b
  unfold up
  split
  · rename_i e
    split
    · rename_i e2; rw [e, e2, h]
    · rw [e]
  · rfl
theorem qbuy_s {f : Nat} (h : qbuy u a b f = true) : qtl u a b = 0 ∧ f ≤ u 8 a ∧ u 8 b + f ≤ 99 := of_decide_eq_true h
theorem wf_fish (w : WF u) {i v : Nat} (hv : v ≤ 99) : WF (up u 8 i v) := by
  have hq : ∀ d, qown (up u 8 i v) d = qown u d := fun d => by
    unfold qown
    simp (disch := omega) only [up_n]
  obtain ⟨hB, w0, w3, w7, wN, wk, wg, wc, wd, wo, wv⟩ := w
  refine ⟨?_, ?_, ?_, ?_, ?_, fun k hk => ?_, fun k hk => ?_, fun k hk => ?_, fun k k2 hk hk2 => ?_, fun k hk => ?_, ?_⟩
  · exact up_B hB (by omega)
  all_goals (try simp (disch := omega) only [up_n, up_s, i_T, i_F, if_true, if_false, and_self] at hk)
  all_goals (try simp (disch := omega) only [up_n, up_s, i_T, i_F, if_true, if_false, and_self] at hk2)
  all_goals (try rw [hq])
  all_goals (try simp (disch := omega) only [up_n, up_s, i_T, i_F, if_true, if_false, and_self])
  · exact w0
  · exact w3
  · exact w7
  · exact wN
  · exact wk k hk
  · exact wg k hk
  · have := wc k hk
    by_cases e : k = i
    · simp (disch := omega) only [i_T, if_true, if_false, and_self]; omega
    · simp (disch := omega) only [i_F, if_true, if_false, and_self]; omega
  · exact wd k k2 hk hk2
  · exact wo k hk
  · exact wv
theorem wf_truce (w : WF u) {i v : Nat} (hv : v < 1048576) : WF (up u 10 i v) := by
  have hq : ∀ d, qown (up u 10 i v) d = qown u d := fun d => by
    unfold qown
    simp (disch := omega) only [up_n]
  obtain ⟨hB, w0, w3, w7, wN, wk, wg, wc, wd, wo, wv⟩ := w
  refine ⟨?_, ?_, ?_, ?_, ?_, fun k hk => ?_, fun k hk => ?_, fun k hk => ?_, fun k k2 hk hk2 => ?_, fun k hk => ?_, ?_⟩
  · exact up_B hB (by omega)
  all_goals (try simp (disch := omega) only [up_n, up_s, i_T, i_F, if_true, if_false, and_self] at hk)
  all_goals (try simp (disch := omega) only [up_n, up_s, i_T, i_F, if_true, if_false, and_self] at hk2)
  all_goals (try rw [hq])
  all_goals (try simp (disch := omega) only [up_n, up_s, i_T, i_F, if_true, if_false, and_self])
  · exact w0
  · exact w3
  · exact w7
  · exact wN
  · exact wk k hk
  · exact wg k hk
  · exact wc k hk
  · exact wd k k2 hk hk2
  · exact wo k hk
  · exact wv
theorem wf_agree (w : WF u) (ha : a < u 0 7) (hb : b < u 0 7) {f n : Nat} (h : qbuy u a b f = true) (hn : n ≤ 20) : WF (qagree u a b f n) := by
  obtain ⟨-, h1, h2⟩ := qbuy_s h
  have h3 : u 8 a ≤ 99 ∧ u 0 13 ≤ 5000 := by obtain ⟨hB, w0, w3, w7, wN, wk, wg, wc, wd, wo, wv⟩ := w; exact ⟨(wc a ha).2.2.2.2.1, wN⟩
  exact wf_truce (wf_truce (wf_fish (wf_fish w (by omega)) h2) (by omega)) (by omega)
theorem kc_agree (h : RC S u) (w : WF u) (ha : a < u 0 7) (hb : b < u 0 7) (hab : a ≠ b) {f n : Nat} (hf : qbuy u a b f = true) : ∃ S', f_X6_agreeTruce S (nI a) (nI b) (nI f) (nI n) = some (nI (u 0 13 + n), S') ∧ RC S' (qagree u a b f n) := by
  obtain ⟨-, h1, h2⟩ := qbuy_s hf
  have h7 : u 0 7 ≤ 8 ∧ u 8 a ≤ 99 := by obtain ⟨hB, w0, w3, w7, wN, wk, wg, wc, wd, wo, wv⟩ := w; exact ⟨w7, (wc a ha).2.2.2.2.1⟩
  have e1 := rc_fish h (v := u 8 a - f) ha
  have w1 : WF (up u 8 a (u 8 a - f)) := wf_fish w (by omega)
  have e2 := rc_fish e1 (i := b) (v := u 8 b + f) (by simp (disch := omega) only [up_n]; exact hb)
  have w2 := wf_fish w1 (i := b) (v := u 8 b + f) h2
  have h8 : a < 8 ∧ b < 8 := by omega
  have e3 := rc_truce (rc_truce e2 (i := a * 8 + b) (v := u 0 13 + n) (by omega)) (i := b * 8 + a) (v := u 0 13 + n) (by omega)
  obtain ⟨⟨c0, c3, c7, cN, cG, cA⟩, r1, r2, r3, r4, r5, r6, r7, r8, r9, rT, kw, kg, kb⟩ := h
  obtain ⟨hB, w0, w3, w7, wN, wk, wg, wc, wd, wo, wv⟩ := w
  refine ⟨_, ?_, e3⟩
  simp (disch := omega) only [f_X6_agreeTruce, xl_s, ob_s, xb_s, rd_n, wr_n, m_1, m_1b, nI_add, pk_mul, l_0, l_1, l_2, l_3, l_4, l_5, l_6, l_7, l_8, l_9, l_10, l_11, l_12, l_13, l_14, l_15, l_16, l_17, l_18, l_19, l_20, l_21, l_22, l_23, l_24, l_30, l_31, l_32, l_40, l_41, l_48, l_57, l_59, l_64, l_90, l_97, l_99, l_100, l_119, l_122, l_186, l_200, l_255, l_600, l_999, l_1488, l_1000000, r8, cN, xq_n, xp_s, i_F, pk_sub, if_true, if_false, and_self]
theorem km_agree (h : RM (T 1) u) (w : WF u) (ha : a < u 0 7) (hb : b < u 0 7) (hab : a ≠ b) {f n : Nat} (hf : qbuy u a b f = true) : ∃ T', f_X9_buys T (nI a) (nI b) (nI f) (nI n) = some (nI (u 0 13 + n), T') ∧ RM (T' 1) (qagree u a b f n) ∧ ∀ i, i ≠ 1 → T' i = T i := by
  obtain ⟨-, h1, h2⟩ := qbuy_s hf
  have h7 : u 0 7 ≤ 8 := by obtain ⟨hB, w0, w3, w7, wN, wk, wg, wc, wd, wo, wv⟩ := w; exact w7
  have e4 := rm_truce (rm_truce (rm_fish (rm_fish h (v := u 8 a - f) (show a < 8 by omega)) (v := u 8 b + f) (show b < 8 by omega)) (show a < 8 by omega) (show b < 8 by omega) (v := u 0 13 + n)) (show b < 8 by omega) (show a < 8 by omega) (v := u 0 13 + n)
  obtain ⟨m0, m1, m2, m3, m4, m5, m6, m7, m8, m9, n1, n2, n3, n4, n5, n6, n7, n8, n9, nT⟩ := h
  obtain ⟨hB, w0, w3, w7, wN, wk, wg, wc, wd, wo, wv⟩ := w
  refine ⟨_, ?_, e4, fun i hi => by rw [xp_n hi, xp_n hi, xp_n hi, xp_n hi]⟩
  simp (disch := omega) only [f_X9_buys, f_X9_to, xl_s, ob_s, xb_s, rd_n, wr_n, m_1, m_1b, nI_add, pk_mul, l_0, l_1, l_2, l_3, l_4, l_5, l_6, l_7, l_8, l_9, l_10, l_11, l_12, l_13, l_14, l_15, l_16, l_17, l_18, l_19, l_20, l_21, l_22, l_23, l_24, l_30, l_31, l_32, l_40, l_41, l_48, l_57, l_59, l_64, l_90, l_97, l_99, l_100, l_119, l_122, l_186, l_200, l_255, l_600, l_999, l_1488, l_1000000, km_of, n8, m3, xp_s, i_F, pk_sub, if_true, if_false, and_self]
end
