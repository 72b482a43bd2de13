/-! level 2: places, sums, checks -/
theorem le_oI {a b : Nat} (ha : a < 2 ^ 31) (hb : b < 2 ^ 31) : nI a ≤ oI b ↔ a + 1 ≤ b := by
  cases b with
  | zero =>
    rw [Int32.le_iff_toInt_le, nI_toInt ha, show (oI 0).toInt = -1 from by decide]
    omega
  | succ b => rw [show oI (b + 1) = nI b from rfl, nI_leI ha (by omega)]; omega
/-- the warmest of the first k chimneys without a cat, from 1 -/
def qwarm (u : QU) : Nat → Nat
  | 0 => 0
  | k + 1 => if qsit u k = 0 then (if qwarm u k = 0 then k + 1 else if u 1 k ≤ u 1 (qwarm u k - 1) then qwarm u k else k + 1) else qwarm u k
theorem qwarm_le (u : QU) : ∀ k, qwarm u k ≤ k
  | 0 => Nat.le_refl 0
  | k + 1 => by
    have h := qwarm_le u k
    rw [qwarm]
    split
    · split
      · omega
      · split <;> omega
    · omega
theorem qwarm_s (u : QU) {j : Nat} : ∀ {k}, qwarm u k = j + 1 → j < k ∧ qsit u j = 0
  | 0, h => by cases h
  | k + 1, h => by
    have ih := fun h => qwarm_s u (j := j) (k := k) h
    rw [qwarm] at h
    split at h
    · rename_i h0
      split at h
      · obtain rfl : k = j := by omega
        exact ⟨by omega, h0⟩
      · split at h
        · have := ih h; exact ⟨by omega, this.2⟩
        · obtain rfl : k = j := by omega
          exact ⟨by omega, h0⟩
    · have := ih h; exact ⟨by omega, this.2⟩
def qmost (u : QU) (k : Nat) : Nat := if qwarm u k = 0 then 0 else u 1 (qwarm u k - 1) + 1
def qall (u : QU) : Nat := fb_sm (fun c => u 8 c) (u 0 7)
def qgap (u : QU) : Int32 := nI (qall u) - ((nI 5 * nI (u 0 7) + nI (u 20 0)) - nI (u 20 1))
def qabs (x : Int32) : Int32 := if nI 0 ≤ x then x else -x
def qshare (u : QU) (k : Nat) : Nat := fb_ct (fun c => decide (u 9 c = k)) (u 0 7)
section
variable {S T : XS} {u : QU} {a b c d g k : Nat}
theorem kc_warm (h : RC S u) (w : WF u) : f_X6_warmestSeat S = some (oI (qwarm u (u 0 0))) := by
  have hs := fun k (hk : k < 2 ^ 31) => kc_sitter h w hk
  have hl := qsit_le w
  have hq := qwarm_le u
  obtain ⟨⟨c0, c3, c7, cN, cG, cA⟩, r1, r2, r3, r4, r5, r6, r7, r8, r9, rT, kw, kg, kb⟩ := h
  obtain ⟨hB, w0, w3, w7, wN, wk, wg, wc, wd, wo, wv⟩ := w
  have h1 := fun i => hB 1 i (by decide)
  unfold f_X6_warmestSeat
  simp only [l_0, l_1, m_1b]
  refine q_lp (fun n j (m : Int32 × Int32) => f_X6_warmestSeat_L6 (fun v7 v8 v9 => some v7) S n m.1 m.2 (nI j) = some (oI (qwarm u (u 0 0)))) (fun j m => m = (oI (qwarm u j), oI (qmost u j))) (u 0 0) (oI 0, oI 0) (by omega) rfl ?_ ?_
  · intro n m e
    subst e
    simp (disch := omega) only [f_X6_warmestSeat_L6, c0, i_leT]
  · intro n j m hj e ih
    subst e
    have h2 := hl j
    have h3 := hq j
    have h4 := h1 j
    have h5 := h1 (qwarm u j - 1)
    have h6 : qmost u j ≤ u 1 (qwarm u j - 1) + 1 := by unfold qmost; split <;> omega
    simp (disch := omega) only [f_X6_warmestSeat_L6, c0, i_leF, xl_s, ob_s, xb_s, rd_n, wr_n, m_1, m_1b, nI_add, pk_mul, l_0, l_1, l_2, l_3, l_4, l_5, l_6, l_7, l_8, l_9, l_10, l_11, l_12, l_13, l_14, l_15, l_16, l_17, l_18, l_19, l_20, l_21, l_22, l_23, l_24, l_30, l_31, l_32, l_40, l_41, l_48, l_57, l_59, l_64, l_90, l_97, l_99, l_100, l_119, l_122, l_186, l_200, l_255, l_600, l_999, l_1488, l_1000000, r1, hs, oI_eq, le_oI]
    have key : ∀ (x : Int32 × Int32), x = (oI (qwarm u (j + 1)), oI (qmost u (j + 1))) → f_X6_warmestSeat_L6 (fun v7 v8 v9 => some v7) S n x.1 x.2 (nI (j + 1)) = some (oI (qwarm u (u 0 0))) := fun x hx => ih x hx
    by_cases e0 : qsit u j = 0
    · by_cases e1 : qwarm u j = 0
      · have e2 : qwarm u (j + 1) = j + 1 := by rw [qwarm, if_pos e0, if_pos e1]
        rw [if_neg (by rw [qmost, if_pos e1]; omega), if_pos e0]
        exact key (nI j, nI (u 1 j)) (by rw [qmost, e2, if_neg (by omega)]; rfl)
      · by_cases e2 : u 1 j ≤ u 1 (qwarm u j - 1)
        · have e3 : qwarm u (j + 1) = qwarm u j := by rw [qwarm, if_pos e0, if_neg e1, if_pos e2]
          rw [if_pos (by rw [qmost, if_neg e1]; omega)]
          exact key (oI (qwarm u j), oI (qmost u j)) (by rw [qmost, qmost, e3])
        · have e3 : qwarm u (j + 1) = j + 1 := by rw [qwarm, if_pos e0, if_neg e1, if_neg e2]
          rw [if_neg (by rw [qmost, if_neg e1]; omega), if_pos e0]
          exact key (nI j, nI (u 1 j)) (by rw [qmost, e3, if_neg (by omega)]; rfl)
    · have e3 : qwarm u (j + 1) = qwarm u j := by rw [qwarm, if_neg e0]
      have e4 := key (oI (qwarm u j), oI (qmost u j)) (by rw [qmost, qmost, e3])
      by_cases e5 : u 1 j + 1 ≤ qmost u j
      · rw [if_pos e5]; exact e4
      · rw [if_neg e5, if_neg e0]; exact e4
theorem km_warm (h : RM (T 1) u) (w : WF u) : f_X9_warmestPlace T = some (oI (qwarm u (u 0 0))) := by
  have hs := fun k (hk : k < 2 ^ 31) => km_sitter h w hk
  have hl := qsit_le w
  have hq := qwarm_le u
  obtain ⟨m0, m1, m2, m3, m4, m5, m6, m7, m8, m9, n1, n2, n3, n4, n5, n6, n7, n8, n9, nT⟩ := h
  obtain ⟨hB, w0, w3, w7, wN, wk, wg, wc, wd, wo, wv⟩ := w
  unfold f_X9_warmestPlace
  simp only [l_0, l_1, m_1b]
  refine q_lp (fun n j m => f_X9_warmestPlace_L4 (fun v9 v10 => some v9) T n m (nI j) = some (oI (qwarm u (u 0 0)))) (fun j m => m = oI (qwarm u j)) (u 0 0) (oI 0) (by omega) rfl ?_ ?_
  · intro n m e
    subst e
    simp (disch := omega) only [f_X9_warmestPlace_L4, xl_s, ob_s, xb_s, rd_n, wr_n, m_1, m_1b, nI_add, pk_mul, l_0, l_1, l_2, l_3, l_4, l_5, l_6, l_7, l_8, l_9, l_10, l_11, l_12, l_13, l_14, l_15, l_16, l_17, l_18, l_19, l_20, l_21, l_22, l_23, l_24, l_30, l_31, l_32, l_40, l_41, l_48, l_57, l_59, l_64, l_90, l_97, l_99, l_100, l_119, l_122, l_186, l_200, l_255, l_600, l_999, l_1488, l_1000000, m0, i_leT]
  · intro n j m hj e ih
    subst e
    have h2 := hl j
    have h3 := hq j
    simp (disch := omega) only [f_X9_warmestPlace_L4, xl_s, ob_s, xb_s, rd_n, wr_n, m_1, m_1b, nI_add, pk_mul, l_0, l_1, l_2, l_3, l_4, l_5, l_6, l_7, l_8, l_9, l_10, l_11, l_12, l_13, l_14, l_15, l_16, l_17, l_18, l_19, l_20, l_21, l_22, l_23, l_24, l_30, l_31, l_32, l_40, l_41, l_48, l_57, l_59, l_64, l_90, l_97, l_99, l_100, l_119, l_122, l_186, l_200, l_255, l_600, l_999, l_1488, l_1000000, m0, i_leF, hs, oI_eq]
    by_cases e0 : qsit u j = 0
    · rw [if_pos e0]
      by_cases e1 : qwarm u j = 0
      · rw [if_pos e1]
        exact ih _ (by rw [qwarm, if_pos e0, if_pos e1]; rfl)
      · rw [if_neg e1]
        obtain ⟨f, hf⟩ : ∃ f, qwarm u j = f + 1 := ⟨qwarm u j - 1, by omega⟩
        rw [hf, show oI (f + 1) = nI f from rfl]
        simp (disch := omega) only [xl_s, ob_s, xb_s, rd_n, wr_n, m_1, m_1b, nI_add, pk_mul, l_0, l_1, l_2, l_3, l_4, l_5, l_6, l_7, l_8, l_9, l_10, l_11, l_12, l_13, l_14, l_15, l_16, l_17, l_18, l_19, l_20, l_21, l_22, l_23, l_24, l_30, l_31, l_32, l_40, l_41, l_48, l_57, l_59, l_64, l_90, l_97, l_99, l_100, l_119, l_122, l_186, l_200, l_255, l_600, l_999, l_1488, l_1000000, n1, le_uu hB]
        by_cases e2 : u 1 j ≤ u 1 f
        · rw [if_pos e2]
          exact ih _ (by rw [qwarm, if_pos e0, if_neg e1, hf, Nat.add_sub_cancel, if_pos e2]; rfl)
        · rw [if_neg e2]
          exact ih _ (by rw [qwarm, if_pos e0, if_neg e1, hf, Nat.add_sub_cancel, if_neg e2]; rfl)
    · rw [if_neg e0]
      exact ih _ (by rw [qwarm, if_neg e0])
theorem kc_all (h : RC S u) (w : WF u) : f_X6_allFish S = some (nI (qall u)) := by
  obtain ⟨⟨c0, c3, c7, cN, cG, cA⟩, r1, r2, r3, r4, r5, r6, r7, r8, r9, rT, kw, kg, kb⟩ := h
  obtain ⟨hB, w0, w3, w7, wN, wk, wg, wc, wd, wo, wv⟩ := w
  unfold f_X6_allFish
  simp only [l_0]
  refine q_lp (fun n j m => f_X6_allFish_L4 (fun v4 v5 => some v4) S n m (nI j) = some (nI (qall u))) (fun j m => m = nI (fb_sm (fun c => u 8 c) j)) (u 0 7) (nI 0) (by omega) rfl ?_ ?_
  · intro n m e
    subst e
    simp (disch := omega) only [f_X6_allFish_L4, c7, i_leT]
    rfl
  · intro n j m hj e ih
    subst e
    simp (disch := omega) only [f_X6_allFish_L4, c7, i_leF, xl_s, ob_s, xb_s, rd_n, wr_n, m_1, m_1b, nI_add, pk_mul, l_0, l_1, l_2, l_3, l_4, l_5, l_6, l_7, l_8, l_9, l_10, l_11, l_12, l_13, l_14, l_15, l_16, l_17, l_18, l_19, l_20, l_21, l_22, l_23, l_24, l_30, l_31, l_32, l_40, l_41, l_48, l_57, l_59, l_64, l_90, l_97, l_99, l_100, l_119, l_122, l_186, l_200, l_255, l_600, l_999, l_1488, l_1000000, r8]
    exact ih _ (by rw [fb_sm_succ])
theorem km_all (h : RM (T 1) u) (w : WF u) : f_X9_allFish T = some (nI (qall u)) := by
  obtain ⟨m0, m1, m2, m3, m4, m5, m6, m7, m8, m9, n1, n2, n3, n4, n5, n6, n7, n8, n9, nT⟩ := h
  obtain ⟨hB, w0, w3, w7, wN, wk, wg, wc, wd, wo, wv⟩ := w
  unfold f_X9_allFish
  simp only [l_0]
  refine q_lp (fun n j m => f_X9_allFish_L4 (fun v5 v6 => some v5) T n m (nI j) = some (nI (qall u))) (fun j m => m = nI (fb_sm (fun c => u 8 c) j)) (u 0 7) (nI 0) (by omega) rfl ?_ ?_
  · intro n m e
    subst e
    simp (disch := omega) only [f_X9_allFish_L4, xl_s, ob_s, xb_s, rd_n, wr_n, m_1, m_1b, nI_add, pk_mul, l_0, l_1, l_2, l_3, l_4, l_5, l_6, l_7, l_8, l_9, l_10, l_11, l_12, l_13, l_14, l_15, l_16, l_17, l_18, l_19, l_20, l_21, l_22, l_23, l_24, l_30, l_31, l_32, l_40, l_41, l_48, l_57, l_59, l_64, l_90, l_97, l_99, l_100, l_119, l_122, l_186, l_200, l_255, l_600, l_999, l_1488, l_1000000, m2, i_leT]
    rfl
  · intro n j m hj e ih
    subst e
    simp (disch := omega) only [f_X9_allFish_L4, xl_s, ob_s, xb_s, rd_n, wr_n, m_1, m_1b, nI_add, pk_mul, l_0, l_1, l_2, l_3, l_4, l_5, l_6, l_7, l_8, l_9, l_10, l_11, l_12, l_13, l_14, l_15, l_16, l_17, l_18, l_19, l_20, l_21, l_22, l_23, l_24, l_30, l_31, l_32, l_40, l_41, l_48, l_57, l_59, l_64, l_90, l_97, l_99, l_100, l_119, l_122, l_186, l_200, l_255, l_600, l_999, l_1488, l_1000000, m2, i_leF, km_of, n8]
    exact ih _ (by rw [fb_sm_succ])
theorem kc_mismatch (h : RC S u) (w : WF u) : f_X6_fishMismatch S = some (qabs (qgap u)) := by
  have h1 := kc_all h w
  obtain ⟨⟨c0, c3, c7, cN, cG, cA⟩, r1, r2, r3, r4, r5, r6, r7, r8, r9, rT, kw, kg, kb⟩ := h
  simp only [f_X6_fishMismatch, h1, ob_s, c7, cG, cA, l_0, l_5]
  rw [show nI 0 = (0 : Int32) from rfl, qabs, show nI 0 = (0 : Int32) from rfl, qgap, Int32.zero_sub]
theorem qabs_m {x y : Int32} (h : x = y) {α : Type} {f : Int32 → α} : (if nI 0 ≤ x then f x else f (-x)) = f (qabs y) := by
  subst h
  unfold qabs
  split <;> rfl
theorem gap_m (u : QU) : ((nI (qall u) - nI 5 * nI (u 0 7)) - nI (u 20 0)) + nI (u 20 1) = qgap u := by
  rw [qgap]
  generalize nI (qall u) = a
  generalize nI 5 * nI (u 0 7) = b
  generalize nI (u 20 0) = c
  generalize nI (u 20 1) = d
  simp only [Int32.sub_eq_add_neg, Int32.neg_add, Int32.neg_neg]
  ac_rfl
/-- how many chimneys have two -/
theorem kc_shared (h : RC S u) (w : WF u) : f_X6_sharedChimneys S = some (nI (fb_ct (fun k => decide (1 < qshare u k)) (u 0 0))) := by
  obtain ⟨⟨c0, c3, c7, cN, cG, cA⟩, r1, r2, r3, r4, r5, r6, r7, r8, r9, rT, kw, kg, kb⟩ := h
  obtain ⟨hB, w0, w3, w7, wN, wk, wg, wc, wd, wo, wv⟩ := w
  unfold f_X6_sharedChimneys
  simp only [l_0]
  refine q_lp (fun n j m => f_X6_sharedChimneys_L4 (fun v10 v11 => some v10) S n m (nI j) = some (nI (fb_ct (fun k => decide (1 < qshare u k)) (u 0 0)))) (fun j m => m = nI (fb_ct (fun k => decide (1 < qshare u k)) j)) (u 0 0) (nI 0) (by omega) rfl ?_ ?_
  · intro n m e
    subst e
    simp (disch := omega) only [f_X6_sharedChimneys_L4, c0, i_leT]
  · intro n k m hk e ih
    subst e
    simp (disch := omega) only [f_X6_sharedChimneys_L4, c0, i_leF, xl_s, ob_s, xb_s, rd_n, wr_n, m_1, m_1b, nI_add, pk_mul, l_0, l_1, l_2, l_3, l_4, l_5, l_6, l_7, l_8, l_9, l_10, l_11, l_12, l_13, l_14, l_15, l_16, l_17, l_18, l_19, l_20, l_21, l_22, l_23, l_24, l_30, l_31, l_32, l_40, l_41, l_48, l_57, l_59, l_64, l_90, l_97, l_99, l_100, l_119, l_122, l_186, l_200, l_255, l_600, l_999, l_1488, l_1000000]
    refine q_lp (fun n2 j m => f_X6_sharedChimneys_L17 _ S _ (nI k) n2 m (nI j) = _) (fun j m => m = nI (fb_ct (fun c => decide (u 9 c = k)) j)) (u 0 7) (nI 0) (by omega) rfl ?_ ?_
    · intro n2 m e
      subst e
      have hq : fb_ct (fun c => decide (u 9 c = k)) (u 0 7) ≤ 8 := Nat.le_trans (fb_ct_le _ _) w7
      simp (disch := omega) only [f_X6_sharedChimneys_L17, c7, i_leT, xl_s, ob_s, xb_s, rd_n, wr_n, m_1, m_1b, nI_add, pk_mul, l_0, l_1, l_2, l_3, l_4, l_5, l_6, l_7, l_8, l_9, l_10, l_11, l_12, l_13, l_14, l_15, l_16, l_17, l_18, l_19, l_20, l_21, l_22, l_23, l_24, l_30, l_31, l_32, l_40, l_41, l_48, l_57, l_59, l_64, l_90, l_97, l_99, l_100, l_119, l_122, l_186, l_200, l_255, l_600, l_999, l_1488, l_1000000]
      simp (disch := omega) only [nI_leI]
      by_cases e1 : 1 < qshare u k
      · rw [if_neg (show ¬ fb_ct (fun c => decide (u 9 c = k)) (u 0 7) ≤ 1 by unfold qshare at e1; omega)]
        exact ih _ (by rw [fb_ct_succ, decide_eq_true e1]; rfl)
      · rw [if_pos (show fb_ct (fun c => decide (u 9 c = k)) (u 0 7) ≤ 1 by unfold qshare at e1; omega)]
        exact ih _ (by rw [fb_ct_succ, decide_eq_false e1]; rfl)
    · intro n2 j m hj e ih2
      subst e
      simp (disch := omega) only [f_X6_sharedChimneys_L17, c7, i_leF, xl_s, ob_s, xb_s, rd_n, wr_n, m_1, m_1b, nI_add, pk_mul, l_0, l_1, l_2, l_3, l_4, l_5, l_6, l_7, l_8, l_9, l_10, l_11, l_12, l_13, l_14, l_15, l_16, l_17, l_18, l_19, l_20, l_21, l_22, l_23, l_24, l_30, l_31, l_32, l_40, l_41, l_48, l_57, l_59, l_64, l_90, l_97, l_99, l_100, l_119, l_122, l_186, l_200, l_255, l_600, l_999, l_1488, l_1000000, r9, e_u hB]
      by_cases q : u 9 j = k
      · rw [if_pos q]
        exact ih2 _ (by rw [fb_ct_succ, decide_eq_true q]; rfl)
      · rw [if_neg q]
        exact ih2 _ (by rw [fb_ct_succ, decide_eq_false q]; rfl)
theorem km_crowded (h : RM (T 1) u) (w : WF u) (hk : k < 2 ^ 20) : f_X9_isCrowded T (nI k) = some (nB (decide (1 < qshare u k))) := by
  obtain ⟨m0, m1, m2, m3, m4, m5, m6, m7, m8, m9, n1, n2, n3, n4, n5, n6, n7, n8, n9, nT⟩ := h
  obtain ⟨hB, w0, w3, w7, wN, wk, wg, wc, wd, wo, wv⟩ := w
  unfold f_X9_isCrowded
  simp only [l_0]
  refine q_lp (fun n j m => f_X9_isCrowded_L4 _ T (nI k) n m (nI j) = _) (fun j m => m = nI (fb_ct (fun c => decide (u 9 c = k)) j)) (u 0 7) (nI 0) (by omega) rfl ?_ ?_
  · intro n2 m e
    subst e
    have hq : fb_ct (fun c => decide (u 9 c = k)) (u 0 7) ≤ 8 := Nat.le_trans (fb_ct_le _ _) w7
    simp (disch := omega) only [f_X9_isCrowded_L4, m2, i_leT, xl_s, ob_s, xb_s, rd_n, wr_n, m_1, m_1b, nI_add, pk_mul, l_0, l_1, l_2, l_3, l_4, l_5, l_6, l_7, l_8, l_9, l_10, l_11, l_12, l_13, l_14, l_15, l_16, l_17, l_18, l_19, l_20, l_21, l_22, l_23, l_24, l_30, l_31, l_32, l_40, l_41, l_48, l_57, l_59, l_64, l_90, l_97, l_99, l_100, l_119, l_122, l_186, l_200, l_255, l_600, l_999, l_1488, l_1000000]
    simp (disch := omega) only [nI_leI]
    by_cases e1 : 1 < qshare u k
    · rw [if_neg (show ¬ fb_ct (fun c => decide (u 9 c = k)) (u 0 7) ≤ 1 by unfold qshare at e1; omega), decide_eq_true e1]; rfl
    · rw [if_pos (show fb_ct (fun c => decide (u 9 c = k)) (u 0 7) ≤ 1 by unfold qshare at e1; omega), decide_eq_false e1]; rfl
  · intro n2 j m hj e ih2
    subst e
    simp (disch := omega) only [f_X9_isCrowded_L4, m2, i_leF, xl_s, ob_s, xb_s, rd_n, wr_n, m_1, m_1b, nI_add, pk_mul, l_0, l_1, l_2, l_3, l_4, l_5, l_6, l_7, l_8, l_9, l_10, l_11, l_12, l_13, l_14, l_15, l_16, l_17, l_18, l_19, l_20, l_21, l_22, l_23, l_24, l_30, l_31, l_32, l_40, l_41, l_48, l_57, l_59, l_64, l_90, l_97, l_99, l_100, l_119, l_122, l_186, l_200, l_255, l_600, l_999, l_1488, l_1000000, km_of, n9, e_u hB]
    by_cases q : u 9 j = k
    · rw [if_pos q]
      exact ih2 _ (by rw [fb_ct_succ, decide_eq_true q]; rfl)
    · rw [if_neg q]
      exact ih2 _ (by rw [fb_ct_succ, decide_eq_false q]; rfl)
/-- nobody is broken in a sound roof -/
theorem kc_broken (h : RC S u) (w : WF u) : f_X6_brokenCats S = some (nI 0) := by
  have he := fun c (hc : c < 8) => kc_estate h w hc
  have hb := qest_b w
  have hq := qown_le w
  obtain ⟨⟨c0, c3, c7, cN, cG, cA⟩, r1, r2, r3, r4, r5, r6, r7, r8, r9, rT, kw, kg, kb⟩ := h
  obtain ⟨hB, w0, w3, w7, wN, wk, wg, wc, wd, wo, wv⟩ := w
  unfold f_X6_brokenCats
  simp only [l_0]
  refine q_lp (fun n j m => f_X6_brokenCats_L4 (fun v18 v19 => some v18) S n m (nI j) = some (nI 0)) (fun j m => m = nI 0) (u 0 7) (nI 0) (by omega) rfl ?_ ?_
  · intro n m e
    subst e
    simp (disch := omega) only [f_X6_brokenCats_L4, c7, i_leT]
  · intro n j m hj e ih
    subst e
    have h1 := wo j hj
    have h2 := wc j hj
    simp (disch := omega) only [f_X6_brokenCats_L4, c7, i_leF, xl_s, ob_s, xb_s, rd_n, wr_n, m_1, m_1b, nI_add, pk_mul, l_0, l_1, l_2, l_3, l_4, l_5, l_6, l_7, l_8, l_9, l_10, l_11, l_12, l_13, l_14, l_15, l_16, l_17, l_18, l_19, l_20, l_21, l_22, l_23, l_24, l_30, l_31, l_32, l_40, l_41, l_48, l_57, l_59, l_64, l_90, l_97, l_99, l_100, l_119, l_122, l_186, l_200, l_255, l_600, l_999, l_1488, l_1000000, he, hb, i_leT, i_ltF, r8]
    exact ih _ rfl
theorem km_in {v : Nat} {lo hi : Nat} (h1 : lo ≤ v) (h2 : v ≤ hi) (h3 : hi < 2 ^ 31) : f_X9_in (nI v) (nI lo) (nI hi) = some (nB true) := by
  simp (disch := omega) only [f_X9_in, xl_s, ob_s, xb_s, rd_n, wr_n, m_1, m_1b, nI_add, pk_mul, l_0, l_1, l_2, l_3, l_4, l_5, l_6, l_7, l_8, l_9, l_10, l_11, l_12, l_13, l_14, l_15, l_16, l_17, l_18, l_19, l_20, l_21, l_22, l_23, l_24, l_30, l_31, l_32, l_40, l_41, l_48, l_57, l_59, l_64, l_90, l_97, l_99, l_100, l_119, l_122, l_186, l_200, l_255, l_600, l_999, l_1488, l_1000000, i_ltF]
  rfl
theorem km_viol1 (h : RM (T 1) u) (w : WF u) (x y : Int32) {K : Int32 → Int32 → Option (Int32 × XS)} {r : Option (Int32 × XS)} (hK : K (x + nI (fb_ct (fun k => decide (1 < qshare u k)) (u 0 0))) (nI (u 0 0)) = r) : f_X9_violations_L48 K T y FU x (nI 0) = r := by
  have hc := fun k (hk : k < 2 ^ 20) => km_crowded h w hk
  obtain ⟨m0, m1, m2, m3, m4, m5, m6, m7, m8, m9, n1, n2, n3, n4, n5, n6, n7, n8, n9, nT⟩ := h
  obtain ⟨hB, w0, w3, w7, wN, wk, wg, wc, wd, wo, wv⟩ := w
  refine q_lp (fun n j m => f_X9_violations_L48 K T y n m (nI j) = r) (fun j m => m = x + nI (fb_ct (fun k => decide (1 < qshare u k)) j)) (u 0 0) x (by omega) (Int32.add_zero x).symm ?_ ?_
  · intro n m e
    subst e
    simp (disch := omega) only [f_X9_violations_L48, xl_s, ob_s, xb_s, rd_n, wr_n, m_1, m_1b, nI_add, pk_mul, l_0, l_1, l_2, l_3, l_4, l_5, l_6, l_7, l_8, l_9, l_10, l_11, l_12, l_13, l_14, l_15, l_16, l_17, l_18, l_19, l_20, l_21, l_22, l_23, l_24, l_30, l_31, l_32, l_40, l_41, l_48, l_57, l_59, l_64, l_90, l_97, l_99, l_100, l_119, l_122, l_186, l_200, l_255, l_600, l_999, l_1488, l_1000000, m0, i_leT, hK]
  · intro n k m hk e ih
    subst e
    simp (disch := omega) only [f_X9_violations_L48, xl_s, ob_s, xb_s, rd_n, wr_n, m_1, m_1b, nI_add, pk_mul, l_0, l_1, l_2, l_3, l_4, l_5, l_6, l_7, l_8, l_9, l_10, l_11, l_12, l_13, l_14, l_15, l_16, l_17, l_18, l_19, l_20, l_21, l_22, l_23, l_24, l_30, l_31, l_32, l_40, l_41, l_48, l_57, l_59, l_64, l_90, l_97, l_99, l_100, l_119, l_122, l_186, l_200, l_255, l_600, l_999, l_1488, l_1000000, m0, i_leF, hc, nB_0]
    by_cases e1 : 1 < qshare u k
    · rw [decide_eq_true e1, if_neg (by decide)]
      exact ih _ (by rw [fb_ct_succ, decide_eq_true e1, Int32.add_assoc, nI_add]; rfl)
    · rw [decide_eq_false e1, if_pos rfl]
      exact ih _ (by rw [fb_ct_succ, decide_eq_false e1, Int32.add_assoc, nI_add]; rfl)
theorem km_viol2 (h : RM (T 1) u) (w : WF u) (x y : Int32) {K : Int32 → Int32 → Option (Int32 × XS)} {r : Option (Int32 × XS)} (hK : K x (nI (u 0 7)) = r) : f_X9_violations_L82 K T y FU x (nI 0) = r := by
  have ho := fun c (hc : c < 8) => km_owns h w hc
  obtain ⟨m0, m1, m2, m3, m4, m5, m6, m7, m8, m9, n1, n2, n3, n4, n5, n6, n7, n8, n9, nT⟩ := h
  obtain ⟨hB, w0, w3, w7, wN, wk, wg, wc, wd, wo, wv⟩ := w
  refine q_lp (fun n j m => f_X9_violations_L82 K T y n m (nI j) = r) (fun j m => m = x) (u 0 7) x (by omega) rfl ?_ ?_
  · intro n m e
    subst e
    simp (disch := omega) only [f_X9_violations_L82, xl_s, ob_s, xb_s, rd_n, wr_n, m_1, m_1b, nI_add, pk_mul, l_0, l_1, l_2, l_3, l_4, l_5, l_6, l_7, l_8, l_9, l_10, l_11, l_12, l_13, l_14, l_15, l_16, l_17, l_18, l_19, l_20, l_21, l_22, l_23, l_24, l_30, l_31, l_32, l_40, l_41, l_48, l_57, l_59, l_64, l_90, l_97, l_99, l_100, l_119, l_122, l_186, l_200, l_255, l_600, l_999, l_1488, l_1000000, m2, i_leT, hK]
  · intro n k m hk e ih
    subst e
    have h1 := wo k hk
    have h2 := wc k hk
    simp (disch := omega) only [f_X9_violations_L82, xl_s, ob_s, xb_s, rd_n, wr_n, m_1, m_1b, nI_add, pk_mul, l_0, l_1, l_2, l_3, l_4, l_5, l_6, l_7, l_8, l_9, l_10, l_11, l_12, l_13, l_14, l_15, l_16, l_17, l_18, l_19, l_20, l_21, l_22, l_23, l_24, l_30, l_31, l_32, l_40, l_41, l_48, l_57, l_59, l_64, l_90, l_97, l_99, l_100, l_119, l_122, l_186, l_200, l_255, l_600, l_999, l_1488, l_1000000, m2, i_leF, ho, i_leT, km_of, n8, km_in, nB_0]
    rw [if_neg (by decide)]
    exact ih _ (by rw [show nI 0 = (0 : Int32) from rfl, Int32.add_zero, Int32.add_zero])
theorem kc_votes (h : RC S u) {v : Nat} (hv : v < 3) : f_X3_votes (xs 11 S) (nI v) = some (nI (fb_ct (fun c => decide (qb u c = v)) 8)) := by
  have hq : ∀ c, qb u c < 3 := fun c => by unfold qb; split <;> (try split) <;> decide
  obtain ⟨⟨c0, c3, c7, cN, cG, cA⟩, r1, r2, r3, r4, r5, r6, r7, r8, r9, rT, kw, kg, kb⟩ := h
  unfold f_X3_votes
  simp only [l_0]
  refine q_lp (fun n j m => f_X3_votes_L4 (fun v5 v6 => some v5) (xs 11 S) (nI v) n m (nI j) = _) (fun j m => m = nI (fb_ct (fun c => decide (qb u c = v)) j)) 8 (nI 0) (by omega) rfl ?_ ?_
  · intro n m e
    subst e
    simp (disch := omega) only [f_X3_votes_L4, xl_s, ob_s, xb_s, rd_n, wr_n, m_1, m_1b, nI_add, pk_mul, l_0, l_1, l_2, l_3, l_4, l_5, l_6, l_7, l_8, l_9, l_10, l_11, l_12, l_13, l_14, l_15, l_16, l_17, l_18, l_19, l_20, l_21, l_22, l_23, l_24, l_30, l_31, l_32, l_40, l_41, l_48, l_57, l_59, l_64, l_90, l_97, l_99, l_100, l_119, l_122, l_186, l_200, l_255, l_600, l_999, l_1488, l_1000000, i_leT]
  · intro n j m hj e ih
    subst e
    have h1 := hq j
    have h2 : xs 11 S 1 j = nI (qb u j) := kb j hj
    simp (disch := omega) only [f_X3_votes_L4, xl_s, ob_s, xb_s, rd_n, wr_n, m_1, m_1b, nI_add, pk_mul, l_0, l_1, l_2, l_3, l_4, l_5, l_6, l_7, l_8, l_9, l_10, l_11, l_12, l_13, l_14, l_15, l_16, l_17, l_18, l_19, l_20, l_21, l_22, l_23, l_24, l_30, l_31, l_32, l_40, l_41, l_48, l_57, l_59, l_64, l_90, l_97, l_99, l_100, l_119, l_122, l_186, l_200, l_255, l_600, l_999, l_1488, l_1000000, i_leF, h2, nI_eq]
    by_cases q : qb u j = v
    · rw [if_pos q]
      exact ih _ (by rw [fb_ct_succ, decide_eq_true q]; rfl)
    · rw [if_neg q]
      exact ih _ (by rw [fb_ct_succ, decide_eq_false q]; rfl)
theorem kc_refCat (h : RC S u) (w : WF u) (hk : k < 2 ^ 31) : f_X6_refusesCat S (nI k) = some (nB (!decide (u 0 7 < 8 ∧ qsit u k = 0))) := by
  have h1 := kc_sitter h w hk
  have h2 := qsit_le w k
  obtain ⟨⟨c0, c3, c7, cN, cG, cA⟩, r1, r2, r3, r4, r5, r6, r7, r8, r9, rT, kw, kg, kb⟩ := h
  obtain ⟨hB, w0, w3, w7, wN, wk, wg, wc, wd, wo, wv⟩ := w
  simp (disch := omega) only [f_X6_refusesCat, xl_s, ob_s, xb_s, rd_n, wr_n, m_1, m_1b, nI_add, pk_mul, l_0, l_1, l_2, l_3, l_4, l_5, l_6, l_7, l_8, l_9, l_10, l_11, l_12, l_13, l_14, l_15, l_16, l_17, l_18, l_19, l_20, l_21, l_22, l_23, l_24, l_30, l_31, l_32, l_40, l_41, l_48, l_57, l_59, l_64, l_90, l_97, l_99, l_100, l_119, l_122, l_186, l_200, l_255, l_600, l_999, l_1488, l_1000000, c7, h1, oI_eq, ge_u hB]
  by_cases e : 8 ≤ u 0 7
  · rw [if_pos e, decide_eq_false (fun q => by omega)]; rfl
  · rw [if_neg e, i_Bn]
    congr 3
    by_cases e2 : qsit u k = 0
    · rw [decide_eq_true e2, decide_eq_true ⟨by omega, e2⟩]
    · rw [decide_eq_false e2, decide_eq_false (fun q => e2 q.2)]
theorem km_canEnter (h : RM (T 1) u) (w : WF u) (hk : k < 2 ^ 31) : f_X9_canEnter T (nI k) = some (nB (decide (u 0 7 < 8 ∧ qsit u k = 0))) := by
  have h1 := km_sitter h w hk
  have h2 := qsit_le w k
  obtain ⟨m0, m1, m2, m3, m4, m5, m6, m7, m8, m9, n1, n2, n3, n4, n5, n6, n7, n8, n9, nT⟩ := h
  obtain ⟨hB, w0, w3, w7, wN, wk, wg, wc, wd, wo, wv⟩ := w
  simp (disch := omega) only [f_X9_canEnter, xl_s, ob_s, xb_s, rd_n, wr_n, m_1, m_1b, nI_add, pk_mul, l_0, l_1, l_2, l_3, l_4, l_5, l_6, l_7, l_8, l_9, l_10, l_11, l_12, l_13, l_14, l_15, l_16, l_17, l_18, l_19, l_20, l_21, l_22, l_23, l_24, l_30, l_31, l_32, l_40, l_41, l_48, l_57, l_59, l_64, l_90, l_97, l_99, l_100, l_119, l_122, l_186, l_200, l_255, l_600, l_999, l_1488, l_1000000, m2, h1, oI_eq, ge_u hB]
  by_cases e : 8 ≤ u 0 7
  · rw [if_pos e, decide_eq_false (fun q => by omega)]; rfl
  · rw [if_neg e, i_B]
    congr 2
    by_cases e2 : qsit u k = 0
    · rw [decide_eq_true e2, decide_eq_true ⟨by omega, e2⟩]
    · rw [decide_eq_false e2, decide_eq_false (fun q => e2 q.2)]
def qbuy (u : QU) (a b f : Nat) : Bool := decide (qtl u a b = 0 ∧ f ≤ u 8 a ∧ u 8 b + f ≤ 99)
theorem kc_refTruce (h : RC S u) (w : WF u) (ha : a < u 0 7) (hb : b < u 0 7) {f : Nat} (hf : f < 100) : f_X6_refusesTruce S (nI a) (nI b) (nI f) = some (nB (!qbuy u a b f)) := by
  have h0 : u 0 7 ≤ 8 := by obtain ⟨hB, w0, w3, w7, wN, wk, wg, wc, wd, wo, wv⟩ := w; exact w7
  have h1 := kc_truce h w (a := a) (b := b) (by omega) (by omega)
  have h2 := qtl_lt w a b
  obtain ⟨⟨c0, c3, c7, cN, cG, cA⟩, r1, r2, r3, r4, r5, r6, r7, r8, r9, rT, kw, kg, kb⟩ := h
  obtain ⟨hB, w0, w3, w7, wN, wk, wg, wc, wd, wo, wv⟩ := w
  have h3 := wc a ha
  have h4 := wc b hb
  simp (disch := omega) only [f_X6_refusesTruce, xl_s, ob_s, xb_s, rd_n, wr_n, m_1, m_1b, nI_add, pk_mul, l_0, l_1, l_2, l_3, l_4, l_5, l_6, l_7, l_8, l_9, l_10, l_11, l_12, l_13, l_14, l_15, l_16, l_17, l_18, l_19, l_20, l_21, l_22, l_23, l_24, l_30, l_31, l_32, l_40, l_41, l_48, l_57, l_59, l_64, l_90, l_97, l_99, l_100, l_119, l_122, l_186, l_200, l_255, l_600, l_999, l_1488, l_1000000, h1, r8, nI_ltI, nI_leI]
  unfold qbuy
  by_cases e1 : 0 < qtl u a b
  · rw [if_pos e1, decide_eq_false (fun q => by omega)]; rfl
  · rw [if_neg e1]
    by_cases e2 : u 8 a < f
    · rw [if_pos e2, decide_eq_false (fun q => by omega)]; rfl
    · rw [if_neg e2]
      by_cases e3 : u 8 b + f ≤ 99
      · rw [if_pos e3, decide_eq_true ⟨by omega, by omega, e3⟩]; rfl
      · rw [if_neg e3, decide_eq_false (fun q => e3 q.2.2)]; rfl
theorem km_canBuy (h : RM (T 1) u) (w : WF u) (ha : a < u 0 7) (hb : b < u 0 7) {f : Nat} (hf : f < 100) : f_X9_canBuy T (nI a) (nI b) (nI f) = some (nB (qbuy u a b f)) := by
  have h0 : u 0 7 ≤ 8 := by obtain ⟨hB, w0, w3, w7, wN, wk, wg, wc, wd, wo, wv⟩ := w; exact w7
  have h1 := km_truce h w (a := a) (b := b) (by omega) (by omega)
  have h2 := qtl_lt w a b
  obtain ⟨m0, m1, m2, m3, m4, m5, m6, m7, m8, m9, n1, n2, n3, n4, n5, n6, n7, n8, n9, nT⟩ := h
  obtain ⟨hB, w0, w3, w7, wN, wk, wg, wc, wd, wo, wv⟩ := w
  have h3 := wc a ha
  have h4 := wc b hb
  simp (disch := omega) only [f_X9_canBuy, xl_s, ob_s, xb_s, rd_n, wr_n, m_1, m_1b, nI_add, pk_mul, l_0, l_1, l_2, l_3, l_4, l_5, l_6, l_7, l_8, l_9, l_10, l_11, l_12, l_13, l_14, l_15, l_16, l_17, l_18, l_19, l_20, l_21, l_22, l_23, l_24, l_30, l_31, l_32, l_40, l_41, l_48, l_57, l_59, l_64, l_90, l_97, l_99, l_100, l_119, l_122, l_186, l_200, l_255, l_600, l_999, l_1488, l_1000000, h1, km_of, n8, nI_ltI, nI_eq]
  unfold qbuy
  by_cases e1 : qtl u a b = 0
  · rw [if_pos e1]
    by_cases e2 : u 8 a < f
    · rw [if_pos e2, decide_eq_false (fun q => by omega)]; rfl
    · rw [if_neg e2]
      by_cases e3 : u 8 b + f ≤ 99
      · rw [if_neg (by omega), decide_eq_true ⟨by omega, by omega, e3⟩]; rfl
      · rw [if_pos (by omega), decide_eq_false (fun q => e3 q.2.2)]; rfl
  · rw [if_neg e1, decide_eq_false (fun q => e1 q.1)]; rfl
def qnom (u : QU) : Bool := decide (u 11 0 = 0 ∧ u 0 7 ≠ 0 ∧ u 0 7 < 8)
theorem kc_refKitten (h : RC S u) (w : WF u) : f_X6_refusesKitten S = some (nB (!qnom u)) := by
  obtain ⟨⟨c0, c3, c7, cN, cG, cA⟩, r1, r2, r3, r4, r5, r6, r7, r8, r9, rT, kw, kg, kb⟩ := h
  obtain ⟨hB, w0, w3, w7, wN, wk, wg, wc, wd, wo, wv⟩ := w
  simp (disch := omega) only [f_X6_refusesKitten, xl_s, ob_s, xb_s, rd_n, wr_n, m_1, m_1b, nI_add, pk_mul, l_0, l_1, l_2, l_3, l_4, l_5, l_6, l_7, l_8, l_9, l_10, l_11, l_12, l_13, l_14, l_15, l_16, l_17, l_18, l_19, l_20, l_21, l_22, l_23, l_24, l_30, l_31, l_32, l_40, l_41, l_48, l_57, l_59, l_64, l_90, l_97, l_99, l_100, l_119, l_122, l_186, l_200, l_255, l_600, l_999, l_1488, l_1000000, kw, c7, e_u hB, lt_u hB]
  unfold qnom
  by_cases e1 : u 11 0 = 0
  · rw [if_pos e1, if_pos rfl]
    by_cases e2 : u 0 7 = 0
    · rw [if_pos e2, decide_eq_false (fun q => q.2.1 e2)]; rfl
    · rw [if_neg e2]
      by_cases e3 : u 0 7 < 8
      · rw [if_pos e3, decide_eq_true ⟨e1, e2, e3⟩]; rfl
      · rw [if_neg e3, decide_eq_false (fun q => e3 q.2.2)]; rfl
  · rw [if_neg e1, if_neg (by decide), decide_eq_false (fun q => e1 q.1)]; rfl
theorem km_waits (h : RM (T 1) u) (w : WF u) : f_X9_waits T = some (nB (decide (u 11 0 ≠ 0))) := by
  obtain ⟨m0, m1, m2, m3, m4, m5, m6, m7, m8, m9, n1, n2, n3, n4, n5, n6, n7, n8, n9, nT⟩ := h
  obtain ⟨hB, w0, w3, w7, wN, wk, wg, wc, wd, wo, wv⟩ := w
  simp (disch := omega) only [f_X9_waits, xl_s, ob_s, xb_s, rd_n, wr_n, m_1, m_1b, nI_add, pk_mul, l_0, l_1, l_2, l_3, l_4, l_5, l_6, l_7, l_8, l_9, l_10, l_11, l_12, l_13, l_14, l_15, l_16, l_17, l_18, l_19, l_20, l_21, l_22, l_23, l_24, l_30, l_31, l_32, l_40, l_41, l_48, l_57, l_59, l_64, l_90, l_97, l_99, l_100, l_119, l_122, l_186, l_200, l_255, l_600, l_999, l_1488, l_1000000, m4, le_u hB, i_Bn]
  congr 2
  by_cases e : u 11 0 = 0
  · rw [decide_eq_true (by omega), decide_eq_false (fun q => q e)]; rfl
  · rw [decide_eq_false (by omega), decide_eq_true e]; rfl
theorem km_canNom (h : RM (T 1) u) (w : WF u) : f_X9_canNominate T = some (nB (qnom u)) := by
  have h1 := km_waits h w
  obtain ⟨m0, m1, m2, m3, m4, m5, m6, m7, m8, m9, n1, n2, n3, n4, n5, n6, n7, n8, n9, nT⟩ := h
  obtain ⟨hB, w0, w3, w7, wN, wk, wg, wc, wd, wo, wv⟩ := w
  simp (disch := omega) only [f_X9_canNominate, h1, xl_s, ob_s, xb_s, rd_n, wr_n, m_1, m_1b, nI_add, pk_mul, l_0, l_1, l_2, l_3, l_4, l_5, l_6, l_7, l_8, l_9, l_10, l_11, l_12, l_13, l_14, l_15, l_16, l_17, l_18, l_19, l_20, l_21, l_22, l_23, l_24, l_30, l_31, l_32, l_40, l_41, l_48, l_57, l_59, l_64, l_90, l_97, l_99, l_100, l_119, l_122, l_186, l_200, l_255, l_600, l_999, l_1488, l_1000000, m2, nB_0, le_u hB, ge_u hB]
  unfold qnom
  by_cases e1 : u 11 0 = 0
  · rw [decide_eq_false (fun q => q e1), if_pos rfl]
    by_cases e2 : u 0 7 = 0
    · rw [if_pos (by omega), decide_eq_false (fun q => q.2.1 e2)]; rfl
    · rw [if_neg (by omega)]
      by_cases e3 : u 0 7 < 8
      · rw [if_neg (by omega), decide_eq_true ⟨e1, e2, e3⟩]; rfl
      · rw [if_pos (by omega), decide_eq_false (fun q => e3 q.2.2)]; rfl
  · rw [decide_eq_true e1, if_neg (by decide), decide_eq_false (fun q => e1 q.1)]; rfl
def qvot (u : QU) (c : Nat) : Bool := decide (u 11 0 ≠ 0 ∧ (u 12 0).testBit c = false)
theorem kc_refVote (h : RC S u) (w : WF u) (hc : c < 8) : f_X6_refusesVote S (nI c) = some (nB (!qvot u c)) := by
  obtain ⟨⟨c0, c3, c7, cN, cG, cA⟩, r1, r2, r3, r4, r5, r6, r7, r8, r9, rT, kw, kg, kb⟩ := h
  obtain ⟨hB, w0, w3, w7, wN, wk, wg, wc, wd, wo, wv⟩ := w
  have h1 := kb c hc
  simp (disch := omega) only [f_X6_refusesVote, xl_s, ob_s, xb_s, rd_n, wr_n, m_1, m_1b, nI_add, pk_mul, l_0, l_1, l_2, l_3, l_4, l_5, l_6, l_7, l_8, l_9, l_10, l_11, l_12, l_13, l_14, l_15, l_16, l_17, l_18, l_19, l_20, l_21, l_22, l_23, l_24, l_30, l_31, l_32, l_40, l_41, l_48, l_57, l_59, l_64, l_90, l_97, l_99, l_100, l_119, l_122, l_186, l_200, l_255, l_600, l_999, l_1488, l_1000000, kw, h1]
  unfold qvot
  by_cases e1 : u 11 0 = 0
  · rw [if_pos e1, if_pos rfl, decide_eq_false (fun q => q.1 e1)]; rfl
  · rw [if_neg e1, if_neg (by decide)]
    cases e2 : (u 12 0).testBit c
    · rw [decide_eq_true ⟨e1, rfl⟩, qb, e2]; rfl
    · rw [decide_eq_false (fun q => by cases q.2), qb, e2]
      cases (u 12 1).testBit c <;> rfl
theorem m12 (w : WF u) : u 12 0 < 256 ∧ u 12 1 < 256 := by
  obtain ⟨hB, w0, w3, w7, wN, wk, wg, wc, wd, wo, wv⟩ := w
  have h1 : u 12 0 < 256 := lt_p2 (n := 8) wv.2.2.2.1 w7
  refine ⟨h1, Nat.lt_pow_two_of_testBit (n := 8) _ (fun i hi => ?_)⟩
  cases e : (u 12 1).testBit i
  · rfl
  · have h2 := bit_lt (n := 8) h1 (wv.2.2.2.2.1 i e)
    omega
theorem km_canVote (h : RM (T 1) u) (w : WF u) (hc : c < 8) : f_X9_canVote T (nI c) = some (nB (qvot u c)) := by
  have h1 := km_waits h w
  have h2 := (m12 w).1
  obtain ⟨m0, m1, m2, m3, m4, m5, m6, m7, m8, m9, n1, n2, n3, n4, n5, n6, n7, n8, n9, nT⟩ := h
  simp (disch := omega) only [f_X9_canVote, h1, xl_s, ob_s, xb_s, rd_n, wr_n, m_1, m_1b, nI_add, pk_mul, l_0, l_1, l_2, l_3, l_4, l_5, l_6, l_7, l_8, l_9, l_10, l_11, l_12, l_13, l_14, l_15, l_16, l_17, l_18, l_19, l_20, l_21, l_22, l_23, l_24, l_30, l_31, l_32, l_40, l_41, l_48, l_57, l_59, l_64, l_90, l_97, l_99, l_100, l_119, l_122, l_186, l_200, l_255, l_600, l_999, l_1488, l_1000000, m6, nB_0, bt_n]
  unfold qvot
  by_cases e1 : u 11 0 = 0
  · rw [decide_eq_false (fun q => q e1), if_pos rfl, decide_eq_false (fun q => q.1 e1)]; rfl
  · rw [decide_eq_true e1, if_neg (by decide)]
    cases e2 : (u 12 0).testBit c
    · rw [decide_eq_true ⟨e1, rfl⟩]; rfl
    · rw [decide_eq_false (fun q => by cases q.2)]; rfl
end
