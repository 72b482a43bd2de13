/-! level 2: what is asked of one roof without a walk: both sides -/
theorem i_B {P : Prop} {i : Decidable P} : (@ite _ P i (some (nI 1)) (some (nI 0))) = some (nB (@decide P i)) := by
  by_cases h : P
  · rw [if_pos h, decide_eq_true h]; rfl
  · rw [if_neg h, decide_eq_false h]; rfl
theorem i_Bn {P : Prop} {i : Decidable P} : (@ite _ P i (some (nI 0)) (some (nI 1))) = some (nB (!@decide P i)) := by
  by_cases h : P
  · rw [if_pos h, decide_eq_true h]; rfl
  · rw [if_neg h, decide_eq_false h]; rfl
theorem p_i {P : Prop} {i : Decidable P} {a b : Nat} : (@ite _ P i (some (nI a)) (some (nI b))) = some (nI (@ite _ P i a b)) := by
  by_cases h : P
  · rw [if_pos h, if_pos h]
  · rw [if_neg h, if_neg h]
def qhome (u : QU) (c : Nat) : Bool := decide (u 2 (u 9 c) = c + 1)
def qpow (u : QU) (c : Nat) : Nat := if qhome u c = false then u 7 c else u 7 c + 2
def qest (u : QU) (c : Nat) : Nat := qm (fun k => decide (u 2 k = c + 1)) (u 0 0)
def qtl (u : QU) (a b : Nat) : Nat := u 10 (a * 8 + b) - u 0 13
def qbar (u : QU) (c k : Nat) : Bool := decide (u 2 k ≠ 0 ∧ u 2 k ≠ c + 1 ∧ qtl u c (u 2 k - 1) = 0)
def qfar (u : QU) (c g : Nat) : Nat := if u 3 g = u 9 c then u 4 g else u 3 g
def qstep (u : QU) (c g : Nat) : Nat := if u 3 g = u 9 c ∨ u 4 g = u 9 c then (if u 6 c ≤ u 5 g then (if qsit u (qfar u c g) = 0 then (if qbar u c (qfar u c g) = false then 0 else 4) else 3) else 2) else 1
def qclaim (u : QU) (c : Nat) : Nat := if u 2 (u 9 c) = 0 then (if qown u c < 4 then 0 else 6) else 5
def qjoin (u : QU) (g a b : Nat) : Bool := decide (u 3 g = a ∧ u 4 g = b ∨ u 3 g = b ∧ u 4 g = a)
def qnear (u : QU) (a b : Nat) : Bool := decide (qf (fun g => qjoin u g (u 9 a) (u 9 b) && decide (u 6 a ≤ u 5 g)) (u 0 3) ≠ 0)
def qchase (u : QU) (a b : Nat) : Nat := if qnear u a b = false then 7 else if 0 < qtl u a b then 8 else if qpow u a ≤ qpow u b then 9 else 0
theorem qown_le {u : QU} (w : WF u) (c : Nat) : qown u c ≤ 10 := by
  obtain ⟨hB, w0, w3, w7, wN, wk, wg, wc, wd, wo, wv⟩ := w
  exact Nat.le_trans (fb_ct_le _ _) w0
theorem qest_lt {u : QU} (w : WF u) (c : Nat) : qest u c < 1024 := by
  obtain ⟨hB, w0, w3, w7, wN, wk, wg, wc, wd, wo, wv⟩ := w
  exact lt_p2 (n := 10) (qm_lt _ _) w0
theorem qest_c {u : QU} (w : WF u) (c : Nat) : qc (qest u c) = qown u c := by
  obtain ⟨hB, w0, w3, w7, wN, wk, wg, wc, wd, wo, wv⟩ := w
  exact qc_m w0
theorem or_0 (m : Nat) : nI m ||| nI 0 = nI m := by rw [fa_or, Nat.or_zero]
section
variable {S : XS} {u : QU} {a b c d g k : Nat}
theorem kc_home (h : RC S u) (w : WF u) (hc : c < u 0 7) : f_X6_sitsAtHome S (nI c) = some (nB (qhome u c)) := by
  obtain ⟨⟨c0, c3, c7, cN, cG, cA⟩, r1, r2, r3, r4, r5, r6, r7, r8, r9, rT, kw, kg, kb⟩ := h
  obtain ⟨hB, w0, w3, w7, wN, wk, wg, wc, wd, wo, wv⟩ := w
  have hs := (wc c hc).2.2.2.2.2
  simp (disch := omega) only [f_X6_sitsAtHome, xl_s, ob_s, xb_s, rd_n, wr_n, m_1, m_1b, nI_add, pk_mul, l_0, l_1, l_2, l_3, l_4, l_5, l_6, l_7, l_8, l_9, l_10, l_11, l_12, l_13, l_14, l_15, l_16, l_17, l_18, l_19, l_20, l_21, l_22, l_23, l_24, l_30, l_31, l_32, l_40, l_41, l_48, l_57, l_59, l_64, l_90, l_97, l_99, l_100, l_119, l_122, l_186, l_200, l_255, l_600, l_999, l_1488, l_1000000, r9, r2, eo_u hB, i_B, qhome]
theorem kc_might (h : RC S u) (w : WF u) (hc : c < u 0 7) : f_X6_might S (nI c) = some (nI (qpow u c)) := by
  have h1 := kc_home h w hc
  obtain ⟨⟨c0, c3, c7, cN, cG, cA⟩, r1, r2, r3, r4, r5, r6, r7, r8, r9, rT, kw, kg, kb⟩ := h
  obtain ⟨hB, w0, w3, w7, wN, wk, wg, wc, wd, wo, wv⟩ := w
  simp (disch := omega) only [f_X6_might, h1, xl_s, ob_s, xb_s, rd_n, wr_n, m_1, m_1b, nI_add, pk_mul, l_0, l_1, l_2, l_3, l_4, l_5, l_6, l_7, l_8, l_9, l_10, l_11, l_12, l_13, l_14, l_15, l_16, l_17, l_18, l_19, l_20, l_21, l_22, l_23, l_24, l_30, l_31, l_32, l_40, l_41, l_48, l_57, l_59, l_64, l_90, l_97, l_99, l_100, l_119, l_122, l_186, l_200, l_255, l_600, l_999, l_1488, l_1000000, nB_0, r7, p_i, qpow]
theorem kc_estate (h : RC S u) (w : WF u) (hc : c < 8) : f_X6_estate S (nI c) = some (nI (qest u c)) := by
  obtain ⟨⟨c0, c3, c7, cN, cG, cA⟩, r1, r2, r3, r4, r5, r6, r7, r8, r9, rT, kw, kg, kb⟩ := h
  obtain ⟨hB, w0, w3, w7, wN, wk, wg, wc, wd, wo, wv⟩ := w
  unfold f_X6_estate
  simp only [l_0]
  refine q_lp (fun n j m => f_X6_estate_L4 (fun v5 v6 => some v5) S (nI c) n m (nI j) = some (nI (qest u c))) (fun j m => m = nI (qm (fun k => decide (u 2 k = c + 1)) j)) (u 0 0) (nI 0) (by omega) rfl ?_ ?_
  · intro n m e
    simp (disch := omega) only [f_X6_estate_L4, c0, i_leT]
    rw [e, qest]
  · intro n j m hj e ih
    simp (disch := omega) only [f_X6_estate_L4, c0, i_leF, xl_s, ob_s, xb_s, rd_n, wr_n, m_1, m_1b, nI_add, pk_mul, l_0, l_1, l_2, l_3, l_4, l_5, l_6, l_7, l_8, l_9, l_10, l_11, l_12, l_13, l_14, l_15, l_16, l_17, l_18, l_19, l_20, l_21, l_22, l_23, l_24, l_30, l_31, l_32, l_40, l_41, l_48, l_57, l_59, l_64, l_90, l_97, l_99, l_100, l_119, l_122, l_186, l_200, l_255, l_600, l_999, l_1488, l_1000000, r2, eo_u hB, sh_n, e, fa_or]
    by_cases q : u 2 j = c + 1
    · rw [if_pos q]
      exact ih _ (by rw [qm, decide_eq_true q]; rfl)
    · rw [if_neg q]
      exact ih _ (by rw [qm, decide_eq_false q, if_neg (by decide), Nat.or_zero])
theorem qest_b (w : WF u) (c : Nat) : f_J6_bitCount_0f7a4 (nI (qest u c)) = some (nI (qown u c)) := by
  have e := bc_n (qest u c) (qest_lt w c)
  rw [qest_c w c] at e
  exact e
theorem kc_enough (h : RC S u) (w : WF u) (hc : c < 8) : f_X6_ownsEnough S (nI c) = some (nB (decide (4 ≤ qown u c))) := by
  have h1 := qown_le w c
  have h2 := qest_b w c
  have h3 := kc_estate h w hc
  simp (disch := omega) only [f_X6_ownsEnough, h3, h2, xl_s, ob_s, xb_s, rd_n, wr_n, m_1, m_1b, nI_add, pk_mul, l_0, l_1, l_2, l_3, l_4, l_5, l_6, l_7, l_8, l_9, l_10, l_11, l_12, l_13, l_14, l_15, l_16, l_17, l_18, l_19, l_20, l_21, l_22, l_23, l_24, l_30, l_31, l_32, l_40, l_41, l_48, l_57, l_59, l_64, l_90, l_97, l_99, l_100, l_119, l_122, l_186, l_200, l_255, l_600, l_999, l_1488, l_1000000]
  by_cases q : 4 ≤ qown u c
  · rw [decide_eq_true q, if_neg (nI_nlt q (by omega))]; rfl
  · rw [decide_eq_false q, if_pos (nI_lt (by omega) (by omega))]; rfl
theorem kc_truce (h : RC S u) (w : WF u) (ha : a < 8) (hb : b < 8) : f_X6_truceLeft S (nI a) (nI b) = some (nI (qtl u a b)) := by
  obtain ⟨⟨c0, c3, c7, cN, cG, cA⟩, r1, r2, r3, r4, r5, r6, r7, r8, r9, rT, kw, kg, kb⟩ := h
  obtain ⟨hB, w0, w3, w7, wN, wk, wg, wc, wd, wo, wv⟩ := w
  have h1 := hB 10 (a * 8 + b) (by omega)
  have h2 := hB 0 13 (by omega)
  simp (disch := omega) only [f_X6_truceLeft, xl_s, ob_s, xb_s, rd_n, wr_n, m_1, m_1b, nI_add, pk_mul, l_0, l_1, l_2, l_3, l_4, l_5, l_6, l_7, l_8, l_9, l_10, l_11, l_12, l_13, l_14, l_15, l_16, l_17, l_18, l_19, l_20, l_21, l_22, l_23, l_24, l_30, l_31, l_32, l_40, l_41, l_48, l_57, l_59, l_64, l_90, l_97, l_99, l_100, l_119, l_122, l_186, l_200, l_255, l_600, l_999, l_1488, l_1000000, rT, cN, mx_n, qtl]
theorem qtl_lt (w : WF u) (a b : Nat) : qtl u a b < 1048576 := by
  obtain ⟨hB, w0, w3, w7, wN, wk, wg, wc, wd, wo, wv⟩ := w
  have h1 := hB 10 (a * 8 + b) (by omega)
  unfold qtl
  omega
theorem kc_bar (h : RC S u) (w : WF u) (hc : c < u 0 7) (hk : k < u 0 0) : f_X6_isBarred S (nI c) (nI k) = some (nB (qbar u c k)) := by
  have ht := fun d hd => kc_truce h w (a := c) (b := d) (by obtain ⟨hB, w0, w3, w7, wN, wk, wg, wc, wd, wo, wv⟩ := w; omega) hd
  have hq := fun d => qtl_lt w c d
  obtain ⟨⟨c0, c3, c7, cN, cG, cA⟩, r1, r2, r3, r4, r5, r6, r7, r8, r9, rT, kw, kg, kb⟩ := h
  obtain ⟨hB, w0, w3, w7, wN, wk, wg, wc, wd, wo, wv⟩ := w
  have h1 := (wk k hk).2
  simp (disch := omega) only [f_X6_isBarred, xl_s, ob_s, xb_s, rd_n, wr_n, m_1, m_1b, nI_add, pk_mul, l_0, l_1, l_2, l_3, l_4, l_5, l_6, l_7, l_8, l_9, l_10, l_11, l_12, l_13, l_14, l_15, l_16, l_17, l_18, l_19, l_20, l_21, l_22, l_23, l_24, l_30, l_31, l_32, l_40, l_41, l_48, l_57, l_59, l_64, l_90, l_97, l_99, l_100, l_119, l_122, l_186, l_200, l_255, l_600, l_999, l_1488, l_1000000, r2, oe_u hB, eo_u hB]
  by_cases e0 : u 2 k = 0
  · rw [if_pos e0, qbar, decide_eq_false (fun q => q.1 e0)]; rfl
  · rw [if_neg e0]
    by_cases e1 : u 2 k = c + 1
    · rw [if_pos e1, qbar, decide_eq_false (fun q => q.2.1 e1)]; rfl
    · rw [if_neg e1]
      obtain ⟨d, hd⟩ : ∃ d, u 2 k = d + 1 := ⟨u 2 k - 1, by omega⟩
      rw [hd, show oI (d + 1) = nI d from rfl, ht d (by omega)]
      have h2 := hq d
      simp (disch := omega) only [ob_s, nI_eq, i_B]
      congr 2
      rw [qbar, hd, Nat.add_sub_cancel]
      by_cases e2 : qtl u c d = 0
      · rw [decide_eq_true e2, decide_eq_true ⟨by omega, by omega, e2⟩]
      · rw [decide_eq_false e2, decide_eq_false (fun q => e2 q.2.2)]
theorem kc_far (h : RC S u) (w : WF u) (hc : c < u 0 7) (hg : g < u 0 3) : f_X6_farEnd S (nI c) (nI g) = some (nI (qfar u c g)) := by
  obtain ⟨⟨c0, c3, c7, cN, cG, cA⟩, r1, r2, r3, r4, r5, r6, r7, r8, r9, rT, kw, kg, kb⟩ := h
  obtain ⟨hB, w0, w3, w7, wN, wk, wg, wc, wd, wo, wv⟩ := w
  simp (disch := omega) only [f_X6_farEnd, xl_s, ob_s, xb_s, rd_n, wr_n, m_1, m_1b, nI_add, pk_mul, l_0, l_1, l_2, l_3, l_4, l_5, l_6, l_7, l_8, l_9, l_10, l_11, l_12, l_13, l_14, l_15, l_16, l_17, l_18, l_19, l_20, l_21, l_22, l_23, l_24, l_30, l_31, l_32, l_40, l_41, l_48, l_57, l_59, l_64, l_90, l_97, l_99, l_100, l_119, l_122, l_186, l_200, l_255, l_600, l_999, l_1488, l_1000000, r3, r4, r9, eq_uu hB, p_i, qfar]
theorem qfar_lt (w : WF u) (hg : g < u 0 3) (c : Nat) : qfar u c g < u 0 0 := by
  obtain ⟨hB, w0, w3, w7, wN, wk, wg, wc, wd, wo, wv⟩ := w
  have := wg g hg
  unfold qfar
  split <;> omega
theorem kc_step (h : RC S u) (w : WF u) (hc : c < u 0 7) (hg : g < u 0 3) : f_X6_stepRefusal S (nI c) (nI g) = some (nI (qstep u c g)) := by
  have h1 := kc_far h w hc hg
  have h2 := qfar_lt w hg c
  have h3 := kc_sitter h w (k := qfar u c g) (by obtain ⟨hB, w0, w3, w7, wN, wk, wg, wc, wd, wo, wv⟩ := w; omega)
  have h4 := kc_bar h w hc h2
  have h5 := qsit_le w (qfar u c g)
  obtain ⟨⟨c0, c3, c7, cN, cG, cA⟩, r1, r2, r3, r4, r5, r6, r7, r8, r9, rT, kw, kg, kb⟩ := h
  obtain ⟨hB, w0, w3, w7, wN, wk, wg, wc, wd, wo, wv⟩ := w
  simp (disch := omega) only [f_X6_stepRefusal, xl_s, ob_s, xb_s, rd_n, wr_n, m_1, m_1b, nI_add, pk_mul, l_0, l_1, l_2, l_3, l_4, l_5, l_6, l_7, l_8, l_9, l_10, l_11, l_12, l_13, l_14, l_15, l_16, l_17, l_18, l_19, l_20, l_21, l_22, l_23, l_24, l_30, l_31, l_32, l_40, l_41, l_48, l_57, l_59, l_64, l_90, l_97, l_99, l_100, l_119, l_122, l_186, l_200, l_255, l_600, l_999, l_1488, l_1000000, r3, r4, r5, r6, r9, eq_uu hB, le_uu hB, h1, h3, h4, oI_eq, nB_0, p_i, qstep]
  by_cases e1 : u 3 g = u 9 c
  · rw [if_pos e1, if_pos (Or.inl e1)]
  · rw [if_neg e1]
    by_cases e2 : u 4 g = u 9 c
    · rw [if_pos e2, if_pos (Or.inr e2)]
    · rw [if_neg e2, if_neg (fun q => q.elim e1 e2)]
theorem kc_claim (h : RC S u) (w : WF u) (hc : c < u 0 7) : f_X6_claimRefusal S (nI c) = some (nI (qclaim u c)) := by
  have h1 := kc_enough h w (c := c) (by obtain ⟨hB, w0, w3, w7, wN, wk, wg, wc, wd, wo, wv⟩ := w; omega)
  obtain ⟨⟨c0, c3, c7, cN, cG, cA⟩, r1, r2, r3, r4, r5, r6, r7, r8, r9, rT, kw, kg, kb⟩ := h
  obtain ⟨hB, w0, w3, w7, wN, wk, wg, wc, wd, wo, wv⟩ := w
  have hs := (wc c hc).2.2.2.2.2
  simp (disch := omega) only [f_X6_claimRefusal, xl_s, ob_s, xb_s, rd_n, wr_n, m_1, m_1b, nI_add, pk_mul, l_0, l_1, l_2, l_3, l_4, l_5, l_6, l_7, l_8, l_9, l_10, l_11, l_12, l_13, l_14, l_15, l_16, l_17, l_18, l_19, l_20, l_21, l_22, l_23, l_24, l_30, l_31, l_32, l_40, l_41, l_48, l_57, l_59, l_64, l_90, l_97, l_99, l_100, l_119, l_122, l_186, l_200, l_255, l_600, l_999, l_1488, l_1000000, r9, r2, oe_u hB, h1, nB_0, p_i, qclaim]
  have e : (decide (4 ≤ qown u c) = false) = (qown u c < 4) := propext ⟨fun q => by have := of_decide_eq_false q; omega, fun q => decide_eq_false (by omega)⟩
  simp only [e]
def qt2 (a b c d : Nat) : Bool := decide (a = b) || decide (c = d) || (decide (2 ^ a ||| 2 ^ b = 2 ^ c ||| 2 ^ d) == (decide (a = c) && decide (b = d) || decide (a = d) && decide (b = c)))
theorem qt2_ok : (List.range 10).all (fun a => (List.range 10).all fun b => (List.range 10).all fun c => (List.range 10).all fun d => qt2 a b c d) = true := by decide +kernel
theorem two_or (a : Nat) (ha : a < 10) (b : Nat) (hb : b < 10) (c : Nat) (hc : c < 10) (d : Nat) (hd : d < 10) (h1 : a ≠ b) (h2 : c ≠ d) : 2 ^ a ||| 2 ^ b = 2 ^ c ||| 2 ^ d ↔ (a = c ∧ b = d ∨ a = d ∧ b = c) := by
  have h := List.all_eq_true.mp (List.all_eq_true.mp (List.all_eq_true.mp (List.all_eq_true.mp qt2_ok a (List.mem_range.mpr ha)) b (List.mem_range.mpr hb)) c (List.mem_range.mpr hc)) d (List.mem_range.mpr hd)
  rw [qt2, decide_eq_false h1, decide_eq_false h2, Bool.false_or, Bool.false_or, beq_iff_eq, ← Bool.decide_and, ← Bool.decide_and, ← Bool.decide_or] at h
  exact decide_eq_decide.mp h
theorem or_lt {a b : Nat} (ha : a < 10) (hb : b < 10) : 2 ^ a ||| 2 ^ b < 1024 := Nat.or_lt_two_pow (n := 10) (p2_lt ha) (p2_lt hb)
theorem kc_near (h : RC S u) (w : WF u) (ha : a < u 0 7) (hb : b < u 0 7) (hab : a ≠ b) : f_X6_isNear S (nI a) (nI b) = some (nB (qnear u a b)) := by
  obtain ⟨⟨c0, c3, c7, cN, cG, cA⟩, r1, r2, r3, r4, r5, r6, r7, r8, r9, rT, kw, kg, kb⟩ := h
  obtain ⟨hB, w0, w3, w7, wN, wk, wg, wc, wd, wo, wv⟩ := w
  have ha9 := (wc a ha).2.2.2.2.2
  have hb9 := (wc b hb).2.2.2.2.2
  have hne : u 9 a ≠ u 9 b := fun e => hab (wd a b ha hb e)
  have hor := or_lt (a := u 9 a) (b := u 9 b) (by omega) (by omega)
  unfold f_X6_isNear
  simp (disch := omega) only [xl_s, ob_s, xb_s, rd_n, wr_n, m_1, m_1b, nI_add, pk_mul, l_0, l_1, l_2, l_3, l_4, l_5, l_6, l_7, l_8, l_9, l_10, l_11, l_12, l_13, l_14, l_15, l_16, l_17, l_18, l_19, l_20, l_21, l_22, l_23, l_24, l_30, l_31, l_32, l_40, l_41, l_48, l_57, l_59, l_64, l_90, l_97, l_99, l_100, l_119, l_122, l_186, l_200, l_255, l_600, l_999, l_1488, l_1000000, r9, sh_n, fa_or]
  refine q_lp (fun n j (_ : Unit) => f_X6_isNear_L21 (fun v10 => some (nI 0)) S (nI a) (nI b) (nI (2 ^ u 9 a ||| 2 ^ u 9 b)) n (nI j) = some (nB (qnear u a b))) (fun j _ => ∀ g, g < j → (qjoin u g (u 9 a) (u 9 b) && decide (u 6 a ≤ u 5 g)) = false) (u 0 3) () (by omega) (fun i hi => by omega) ?_ ?_
  · intro n _ hI
    simp (disch := omega) only [f_X6_isNear_L21, c3, i_leT]
    rw [qnear, qf_z hI, decide_eq_false (fun q => q rfl)]
    rfl
  · intro n j _ hj hI ih
    have hj1 := wg j hj
    have hor2 := or_lt (a := u 3 j) (b := u 4 j) (by omega) (by omega)
    simp (disch := omega) only [f_X6_isNear_L21, c3, i_leF, xl_s, ob_s, xb_s, rd_n, wr_n, m_1, m_1b, nI_add, pk_mul, l_0, l_1, l_2, l_3, l_4, l_5, l_6, l_7, l_8, l_9, l_10, l_11, l_12, l_13, l_14, l_15, l_16, l_17, l_18, l_19, l_20, l_21, l_22, l_23, l_24, l_30, l_31, l_32, l_40, l_41, l_48, l_57, l_59, l_64, l_90, l_97, l_99, l_100, l_119, l_122, l_186, l_200, l_255, l_600, l_999, l_1488, l_1000000, r3, r4, r5, r6, sh_n, fa_or, nI_eq, lt_uu hB, two_or (u 3 j) (show u 3 j < 10 by omega) (u 4 j) (show u 4 j < 10 by omega) (u 9 a) (show u 9 a < 10 by omega) (u 9 b) (show u 9 b < 10 by omega) hj1.2.2.1 hne]
    have ih' : (qjoin u j (u 9 a) (u 9 b) && decide (u 6 a ≤ u 5 j)) = false → f_X6_isNear_L21 (fun v10 => some (nI 0)) S (nI a) (nI b) (nI (2 ^ u 9 a ||| 2 ^ u 9 b)) n (nI (j + 1)) = some (nB (qnear u a b)) := fun q => ih () (fun i hi => by
      rcases Nat.lt_or_ge i j with g | g
      · exact hI i g
      · rw [show i = j by omega]; exact q)
    by_cases e1 : u 3 j = u 9 a ∧ u 4 j = u 9 b ∨ u 3 j = u 9 b ∧ u 4 j = u 9 a
    · rw [if_pos e1]
      by_cases e2 : u 5 j < u 6 a
      · rw [if_pos e2]
        exact ih' (by rw [decide_eq_false (p := u 6 a ≤ u 5 j) (by omega), Bool.and_false])
      · rw [if_neg e2, qnear, qf_i (by rw [qjoin, decide_eq_true e1, decide_eq_true (by omega)]; rfl) hI hj, decide_eq_true (Nat.succ_ne_zero j)]
        rfl
    · rw [if_neg e1]
      exact ih' (by rw [qjoin, decide_eq_false e1, Bool.false_and])
theorem qpow_lt (w : WF u) (hc : c < u 0 7) : qpow u c ≤ 11 := by
  obtain ⟨hB, w0, w3, w7, wN, wk, wg, wc, wd, wo, wv⟩ := w
  have := wc c hc
  unfold qpow
  split <;> omega
theorem kc_chase (h : RC S u) (w : WF u) (ha : a < u 0 7) (hb : b < u 0 7) (hab : a ≠ b) : f_X6_chaseRefusal S (nI a) (nI b) = some (nI (qchase u a b)) := by
  have h1 := qtl_lt w a b
  have h2 := qpow_lt w ha
  have h3 := qpow_lt w hb
  have h4 : u 0 7 ≤ 8 := by obtain ⟨hB, w0, w3, w7, wN, wk, wg, wc, wd, wo, wv⟩ := w; exact w7
  simp (disch := omega) only [f_X6_chaseRefusal, kc_near h w ha hb hab, kc_truce h w (a := a) (b := b) (show a < 8 by omega) (show b < 8 by omega), kc_might h w ha, kc_might h w hb, xl_s, ob_s, xb_s, rd_n, wr_n, m_1, m_1b, nI_add, pk_mul, l_0, l_1, l_2, l_3, l_4, l_5, l_6, l_7, l_8, l_9, l_10, l_11, l_12, l_13, l_14, l_15, l_16, l_17, l_18, l_19, l_20, l_21, l_22, l_23, l_24, l_30, l_31, l_32, l_40, l_41, l_48, l_57, l_59, l_64, l_90, l_97, l_99, l_100, l_119, l_122, l_186, l_200, l_255, l_600, l_999, l_1488, l_1000000, nB_0, nI_leI, p_i, qchase]
  congr 2
  by_cases e : qnear u a b = false
  · rw [if_pos e, if_pos e]
  · rw [if_neg e, if_neg e]
    by_cases e2 : 0 < qtl u a b
    · rw [if_pos e2, if_neg (by omega)]
    · rw [if_neg e2, if_pos (by omega)]
end
section
variable {T : XS} {u : QU} {a b c d g k : Nat}
theorem km_owner (h : RM (T 1) u) (hk : k < 10) : f_X9_owner T (nI k) = some (oI (u 2 k)) := by
  obtain ⟨m0, m1, m2, m3, m4, m5, m6, m7, m8, m9, n1, n2, n3, n4, n5, n6, n7, n8, n9, nT⟩ := h
  simp (disch := omega) only [f_X9_owner, xl_s, ob_s, xb_s, rd_n, wr_n, m_1, m_1b, nI_add, pk_mul, l_0, l_1, l_2, l_3, l_4, l_5, l_6, l_7, l_8, l_9, l_10, l_11, l_12, l_13, l_14, l_15, l_16, l_17, l_18, l_19, l_20, l_21, l_22, l_23, l_24, l_30, l_31, l_32, l_40, l_41, l_48, l_57, l_59, l_64, l_90, l_97, l_99, l_100, l_119, l_122, l_186, l_200, l_255, l_600, l_999, l_1488, l_1000000, n2]
theorem km_gutter (hg : g < 20) (hk : k < 3) : f_X9_gutter T (nI g) (nI k) = some (T 1 (30 + 3 * g + k)) := by
  simp (disch := omega) only [f_X9_gutter, xl_s, ob_s, xb_s, rd_n, wr_n, m_1, m_1b, nI_add, pk_mul, l_0, l_1, l_2, l_3, l_4, l_5, l_6, l_7, l_8, l_9, l_10, l_11, l_12, l_13, l_14, l_15, l_16, l_17, l_18, l_19, l_20, l_21, l_22, l_23, l_24, l_30, l_31, l_32, l_40, l_41, l_48, l_57, l_59, l_64, l_90, l_97, l_99, l_100, l_119, l_122, l_186, l_200, l_255, l_600, l_999, l_1488, l_1000000]
theorem km_home (h : RM (T 1) u) (w : WF u) (hc : c < u 0 7) : f_X9_isHome T (nI c) = some (nB (qhome u c)) := by
  have h1 := fun k (hk : k < 10) => km_owner h hk
  obtain ⟨m0, m1, m2, m3, m4, m5, m6, m7, m8, m9, n1, n2, n3, n4, n5, n6, n7, n8, n9, nT⟩ := h
  obtain ⟨hB, w0, w3, w7, wN, wk, wg, wc, wd, wo, wv⟩ := w
  have hs := (wc c hc).2.2.2.2.2
  simp (disch := omega) only [f_X9_isHome, xl_s, ob_s, xb_s, rd_n, wr_n, m_1, m_1b, nI_add, pk_mul, l_0, l_1, l_2, l_3, l_4, l_5, l_6, l_7, l_8, l_9, l_10, l_11, l_12, l_13, l_14, l_15, l_16, l_17, l_18, l_19, l_20, l_21, l_22, l_23, l_24, l_30, l_31, l_32, l_40, l_41, l_48, l_57, l_59, l_64, l_90, l_97, l_99, l_100, l_119, l_122, l_186, l_200, l_255, l_600, l_999, l_1488, l_1000000, km_of, n9, h1, eo_u hB, i_B, qhome]
theorem km_power (h : RM (T 1) u) (w : WF u) (hc : c < u 0 7) : f_X9_powerOf T (nI c) = some (nI (qpow u c)) := by
  have h1 := km_home h w hc
  obtain ⟨m0, m1, m2, m3, m4, m5, m6, m7, m8, m9, n1, n2, n3, n4, n5, n6, n7, n8, n9, nT⟩ := h
  obtain ⟨hB, w0, w3, w7, wN, wk, wg, wc, wd, wo, wv⟩ := w
  simp (disch := omega) only [f_X9_powerOf, h1, xl_s, ob_s, xb_s, rd_n, wr_n, m_1, m_1b, nI_add, pk_mul, l_0, l_1, l_2, l_3, l_4, l_5, l_6, l_7, l_8, l_9, l_10, l_11, l_12, l_13, l_14, l_15, l_16, l_17, l_18, l_19, l_20, l_21, l_22, l_23, l_24, l_30, l_31, l_32, l_40, l_41, l_48, l_57, l_59, l_64, l_90, l_97, l_99, l_100, l_119, l_122, l_186, l_200, l_255, l_600, l_999, l_1488, l_1000000, nB_0, km_of, n7, p_i, qpow, Nat.add_zero]
theorem km_owns (h : RM (T 1) u) (w : WF u) (hc : c < 8) : f_X9_owns T (nI c) = some (nI (qown u c)) := by
  have h1 := fun k (hk : k < 10) => km_owner h hk
  obtain ⟨m0, m1, m2, m3, m4, m5, m6, m7, m8, m9, n1, n2, n3, n4, n5, n6, n7, n8, n9, nT⟩ := h
  obtain ⟨hB, w0, w3, w7, wN, wk, wg, wc, wd, wo, wv⟩ := w
  unfold f_X9_owns
  simp only [l_0]
  refine q_lp (fun n j m => f_X9_owns_L4 (fun v7 v8 => some v7) T (nI c) n m (nI j) = some (nI (qown u c))) (fun j m => m = nI (fb_ct (fun k => decide (u 2 k = c + 1)) j)) (u 0 0) (nI 0) (by omega) rfl ?_ ?_
  · intro n m e
    simp (disch := omega) only [f_X9_owns_L4, xl_s, ob_s, xb_s, rd_n, wr_n, m_1, m_1b, nI_add, pk_mul, l_0, l_1, l_2, l_3, l_4, l_5, l_6, l_7, l_8, l_9, l_10, l_11, l_12, l_13, l_14, l_15, l_16, l_17, l_18, l_19, l_20, l_21, l_22, l_23, l_24, l_30, l_31, l_32, l_40, l_41, l_48, l_57, l_59, l_64, l_90, l_97, l_99, l_100, l_119, l_122, l_186, l_200, l_255, l_600, l_999, l_1488, l_1000000, m0, i_leT]
    rw [e, qown]
  · intro n j m hj e ih
    simp (disch := omega) only [f_X9_owns_L4, xl_s, ob_s, xb_s, rd_n, wr_n, m_1, m_1b, nI_add, pk_mul, l_0, l_1, l_2, l_3, l_4, l_5, l_6, l_7, l_8, l_9, l_10, l_11, l_12, l_13, l_14, l_15, l_16, l_17, l_18, l_19, l_20, l_21, l_22, l_23, l_24, l_30, l_31, l_32, l_40, l_41, l_48, l_57, l_59, l_64, l_90, l_97, l_99, l_100, l_119, l_122, l_186, l_200, l_255, l_600, l_999, l_1488, l_1000000, m0, i_leF, h1, eo_u hB, e]
    by_cases q : u 2 j = c + 1
    · rw [if_pos q]
      exact ih _ (by rw [fb_ct_succ, decide_eq_true q]; rfl)
    · rw [if_neg q]
      exact ih _ (by rw [fb_ct_succ, decide_eq_false q]; rfl)
theorem km_truce (h : RM (T 1) u) (w : WF u) (ha : a < 8) (hb : b < 8) : f_X9_truceLeft T (nI a) (nI b) = some (nI (qtl u a b)) := by
  obtain ⟨m0, m1, m2, m3, m4, m5, m6, m7, m8, m9, n1, n2, n3, n4, n5, n6, n7, n8, n9, nT⟩ := h
  obtain ⟨hB, w0, w3, w7, wN, wk, wg, wc, wd, wo, wv⟩ := w
  have h1 := hB 10 (a * 8 + b) (by omega)
  have h2 := hB 0 13 (by omega)
  simp (disch := omega) only [f_X9_truceLeft, xl_s, ob_s, xb_s, rd_n, wr_n, m_1, m_1b, nI_add, pk_mul, l_0, l_1, l_2, l_3, l_4, l_5, l_6, l_7, l_8, l_9, l_10, l_11, l_12, l_13, l_14, l_15, l_16, l_17, l_18, l_19, l_20, l_21, l_22, l_23, l_24, l_30, l_31, l_32, l_40, l_41, l_48, l_57, l_59, l_64, l_90, l_97, l_99, l_100, l_119, l_122, l_186, l_200, l_255, l_600, l_999, l_1488, l_1000000, nT, m3, mx_n, qtl]
theorem km_across (h : RM (T 1) u) (w : WF u) (hg : g < u 0 3) (hk : k < u 0 0) : f_X9_across T (nI g) (nI k) = some (oI (if u 3 g = k then u 4 g + 1 else if u 4 g = k then u 3 g + 1 else 0)) := by
  obtain ⟨m0, m1, m2, m3, m4, m5, m6, m7, m8, m9, n1, n2, n3, n4, n5, n6, n7, n8, n9, nT⟩ := h
  obtain ⟨hB, w0, w3, w7, wN, wk, wg, wc, wd, wo, wv⟩ := w
  simp (disch := omega) only [f_X9_across, xl_s, ob_s, xb_s, rd_n, wr_n, m_1, m_1b, nI_add, pk_mul, l_0, l_1, l_2, l_3, l_4, l_5, l_6, l_7, l_8, l_9, l_10, l_11, l_12, l_13, l_14, l_15, l_16, l_17, l_18, l_19, l_20, l_21, l_22, l_23, l_24, l_30, l_31, l_32, l_40, l_41, l_48, l_57, l_59, l_64, l_90, l_97, l_99, l_100, l_119, l_122, l_186, l_200, l_255, l_600, l_999, l_1488, l_1000000, km_gutter, n3, n4, e_u hB]
  by_cases e1 : u 3 g = k
  · rw [if_pos e1, if_pos e1]; rfl
  · rw [if_neg e1, if_neg e1]
    by_cases e2 : u 4 g = k
    · rw [if_pos e2, if_pos e2]; rfl
    · rw [if_neg e2, if_neg e2]
/-- why a cat cannot enter: the reference -/
def qin2 (u : QU) (c k : Nat) : Nat := if qsit u k = 0 ∨ qsit u k = c + 1 then (if qbar u c k = false then 0 else 4) else 3
theorem km_whyIn (h : RM (T 1) u) (w : WF u) (hc : c < u 0 7) (hk : k < u 0 0) : f_X9_whyNotIn T (nI c) (nI k) = some (nI (qin2 u c k)) := by
  have ht := fun d hd => km_truce h w (a := c) (b := d) (by obtain ⟨hB, w0, w3, w7, wN, wk, wg, wc, wd, wo, wv⟩ := w; omega) hd
  have hq := fun d => qtl_lt w c d
  have h0 := qsit_le w k
  have h3 := km_sitter h w (k := k) (by obtain ⟨hB, w0, w3, w7, wN, wk, wg, wc, wd, wo, wv⟩ := w; omega)
  have h1 := fun k (hk : k < 10) => km_owner h hk
  obtain ⟨m0, m1, m2, m3, m4, m5, m6, m7, m8, m9, n1, n2, n3, n4, n5, n6, n7, n8, n9, nT⟩ := h
  obtain ⟨hB, w0, w3, w7, wN, wk, wg, wc, wd, wo, wv⟩ := w
  have hk2 := (wk k hk).2
  have key : (if u 2 k = 0 then some (nI 0) else if u 2 k = c + 1 then some (nI 0) else (f_X9_truceLeft T (nI c) (oI (u 2 k))).bind fun v3 => (if v3 = nI 0 then some (nI 4) else some (nI 0))) = some (nI (if qbar u c k = false then 0 else 4)) := by
    by_cases e0 : u 2 k = 0
    · rw [if_pos e0, qbar, decide_eq_false (fun q => q.1 e0)]; rfl
    · rw [if_neg e0]
      by_cases e1 : u 2 k = c + 1
      · rw [if_pos e1, qbar, decide_eq_false (fun q => q.2.1 e1)]; rfl
      · rw [if_neg e1]
        obtain ⟨d, hd⟩ : ∃ d, u 2 k = d + 1 := ⟨u 2 k - 1, by omega⟩
        rw [hd, show oI (d + 1) = nI d from rfl, ht d (by omega)]
        have h2 := hq d
        simp (disch := omega) only [ob_s, nI_eq, p_i]
        rw [qbar, hd, Nat.add_sub_cancel]
        by_cases e2 : qtl u c d = 0
        · rw [if_pos e2, decide_eq_true ⟨by omega, by omega, e2⟩]; rfl
        · rw [if_neg e2, decide_eq_false (fun q => e2 q.2.2)]; rfl
  simp (disch := omega) only [f_X9_whyNotIn, h3, h1, xl_s, ob_s, xb_s, rd_n, wr_n, m_1, m_1b, nI_add, pk_mul, l_0, l_1, l_2, l_3, l_4, l_5, l_6, l_7, l_8, l_9, l_10, l_11, l_12, l_13, l_14, l_15, l_16, l_17, l_18, l_19, l_20, l_21, l_22, l_23, l_24, l_30, l_31, l_32, l_40, l_41, l_48, l_57, l_59, l_64, l_90, l_97, l_99, l_100, l_119, l_122, l_186, l_200, l_255, l_600, l_999, l_1488, l_1000000, oe_u hB, eo_u hB, oI_eq, oI_nI, key, qin2]
  by_cases e1 : qsit u k = 0
  · rw [if_pos e1, if_pos (Or.inl e1)]
  · rw [if_neg e1]
    by_cases e2 : qsit u k = c + 1
    · rw [if_pos e2, if_pos (Or.inr e2)]
    · rw [if_neg e2, if_neg (fun q => q.elim e1 e2)]
/-- the far end isn't the cat's own seat -/
theorem far_ne (w : WF u) (hg : g < u 0 3) (he : u 3 g = u 9 c ∨ u 4 g = u 9 c) : qfar u c g ≠ u 9 c := by
  obtain ⟨hB, w0, w3, w7, wN, wk, wg, wc, wd, wo, wv⟩ := w
  have := wg g hg
  unfold qfar
  split <;> omega
theorem sit_ne (w : WF u) (hc : c < u 0 7) (hk : k ≠ u 9 c) : qsit u k ≠ c + 1 := fun e => hk (qsit_s e).2.symm
theorem km_step (h : RM (T 1) u) (w : WF u) (hc : c < u 0 7) (hg : g < u 0 3) : f_X9_whyStays T (nI c) (nI g) = some (nI (qstep u c g)) := by
  have ha := fun k (hk : k < u 0 0) => km_across h w hg hk
  have hw := fun k (hk : k < u 0 0) => km_whyIn h w hc hk
  have hf := qfar_lt w hg c
  have hn := far_ne w hg (c := c)
  have hs := fun k => sit_ne w hc (k := k)
  obtain ⟨m0, m1, m2, m3, m4, m5, m6, m7, m8, m9, n1, n2, n3, n4, n5, n6, n7, n8, n9, nT⟩ := h
  obtain ⟨hB, w0, w3, w7, wN, wk, wg, wc, wd, wo, wv⟩ := w
  have h9 := (wc c hc).2.2.2.2.2
  have hg1 := wg g hg
  have key : ∀ f, f < u 0 0 → f = qfar u c g → (u 3 g = u 9 c ∨ u 4 g = u 9 c) → (if u 6 c ≤ u 5 g then (f_X9_whyNotIn T (nI c) (nI f)).bind (fun v5 => some v5) else some (nI 2)) = some (nI (qstep u c g)) := by
    intro f hf e he
    rw [hw f hf, ob_s, p_i, qstep, if_pos he, qin2, e]
    have h5 := hs (qfar u c g) (hn he)
    congr 2
    by_cases e3 : u 6 c ≤ u 5 g
    · rw [if_pos e3, if_pos e3]
      by_cases e4 : qsit u (qfar u c g) = 0
      · rw [if_pos (Or.inl e4), if_pos e4]
      · rw [if_neg (fun q => q.elim e4 h5), if_neg e4]
    · rw [if_neg e3, if_neg e3]
  simp (disch := omega) only [f_X9_whyStays, xl_s, ob_s, xb_s, rd_n, wr_n, m_1, m_1b, nI_add, pk_mul, l_0, l_1, l_2, l_3, l_4, l_5, l_6, l_7, l_8, l_9, l_10, l_11, l_12, l_13, l_14, l_15, l_16, l_17, l_18, l_19, l_20, l_21, l_22, l_23, l_24, l_30, l_31, l_32, l_40, l_41, l_48, l_57, l_59, l_64, l_90, l_97, l_99, l_100, l_119, l_122, l_186, l_200, l_255, l_600, l_999, l_1488, l_1000000, km_of, km_gutter, n5, n6, n9, ha, le_uu hB]
  by_cases e1 : u 3 g = u 9 c
  · rw [if_pos e1, if_neg (by rw [oI_eq (by omega) (by omega)]; omega), show oI (u 4 g + 1) = nI (u 4 g) from rfl]
    exact key _ (by omega) (by rw [qfar, if_pos e1]) (Or.inl e1)
  · rw [if_neg e1]
    by_cases e2 : u 4 g = u 9 c
    · rw [if_pos e2, if_neg (by rw [oI_eq (by omega) (by omega)]; omega), show oI (u 3 g + 1) = nI (u 3 g) from rfl]
      exact key _ (by omega) (by rw [qfar, if_neg e1]) (Or.inr e2)
    · rw [if_neg e2, if_pos rfl, qstep, if_neg (fun q => q.elim e1 e2)]
theorem km_claim (h : RM (T 1) u) (w : WF u) (hc : c < u 0 7) : f_X9_whyLeaves T (nI c) = some (nI (qclaim u c)) := by
  have h1 := fun k (hk : k < 10) => km_owner h hk
  have h2 := km_owns h w (c := c) (by obtain ⟨hB, w0, w3, w7, wN, wk, wg, wc, wd, wo, wv⟩ := w; omega)
  obtain ⟨m0, m1, m2, m3, m4, m5, m6, m7, m8, m9, n1, n2, n3, n4, n5, n6, n7, n8, n9, nT⟩ := h
  obtain ⟨hB, w0, w3, w7, wN, wk, wg, wc, wd, wo, wv⟩ := w
  have hs := (wc c hc).2.2.2.2.2
  have ho := wo c hc
  simp (disch := omega) only [f_X9_whyLeaves, xl_s, ob_s, xb_s, rd_n, wr_n, m_1, m_1b, nI_add, pk_mul, l_0, l_1, l_2, l_3, l_4, l_5, l_6, l_7, l_8, l_9, l_10, l_11, l_12, l_13, l_14, l_15, l_16, l_17, l_18, l_19, l_20, l_21, l_22, l_23, l_24, l_30, l_31, l_32, l_40, l_41, l_48, l_57, l_59, l_64, l_90, l_97, l_99, l_100, l_119, l_122, l_186, l_200, l_255, l_600, l_999, l_1488, l_1000000, km_of, n9, h1, oe_u hB, h2, nI_eq, p_i, qclaim]
  congr 2
  by_cases e : u 2 (u 9 c) = 0
  · rw [if_pos e, if_pos e]
    by_cases e2 : qown u c < 4
    · rw [if_pos e2, if_neg (by omega)]
    · rw [if_neg e2, if_pos (by omega)]
  · rw [if_neg e, if_neg e]
theorem jn {P Q R V : Prop} {a : Decidable P} {b : Decidable Q} {c : Decidable R} {d : Decidable V} : (if P then (if Q then some (nI 1) else if R then (if V then some (nI 1) else some (nI 0)) else some (nI 0)) else (if R then (if V then some (nI 1) else some (nI 0)) else some (nI 0))) = some (nB (decide (P ∧ Q ∨ R ∧ V))) := by
  by_cases h1 : P <;> by_cases h2 : Q <;> by_cases h3 : R <;> by_cases h4 : V <;> simp [h1, h2, h3, h4] <;> rfl
theorem km_joins (h : RM (T 1) u) (w : WF u) (hg : g < u 0 3) (ha : a < 2 ^ 20) (hb : b < 2 ^ 20) : f_X9_joins T (nI g) (nI a) (nI b) = some (nB (qjoin u g a b)) := by
  obtain ⟨m0, m1, m2, m3, m4, m5, m6, m7, m8, m9, n1, n2, n3, n4, n5, n6, n7, n8, n9, nT⟩ := h
  obtain ⟨hB, w0, w3, w7, wN, wk, wg, wc, wd, wo, wv⟩ := w
  simp (disch := omega) only [f_X9_joins, xl_s, ob_s, xb_s, rd_n, wr_n, m_1, m_1b, nI_add, pk_mul, l_0, l_1, l_2, l_3, l_4, l_5, l_6, l_7, l_8, l_9, l_10, l_11, l_12, l_13, l_14, l_15, l_16, l_17, l_18, l_19, l_20, l_21, l_22, l_23, l_24, l_30, l_31, l_32, l_40, l_41, l_48, l_57, l_59, l_64, l_90, l_97, l_99, l_100, l_119, l_122, l_186, l_200, l_255, l_600, l_999, l_1488, l_1000000, km_gutter, n3, n4, e_u hB]
  exact jn
/-- the widest of the first n gutters that join -/
def qwid (u : QU) (a b : Nat) : Nat → Nat
  | 0 => 0
  | n + 1 => if qjoin u n a b = false then qwid u a b n else (if qwid u a b n < u 5 n then u 5 n else qwid u a b n)
theorem qwid_le (w : WF u) (a b : Nat) : ∀ n, n ≤ u 0 3 → qwid u a b n ≤ 9
  | 0, _ => Nat.zero_le 9
  | n + 1, hn => by
    have h := qwid_le w a b n (by omega)
    obtain ⟨hB, w0, w3, w7, wN, wk, wg, wc, wd, wo, wv⟩ := w
    have := wg n (by omega)
    rw [qwid]
    split
    · exact h
    · split <;> omega
theorem km_widest (h : RM (T 1) u) (w : WF u) (ha : a < 2 ^ 20) (hb : b < 2 ^ 20) : f_X9_widestBetween T (nI a) (nI b) = some (nI (qwid u a b (u 0 3))) := by
  have hj1 := fun g (hg : g < u 0 3) => km_joins h w hg ha hb
  have hq := qwid_le w a b
  obtain ⟨m0, m1, m2, m3, m4, m5, m6, m7, m8, m9, n1, n2, n3, n4, n5, n6, n7, n8, n9, nT⟩ := h
  obtain ⟨hB, w0, w3, w7, wN, wk, wg, wc, wd, wo, wv⟩ := w
  unfold f_X9_widestBetween
  simp only [l_0]
  refine q_lp (fun n j m => f_X9_widestBetween_L5 (fun v7 v8 => some v7) T (nI a) (nI b) n m (nI j) = some (nI (qwid u a b (u 0 3)))) (fun j m => m = nI (qwid u a b j)) (u 0 3) (nI 0) (by omega) rfl ?_ ?_
  · intro n m e
    simp (disch := omega) only [f_X9_widestBetween_L5, xl_s, ob_s, xb_s, rd_n, wr_n, m_1, m_1b, nI_add, pk_mul, l_0, l_1, l_2, l_3, l_4, l_5, l_6, l_7, l_8, l_9, l_10, l_11, l_12, l_13, l_14, l_15, l_16, l_17, l_18, l_19, l_20, l_21, l_22, l_23, l_24, l_30, l_31, l_32, l_40, l_41, l_48, l_57, l_59, l_64, l_90, l_97, l_99, l_100, l_119, l_122, l_186, l_200, l_255, l_600, l_999, l_1488, l_1000000, m1, i_leT]
    rw [e]
  · intro n j m hj e ih
    have h5 := hq j (by omega)
    have h6 := (wg j hj).2.2.2
    simp (disch := omega) only [f_X9_widestBetween_L5, xl_s, ob_s, xb_s, rd_n, wr_n, m_1, m_1b, nI_add, pk_mul, l_0, l_1, l_2, l_3, l_4, l_5, l_6, l_7, l_8, l_9, l_10, l_11, l_12, l_13, l_14, l_15, l_16, l_17, l_18, l_19, l_20, l_21, l_22, l_23, l_24, l_30, l_31, l_32, l_40, l_41, l_48, l_57, l_59, l_64, l_90, l_97, l_99, l_100, l_119, l_122, l_186, l_200, l_255, l_600, l_999, l_1488, l_1000000, m1, i_leF, hj1, nB_0, km_gutter, n5, e, nI_ltI]
    by_cases q : qjoin u j a b = false
    · rw [if_pos q]
      exact ih _ (by rw [qwid, if_pos q])
    · rw [if_neg q]
      refine ih _ ?_
      rw [qwid, if_neg q]
      by_cases q2 : qwid u a b j < u 5 j
      · rw [if_pos q2, if_pos q2]
      · rw [if_neg q2, if_neg q2]
theorem qwid_iff {k : Nat} (hk : 0 < k) (a b : Nat) : ∀ n, k ≤ qwid u a b n ↔ qf (fun g => qjoin u g a b && decide (k ≤ u 5 g)) n ≠ 0
  | 0 => ⟨fun h => absurd h (by rw [qwid]; omega), fun h => absurd rfl h⟩
  | n + 1 => by
    have ih := qwid_iff hk a b n
    rw [qwid, qf]
    by_cases e0 : qf (fun g => qjoin u g a b && decide (k ≤ u 5 g)) n = 0
    · have e1 : ¬ k ≤ qwid u a b n := fun q => ih.mp q e0
      rw [if_pos e0]
      cases hj : qjoin u n a b
      · simp; omega
      · rw [if_neg (show ¬ true = false by decide)]
        by_cases e2 : k ≤ u 5 n
        · rw [if_pos (by omega), decide_eq_true e2]
          exact ⟨fun _ => by simp, fun _ => e2⟩
        · rw [decide_eq_false e2]
          constructor
          · intro q; exfalso; split at q <;> omega
          · intro q; exact absurd (by simp) q
    · rw [if_neg e0]
      have e1 : k ≤ qwid u a b n := ih.mpr e0
      constructor
      · intro _; exact e0
      · intro _
        split
        · exact e1
        · split <;> omega
theorem km_chase (h : RM (T 1) u) (w : WF u) (ha : a < u 0 7) (hb : b < u 0 7) : f_X9_whySpares T (nI a) (nI b) = some (nI (qchase u a b)) := by
  have h1 := qtl_lt w a b
  have h2 := qpow_lt w ha
  have h3 := qpow_lt w hb
  have h4 : u 0 7 ≤ 8 := by obtain ⟨hB, w0, w3, w7, wN, wk, wg, wc, wd, wo, wv⟩ := w; exact w7
  have hw := km_widest h w (a := u 9 a) (b := u 9 b) (by obtain ⟨hB, w0, w3, w7, wN, wk, wg, wc, wd, wo, wv⟩ := w; exact hB 9 a (by decide)) (by obtain ⟨hB, w0, w3, w7, wN, wk, wg, wc, wd, wo, wv⟩ := w; exact hB 9 b (by decide))
  have hq := qwid_le w (u 9 a) (u 9 b) (u 0 3) (Nat.le_refl _)
  have hpa := km_power h w ha
  have hpb := km_power h w hb
  have ht := km_truce h w (a := a) (b := b) (by omega) (by omega)
  obtain ⟨m0, m1, m2, m3, m4, m5, m6, m7, m8, m9, n1, n2, n3, n4, n5, n6, n7, n8, n9, nT⟩ := h
  obtain ⟨hB, w0, w3, w7, wN, wk, wg, wc, wd, wo, wv⟩ := w
  have h6 := wc a ha
  have hi := qwid_iff (u := u) (k := u 6 a) (by omega) (u 9 a) (u 9 b) (u 0 3)
  simp (disch := omega) only [f_X9_whySpares, xl_s, ob_s, xb_s, rd_n, wr_n, m_1, m_1b, nI_add, pk_mul, l_0, l_1, l_2, l_3, l_4, l_5, l_6, l_7, l_8, l_9, l_10, l_11, l_12, l_13, l_14, l_15, l_16, l_17, l_18, l_19, l_20, l_21, l_22, l_23, l_24, l_30, l_31, l_32, l_40, l_41, l_48, l_57, l_59, l_64, l_90, l_97, l_99, l_100, l_119, l_122, l_186, l_200, l_255, l_600, l_999, l_1488, l_1000000, km_of, n6, n9, hw, ht, hpa, hpb, nI_leI, nI_ltI, p_i, qchase]
  congr 2
  by_cases e : u 6 a ≤ qwid u (u 9 a) (u 9 b) (u 0 3)
  · rw [if_pos e, if_neg (show ¬ qnear u a b = false by rw [qnear, decide_eq_true (hi.mp e)]; decide)]
    by_cases e2 : 0 < qtl u a b
    · rw [if_pos e2, if_neg (by omega)]
    · rw [if_neg e2, if_pos (by omega)]
      by_cases e3 : qpow u a ≤ qpow u b
      · rw [if_pos e3, if_neg (by omega)]
      · rw [if_neg e3, if_pos (by omega)]
  · rw [if_neg e, if_pos (show qnear u a b = false by rw [qnear, decide_eq_false (fun q => e (hi.mpr q))])]
end
