/-! level 2: what is asked at the top: sets, ways, counts -/
section
variable {S T : XS} {u : QU} {a b c d g k : Nat}
def qwide (u : QU) (s t : Nat) : Nat → Nat
  | 0 => 0
  | n + 1 => if (qit u (2 ^ u 0 0 - 1) (n + 1) s 10).testBit t = true then n + 2 else qwide u s t n
theorem kc_widest (h : RC S u) (w : WF u) (ha : a < u 0 0) (hb : b < u 0 0) : f_X6_widestGirth S (nI a) (nI b) = some (oI (qwide u a b 9)) := by
  have h0 : u 0 0 ≤ 10 := by obtain ⟨hB, w0, w3, w7, wN, wk, wg, wc, wd, wo, wv⟩ := w; exact w0
  have h00 : S 0 0 = nI (u 0 0) := h.1.1
  have hp : 2 ^ u 0 0 ≤ 1024 := Nat.pow_le_pow_right (n := 2) (by decide) h0
  have hsh : nI (2 ^ u 0 0) - nI 1 = nI (2 ^ u 0 0 - 1) := pk_sub (Nat.two_pow_pos _)
  have hsp := fun lw (h3 : lw < 1048576) => kc_spread h w (s := a) (al := 2 ^ u 0 0 - 1) (lw := lw) (st := 10) (by omega) (by omega) h3 (by decide)
  have hl := fun lw => qit_lt w (al := 2 ^ u 0 0 - 1) (lw := lw) (s := a) (by omega) 10
  unfold f_X6_widestGirth
  simp (disch := omega) only [xl_s, ob_s, xb_s, rd_n, wr_n, m_1, m_1b, nI_add, pk_mul, l_0, l_1, l_2, l_3, l_4, l_5, l_6, l_7, l_8, l_9, l_10, l_11, l_12, l_13, l_14, l_15, l_16, l_17, l_18, l_19, l_20, l_21, l_22, l_23, l_24, l_30, l_31, l_32, l_40, l_41, l_48, l_57, l_59, l_64, l_90, l_97, l_99, l_100, l_119, l_122, l_186, l_200, l_255, l_600, l_999, l_1488, l_1000000, h00, sh_n, hsh]
  have key : ∀ n f, n < 10 → n < f → f_X6_widestGirth_L13 (fun v4 => some (oI 0)) S (nI a) (nI b) (nI (2 ^ u 0 0 - 1)) f (nI n) = some (oI (qwide u a b n)) := by
    intro n
    induction n with
    | zero =>
      intro f _ hf
      obtain ⟨f, rfl⟩ : ∃ k, f = k + 1 := ⟨f - 1, by omega⟩
      simp (disch := omega) only [f_X6_widestGirth_L13, xl_s, ob_s, xb_s, rd_n, wr_n, m_1, m_1b, nI_add, pk_mul, l_0, l_1, l_2, l_3, l_4, l_5, l_6, l_7, l_8, l_9, l_10, l_11, l_12, l_13, l_14, l_15, l_16, l_17, l_18, l_19, l_20, l_21, l_22, l_23, l_24, l_30, l_31, l_32, l_40, l_41, l_48, l_57, l_59, l_64, l_90, l_97, l_99, l_100, l_119, l_122, l_186, l_200, l_255, l_600, l_999, l_1488, l_1000000, i_ltT]
      rfl
    | succ n ih =>
      intro f hn hf
      obtain ⟨f, rfl⟩ : ∃ k, f = k + 1 := ⟨f - 1, by omega⟩
      have hl1 := hl (n + 1)
      simp (disch := omega) only [f_X6_widestGirth_L13, xl_s, ob_s, xb_s, rd_n, wr_n, m_1, m_1b, nI_add, pk_mul, l_0, l_1, l_2, l_3, l_4, l_5, l_6, l_7, l_8, l_9, l_10, l_11, l_12, l_13, l_14, l_15, l_16, l_17, l_18, l_19, l_20, l_21, l_22, l_23, l_24, l_30, l_31, l_32, l_40, l_41, l_48, l_57, l_59, l_64, l_90, l_97, l_99, l_100, l_119, l_122, l_186, l_200, l_255, l_600, l_999, l_1488, l_1000000, i_ltF, hsp, bt_n, bt_0]
      rw [qwide]
      cases e : (qit u (2 ^ u 0 0 - 1) (n + 1) a 10).testBit b
      · rw [if_pos (show false = false from rfl), if_neg (show ¬ false = true by decide), show nI (n + 1) + oI 0 = nI n from pk_m1 n]
        exact ih f (by omega) (by omega)
      · rw [if_neg (show ¬ true = false by decide), if_pos (show true = true from rfl)]
        rfl
  exact key 9 FU (by decide) (FU_lt (by decide))
theorem km_widestW (h : RM (T 1) u) (w : WF u) (ha : a < u 0 0) (hb : b < u 0 0) {T0 : XS} {R : Option (Int32 × XS)} (hR : ∀ r, r = oI (qwide u a b 9) → some (r, T0) = R) (hT : T0 = T) : f_X9_widestWay_L33 (fun _ => some (oI 0, T0)) T (nI a) (nI b) FU (nI 9) = R := by
  subst hT
  have h0 : u 0 0 ≤ 10 := by obtain ⟨hB, w0, w3, w7, wN, wk, wg, wc, wd, wo, wv⟩ := w; exact w0
  have hq := fun lw => qnt_qit w (lw := lw) ha
  have hre := fun lw (h3 : lw < 1048576) => km_reached h w (s := a) (lw := lw) (by omega) h3
  have hl := fun lw => qit_lt w (al := 2 ^ u 0 0 - 1) (lw := lw) (s := a) (by omega) 10
  rw [← hR _ rfl]
  have key : ∀ n f, n < 10 → n < f → f_X9_widestWay_L33 (fun _ => some (oI 0, T0)) T0 (nI a) (nI b) f (nI n) = some (oI (qwide u a b n), T0) := by
    intro n
    induction n with
    | zero =>
      intro f _ hf
      obtain ⟨f, rfl⟩ : ∃ k, f = k + 1 := ⟨f - 1, by omega⟩
      simp (disch := omega) only [f_X9_widestWay_L33, xl_s, ob_s, xb_s, rd_n, wr_n, m_1, m_1b, nI_add, pk_mul, l_0, l_1, l_2, l_3, l_4, l_5, l_6, l_7, l_8, l_9, l_10, l_11, l_12, l_13, l_14, l_15, l_16, l_17, l_18, l_19, l_20, l_21, l_22, l_23, l_24, l_30, l_31, l_32, l_40, l_41, l_48, l_57, l_59, l_64, l_90, l_97, l_99, l_100, l_119, l_122, l_186, l_200, l_255, l_600, l_999, l_1488, l_1000000, i_leT]
      rfl
    | succ n ih =>
      intro f hn hf
      obtain ⟨f, rfl⟩ : ∃ k, f = k + 1 := ⟨f - 1, by omega⟩
      have hl1 := hl (n + 1)
      simp (disch := omega) only [f_X9_widestWay_L33, xl_s, ob_s, xb_s, rd_n, wr_n, m_1, m_1b, nI_add, pk_mul, l_0, l_1, l_2, l_3, l_4, l_5, l_6, l_7, l_8, l_9, l_10, l_11, l_12, l_13, l_14, l_15, l_16, l_17, l_18, l_19, l_20, l_21, l_22, l_23, l_24, l_30, l_31, l_32, l_40, l_41, l_48, l_57, l_59, l_64, l_90, l_97, l_99, l_100, l_119, l_122, l_186, l_200, l_255, l_600, l_999, l_1488, l_1000000, i_leF, hre, hq, bt_n, bt_1]
      rw [qwide]
      cases e : (qit u (2 ^ u 0 0 - 1) (n + 1) a 10).testBit b
      · rw [if_neg (show ¬ false = true by decide), if_neg (show ¬ false = true by decide), show nI (n + 1) + oI 0 = nI n from pk_m1 n]
        exact ih f (by omega) (by omega)
      · rw [if_pos (show true = true from rfl), if_pos (show true = true from rfl)]
        rfl
  exact key 9 FU (by decide) (FU_lt (by decide))
/-- open gutters -/
def qopen (u : QU) (c : Nat) : Nat := qm (fun g => decide (qstep u c g = 0)) (u 0 3)
theorem qstep_le (u : QU) (c g : Nat) : qstep u c g ≤ 4 := by
  unfold qstep
  repeat' split
  all_goals decide
theorem qchase_le (u : QU) (a b : Nat) : qchase u a b ≤ 9 := by
  unfold qchase
  repeat' split
  all_goals decide
theorem qclaim_le (u : QU) (a : Nat) : qclaim u a ≤ 6 := by
  unfold qclaim
  repeat' split
  all_goals decide
theorem kc_open {C : XS} (h : RC (xs 1 C) u) (w : WF u) (hc : c < u 0 7) {K : Int32 → Int32 → Option (Nat × Int32 × XS)} : f_X8_openGutters_L9 K C (nI c) FU (nI 0) (nI 0) = K (nI (qopen u c)) (nI (u 0 3)) := by
  have hs := fun g (hg : g < u 0 3) => kc_step h w hc hg
  have hl := qstep_le u c
  have h3 : C 1 3 = nI (u 0 3) := h.1.2.1
  have w3 : u 0 3 ≤ 20 := by obtain ⟨hB, w0, w3, w7, wN, wk, wg, wc, wd, wo, wv⟩ := w; exact w3
  refine q_lp (fun n j m => f_X8_openGutters_L9 K C (nI c) n m (nI j) = _) (fun j m => m = nI (qm (fun g => decide (qstep u c g = 0)) j)) (u 0 3) (nI 0) (by omega) rfl ?_ ?_
  · intro n m e
    subst e
    simp (disch := omega) only [f_X8_openGutters_L9, h3, i_leT]
    rfl
  · intro n j m hj e ih
    subst e
    have h1 := hl j
    simp (disch := omega) only [f_X8_openGutters_L9, h3, i_leF, xl_s, ob_s, xb_s, rd_n, wr_n, m_1, m_1b, nI_add, pk_mul, l_0, l_1, l_2, l_3, l_4, l_5, l_6, l_7, l_8, l_9, l_10, l_11, l_12, l_13, l_14, l_15, l_16, l_17, l_18, l_19, l_20, l_21, l_22, l_23, l_24, l_30, l_31, l_32, l_40, l_41, l_48, l_57, l_59, l_64, l_90, l_97, l_99, l_100, l_119, l_122, l_186, l_200, l_255, l_600, l_999, l_1488, l_1000000, hs, nI_eq, sh_n, fa_or]
    by_cases q : qstep u c j = 0
    · rw [if_pos q]
      exact ih _ (by rw [qm, decide_eq_true q]; rfl)
    · rw [if_neg q]
      exact ih _ (by rw [qm, decide_eq_false q, if_neg (by decide), Nat.or_zero])
theorem km_open (h : RM (T 1) u) (w : WF u) (hc : c < u 0 7) {K : Int32 → Int32 → Option (Int32 × XS)} : f_X9_openGutters_L26 K T (nI c) FU (nI 0) (nI 0) = K (nI (qopen u c)) (nI (u 0 3)) := by
  have hs := fun g (hg : g < u 0 3) => km_step h w hc hg
  have hl := qstep_le u c
  obtain ⟨m0, m1, m2, m3, m4, m5, m6, m7, m8, m9, n1, n2, n3, n4, n5, n6, n7, n8, n9, nT⟩ := h
  have w3 : u 0 3 ≤ 20 := by obtain ⟨hB, w0, w3, w7, wN, wk, wg, wc, wd, wo, wv⟩ := w; exact w3
  refine q_lp (fun n j m => f_X9_openGutters_L26 K T (nI c) n m (nI j) = _) (fun j m => m = nI (qm (fun g => decide (qstep u c g = 0)) j)) (u 0 3) (nI 0) (by omega) rfl ?_ ?_
  · intro n m e
    subst e
    simp (disch := omega) only [f_X9_openGutters_L26, xl_s, ob_s, xb_s, rd_n, wr_n, m_1, m_1b, nI_add, pk_mul, l_0, l_1, l_2, l_3, l_4, l_5, l_6, l_7, l_8, l_9, l_10, l_11, l_12, l_13, l_14, l_15, l_16, l_17, l_18, l_19, l_20, l_21, l_22, l_23, l_24, l_30, l_31, l_32, l_40, l_41, l_48, l_57, l_59, l_64, l_90, l_97, l_99, l_100, l_119, l_122, l_186, l_200, l_255, l_600, l_999, l_1488, l_1000000, m1, i_leT]
    rfl
  · intro n j m hj e ih
    subst e
    have h1 := hl j
    simp (disch := omega) only [f_X9_openGutters_L26, m1, i_leF, xl_s, ob_s, xb_s, rd_n, wr_n, m_1, m_1b, nI_add, pk_mul, l_0, l_1, l_2, l_3, l_4, l_5, l_6, l_7, l_8, l_9, l_10, l_11, l_12, l_13, l_14, l_15, l_16, l_17, l_18, l_19, l_20, l_21, l_22, l_23, l_24, l_30, l_31, l_32, l_40, l_41, l_48, l_57, l_59, l_64, l_90, l_97, l_99, l_100, l_119, l_122, l_186, l_200, l_255, l_600, l_999, l_1488, l_1000000, hs, nI_eq, sh_n, fa_or, Nat.or_zero]
    by_cases q : qstep u c j = 0
    · rw [if_pos q]
      exact ih _ (by rw [qm, decide_eq_true q]; rfl)
    · rw [if_neg q]
      exact ih _ (by rw [qm, decide_eq_false q, if_neg (by decide), Nat.or_zero])
def qprey (u : QU) (c : Nat) : Nat := qm (fun t => decide (t ≠ c ∧ qchase u c t = 0)) (u 0 7)
theorem kc_prey {C : XS} (h : RC (xs 1 C) u) (w : WF u) (hc : c < u 0 7) {K : Int32 → Int32 → Option (Nat × Int32 × XS)} : f_X8_preyOf_L9 K C (nI c) FU (nI 0) (nI 0) = K (nI (qprey u c)) (nI (u 0 7)) := by
  have hs := fun g (hg : g < u 0 7) (hn : c ≠ g) => kc_chase h w hc hg hn
  have hl := qchase_le u c
  have h3 : C 1 7 = nI (u 0 7) := h.1.2.2.1
  have w7 : u 0 7 ≤ 8 := by obtain ⟨hB, w0, w3, w7, wN, wk, wg, wc, wd, wo, wv⟩ := w; exact w7
  refine q_lp (fun n j m => f_X8_preyOf_L9 K C (nI c) n m (nI j) = _) (fun j m => m = nI (qm (fun t => decide (t ≠ c ∧ qchase u c t = 0)) j)) (u 0 7) (nI 0) (by omega) rfl ?_ ?_
  · intro n m e
    subst e
    simp (disch := omega) only [f_X8_preyOf_L9, h3, i_leT]
    rfl
  · intro n j m hj e ih
    subst e
    have h1 := hl j
    by_cases z : j = c
    · simp (disch := omega) only [f_X8_preyOf_L9, h3, i_leF, xl_s, ob_s, xb_s, rd_n, wr_n, m_1, m_1b, nI_add, pk_mul, l_0, l_1, l_2, l_3, l_4, l_5, l_6, l_7, l_8, l_9, l_10, l_11, l_12, l_13, l_14, l_15, l_16, l_17, l_18, l_19, l_20, l_21, l_22, l_23, l_24, l_30, l_31, l_32, l_40, l_41, l_48, l_57, l_59, l_64, l_90, l_97, l_99, l_100, l_119, l_122, l_186, l_200, l_255, l_600, l_999, l_1488, l_1000000, i_eqT]
      exact ih _ (by rw [qm, decide_eq_false (fun q => q.1 z), if_neg (by decide), Nat.or_zero])
    · simp (disch := omega) only [f_X8_preyOf_L9, h3, i_leF, i_eqF, xl_s, ob_s, xb_s, rd_n, wr_n, m_1, m_1b, nI_add, pk_mul, l_0, l_1, l_2, l_3, l_4, l_5, l_6, l_7, l_8, l_9, l_10, l_11, l_12, l_13, l_14, l_15, l_16, l_17, l_18, l_19, l_20, l_21, l_22, l_23, l_24, l_30, l_31, l_32, l_40, l_41, l_48, l_57, l_59, l_64, l_90, l_97, l_99, l_100, l_119, l_122, l_186, l_200, l_255, l_600, l_999, l_1488, l_1000000, hs, sh_n, fa_or]
      simp (disch := omega) only [nI_eq]
      by_cases q : qchase u c j = 0
      · rw [if_pos q]
        exact ih _ (by rw [qm, decide_eq_true ⟨z, q⟩]; rfl)
      · rw [if_neg q]
        exact ih _ (by rw [qm, decide_eq_false (fun p => q p.2), if_neg (by decide), Nat.or_zero])
theorem km_prey (h : RM (T 1) u) (w : WF u) (hc : c < u 0 7) {K : Int32 → Int32 → Option (Int32 × XS)} : f_X9_preyOf_L26 K T (nI c) FU (nI 0) (nI 0) = K (nI (qprey u c)) (nI (u 0 7)) := by
  have hs := fun g (hg : g < u 0 7) => km_chase h w hc hg
  have hl := qchase_le u c
  obtain ⟨m0, m1, m2, m3, m4, m5, m6, m7, m8, m9, n1, n2, n3, n4, n5, n6, n7, n8, n9, nT⟩ := h
  have w7 : u 0 7 ≤ 8 := by obtain ⟨hB, w0, w3, w7, wN, wk, wg, wc, wd, wo, wv⟩ := w; exact w7
  refine q_lp (fun n j m => f_X9_preyOf_L26 K T (nI c) n m (nI j) = _) (fun j m => m = nI (qm (fun t => decide (t ≠ c ∧ qchase u c t = 0)) j)) (u 0 7) (nI 0) (by omega) rfl ?_ ?_
  · intro n m e
    subst e
    simp (disch := omega) only [f_X9_preyOf_L26, xl_s, ob_s, xb_s, rd_n, wr_n, m_1, m_1b, nI_add, pk_mul, l_0, l_1, l_2, l_3, l_4, l_5, l_6, l_7, l_8, l_9, l_10, l_11, l_12, l_13, l_14, l_15, l_16, l_17, l_18, l_19, l_20, l_21, l_22, l_23, l_24, l_30, l_31, l_32, l_40, l_41, l_48, l_57, l_59, l_64, l_90, l_97, l_99, l_100, l_119, l_122, l_186, l_200, l_255, l_600, l_999, l_1488, l_1000000, m2, i_leT]
    rfl
  · intro n j m hj e ih
    subst e
    have h1 := hl j
    by_cases z : j = c
    · simp (disch := omega) only [f_X9_preyOf_L26, m2, i_leF, xl_s, ob_s, xb_s, rd_n, wr_n, m_1, m_1b, nI_add, pk_mul, l_0, l_1, l_2, l_3, l_4, l_5, l_6, l_7, l_8, l_9, l_10, l_11, l_12, l_13, l_14, l_15, l_16, l_17, l_18, l_19, l_20, l_21, l_22, l_23, l_24, l_30, l_31, l_32, l_40, l_41, l_48, l_57, l_59, l_64, l_90, l_97, l_99, l_100, l_119, l_122, l_186, l_200, l_255, l_600, l_999, l_1488, l_1000000, i_eqT, or_0]
      exact ih _ (by rw [qm, decide_eq_false (fun q => q.1 z), if_neg (by decide), Nat.or_zero])
    · simp (disch := omega) only [f_X9_preyOf_L26, m2, i_leF, i_eqF, xl_s, ob_s, xb_s, rd_n, wr_n, m_1, m_1b, nI_add, pk_mul, l_0, l_1, l_2, l_3, l_4, l_5, l_6, l_7, l_8, l_9, l_10, l_11, l_12, l_13, l_14, l_15, l_16, l_17, l_18, l_19, l_20, l_21, l_22, l_23, l_24, l_30, l_31, l_32, l_40, l_41, l_48, l_57, l_59, l_64, l_90, l_97, l_99, l_100, l_119, l_122, l_186, l_200, l_255, l_600, l_999, l_1488, l_1000000, hs, sh_n, fa_or, Nat.or_zero]
      simp (disch := omega) only [nI_eq]
      by_cases q : qchase u c j = 0
      · rw [if_pos q]
        exact ih _ (by rw [qm, decide_eq_true ⟨z, q⟩]; rfl)
      · rw [if_neg q]
        exact ih _ (by rw [qm, decide_eq_false (fun p => q p.2), if_neg (by decide), Nat.or_zero])
theorem km_estate (h : RM (T 1) u) (w : WF u) (hc : c < 8) {K : Int32 → Int32 → Option (Int32 × XS)} : f_X9_ownedChimneys_L26 K T (nI c) FU (nI 0) (nI 0) = K (nI (qest u c)) (nI (u 0 0)) := by
  have h1 := fun k (hk : k < 10) => km_owner h hk
  obtain ⟨m0, m1, m2, m3, m4, m5, m6, m7, m8, m9, n1, n2, n3, n4, n5, n6, n7, n8, n9, nT⟩ := h
  obtain ⟨hB, w0, w3, w7, wN, wk, wg, wc, wd, wo, wv⟩ := w
  refine q_lp (fun n j m => f_X9_ownedChimneys_L26 K T (nI c) n m (nI j) = _) (fun j m => m = nI (qm (fun k => decide (u 2 k = c + 1)) j)) (u 0 0) (nI 0) (by omega) rfl ?_ ?_
  · intro n m e
    subst e
    simp (disch := omega) only [f_X9_ownedChimneys_L26, xl_s, ob_s, xb_s, rd_n, wr_n, m_1, m_1b, nI_add, pk_mul, l_0, l_1, l_2, l_3, l_4, l_5, l_6, l_7, l_8, l_9, l_10, l_11, l_12, l_13, l_14, l_15, l_16, l_17, l_18, l_19, l_20, l_21, l_22, l_23, l_24, l_30, l_31, l_32, l_40, l_41, l_48, l_57, l_59, l_64, l_90, l_97, l_99, l_100, l_119, l_122, l_186, l_200, l_255, l_600, l_999, l_1488, l_1000000, m0, i_leT]
    rfl
  · intro n j m hj e ih
    subst e
    simp (disch := omega) only [f_X9_ownedChimneys_L26, m0, i_leF, xl_s, ob_s, xb_s, rd_n, wr_n, m_1, m_1b, nI_add, pk_mul, l_0, l_1, l_2, l_3, l_4, l_5, l_6, l_7, l_8, l_9, l_10, l_11, l_12, l_13, l_14, l_15, l_16, l_17, l_18, l_19, l_20, l_21, l_22, l_23, l_24, l_30, l_31, l_32, l_40, l_41, l_48, l_57, l_59, l_64, l_90, l_97, l_99, l_100, l_119, l_122, l_186, l_200, l_255, l_600, l_999, l_1488, l_1000000, h1, eo_u hB, sh_n, fa_or, Nat.or_zero]
    by_cases q : u 2 j = c + 1
    · rw [if_pos q]
      exact ih _ (by rw [qm, decide_eq_true q]; rfl)
    · rw [if_neg q]
      exact ih _ (by rw [qm, decide_eq_false q, if_neg (by decide), Nat.or_zero])
theorem qds_wk (w : WF u) (hc : c < u 0 7) : qm (fun k => decide (qds u c k ≠ 0)) (u 0 0) = qwk u c 10 := by
  have h9 : u 9 c < u 0 0 ∧ u 0 0 ≤ 10 := by obtain ⟨hB, w0, w3, w7, wN, wk, wg, wc, wd, wo, wv⟩ := w; exact ⟨(wc c hc).2.2.2.2.2, w0⟩
  have hE : ∀ j k, EW u c j k → k < u 0 0 := fun j k q => EW_in q
  refine (qm_eq (x := qwk u c 10) (n := u 0 0) ?_ (fun k hk => ?_)).symm
  · refine Nat.lt_pow_two_of_testBit _ (fun i hi => ?_)
    cases e : (qwk u c 10).testBit i
    · rfl
    · have := rch_in hE h9.1 ((qwk_bit u c 10 i).mp e)
      omega
  · refine Bool.eq_iff_iff.mpr ?_
    rw [qwk_bit, decide_eq_true_eq]
    constructor
    · intro h q
      have h1 := rch_all (m := 9) hE h9.1 (by omega) h
      have h2 := qf_0 q 9 (by decide)
      rw [(qwk_bit u c 9 k).mpr h1] at h2
      cases h2
    · intro h
      obtain ⟨n, hn⟩ : ∃ n, qds u c k = n + 1 := ⟨qds u c k - 1, by omega⟩
      obtain ⟨h1, h2, -⟩ := qf_s hn
      exact rch_le ((qwk_bit u c n k).mp h2) (by omega)
theorem qds_le (u : QU) (c k : Nat) : qds u c k ≤ 10 := qf_le
theorem km_reach (h : RM (T 1) u) (w : WF u) (hc : c < u 0 7) (h8 : ∀ k, k < 10 → T 8 k = oI (qds u c k)) {x : Int32} {K : Int32 → Int32 → Option (Int32 × XS)} : f_X9_reachable_L31 K T x FU (nI 0) (nI 0) = K (nI (qwk u c 10)) (nI (u 0 0)) := by
  rw [← qds_wk w hc]
  have hl := qds_le u c
  obtain ⟨m0, m1, m2, m3, m4, m5, m6, m7, m8, m9, n1, n2, n3, n4, n5, n6, n7, n8, n9, nT⟩ := h
  obtain ⟨hB, w0, w3, w7, wN, wk, wg, wc, wd, wo, wv⟩ := w
  refine q_lp (fun n j m => f_X9_reachable_L31 K T x n m (nI j) = _) (fun j m => m = nI (qm (fun k => decide (qds u c k ≠ 0)) j)) (u 0 0) (nI 0) (by omega) rfl ?_ ?_
  · intro n m e
    subst e
    simp (disch := omega) only [f_X9_reachable_L31, xl_s, ob_s, xb_s, rd_n, wr_n, m_1, m_1b, nI_add, pk_mul, l_0, l_1, l_2, l_3, l_4, l_5, l_6, l_7, l_8, l_9, l_10, l_11, l_12, l_13, l_14, l_15, l_16, l_17, l_18, l_19, l_20, l_21, l_22, l_23, l_24, l_30, l_31, l_32, l_40, l_41, l_48, l_57, l_59, l_64, l_90, l_97, l_99, l_100, l_119, l_122, l_186, l_200, l_255, l_600, l_999, l_1488, l_1000000, m0, i_leT]
  · intro n j m hj e ih
    subst e
    have h1 := hl j
    simp (disch := omega) only [f_X9_reachable_L31, m0, i_leF, xl_s, ob_s, xb_s, rd_n, wr_n, m_1, m_1b, nI_add, pk_mul, l_0, l_1, l_2, l_3, l_4, l_5, l_6, l_7, l_8, l_9, l_10, l_11, l_12, l_13, l_14, l_15, l_16, l_17, l_18, l_19, l_20, l_21, l_22, l_23, l_24, l_30, l_31, l_32, l_40, l_41, l_48, l_57, l_59, l_64, l_90, l_97, l_99, l_100, l_119, l_122, l_186, l_200, l_255, l_600, l_999, l_1488, l_1000000, h8, oI_eq, sh_n, fa_or, Nat.or_zero]
    by_cases q : qds u c j = 0
    · rw [if_pos q]
      exact ih _ (by rw [qm, decide_eq_false (fun z => z q), if_neg (by decide), Nat.or_zero])
    · rw [if_neg q]
      exact ih _ (by rw [qm, decide_eq_true q]; rfl)
theorem kc_count {C : XS} (h : RC (xs 1 C) u) (w : WF u) : f_X8_choirCount C = some (nI (qcn u (u 0 7))) := by
  have hch := fun c (hc : c < u 0 7) => kc_choir h w hc
  have hcl := qcp_lt w
  have h3 : C 1 7 = nI (u 0 7) := h.1.2.2.1
  have w7 : u 0 7 ≤ 8 := by obtain ⟨hB, w0, w3, w7, wN, wk, wg, wc, wd, wo, wv⟩ := w; exact w7
  unfold f_X8_choirCount
  simp only [l_0]
  refine q_lp (fun n j (m : Int32 × Int32) => f_X8_choirCount_L6 _ C n m.1 m.2 (nI j) = some (nI (qcn u (u 0 7)))) (fun j m => m = (nI (qcp u j), nI (qcn u j))) (u 0 7) (nI 0, nI 0) (by omega) rfl ?_ ?_
  · intro n m e
    subst e
    simp (disch := omega) only [f_X8_choirCount_L6, h3, i_leT]
  · intro n j m hj e ih
    subst e
    have h1 := hcl j
    simp (disch := omega) only [f_X8_choirCount_L6, h3, i_leF, xl_s, ob_s, xb_s, rd_n, wr_n, m_1, m_1b, nI_add, pk_mul, l_0, l_1, l_2, l_3, l_4, l_5, l_6, l_7, l_8, l_9, l_10, l_11, l_12, l_13, l_14, l_15, l_16, l_17, l_18, l_19, l_20, l_21, l_22, l_23, l_24, l_30, l_31, l_32, l_40, l_41, l_48, l_57, l_59, l_64, l_90, l_97, l_99, l_100, l_119, l_122, l_186, l_200, l_255, l_600, l_999, l_1488, l_1000000, bt_n, bt_0, hch, fa_or]
    by_cases e : (qcp u j).testBit j = true
    · rw [if_neg (by rw [e]; decide)]
      refine ih (nI (qcp u j), nI (qcn u j)) ?_
      rw [qcp, if_pos e, qcn, if_pos e]
    · rw [if_pos (b_f e)]
      refine ih (nI (qcp u j ||| qch u j), nI (qcn u j + 1)) ?_
      rw [qcp, if_neg e, qcn, if_neg e]
theorem km_count (h : RM (T 1) u) (w : WF u) {K : Int32 → Int32 → Option (Int32 × XS)} : f_X9_choirCount_L9 K T FU (nI 0) (nI 0) = K (nI (qcn u (u 0 7))) (nI (u 0 7)) := by
  have hch := fun c (hc : c < u 0 7) => km_choir h w hc
  have hcl := qch_lt w
  have hmod := fun c (hc : c < u 0 7) => ch_mod w hc
  obtain ⟨m0, m1, m2, m3, m4, m5, m6, m7, m8, m9, n1, n2, n3, n4, n5, n6, n7, n8, n9, nT⟩ := h
  have w7 : u 0 7 ≤ 8 := by obtain ⟨hB, w0, w3, w7, wN, wk, wg, wc, wd, wo, wv⟩ := w; exact w7
  refine q_lp (fun n j m => f_X9_choirCount_L9 K T n m (nI j) = _) (fun j m => m = nI (qcn u j)) (u 0 7) (nI 0) (by omega) rfl ?_ ?_
  · intro n m e
    subst e
    simp (disch := omega) only [f_X9_choirCount_L9, xl_s, ob_s, xb_s, rd_n, wr_n, m_1, m_1b, nI_add, pk_mul, l_0, l_1, l_2, l_3, l_4, l_5, l_6, l_7, l_8, l_9, l_10, l_11, l_12, l_13, l_14, l_15, l_16, l_17, l_18, l_19, l_20, l_21, l_22, l_23, l_24, l_30, l_31, l_32, l_40, l_41, l_48, l_57, l_59, l_64, l_90, l_97, l_99, l_100, l_119, l_122, l_186, l_200, l_255, l_600, l_999, l_1488, l_1000000, m2, i_leT]
  · intro n j m hj e ih
    subst e
    have h1 := hcl j
    have hp : 2 ^ j ≤ 2 ^ 8 := Nat.pow_le_pow_right (by decide) (by omega)
    have hp0 : 0 < 2 ^ j := Nat.two_pow_pos j
    have hml : qch u j % 2 ^ j < 2 ^ j := Nat.mod_lt _ hp0
    have h2 := hmod j hj
    simp (disch := omega) only [f_X9_choirCount_L9, m2, i_leF, xl_s, ob_s, xb_s, rd_n, wr_n, m_1, m_1b, nI_add, pk_mul, l_0, l_1, l_2, l_3, l_4, l_5, l_6, l_7, l_8, l_9, l_10, l_11, l_12, l_13, l_14, l_15, l_16, l_17, l_18, l_19, l_20, l_21, l_22, l_23, l_24, l_30, l_31, l_32, l_40, l_41, l_48, l_57, l_59, l_64, l_90, l_97, l_99, l_100, l_119, l_122, l_186, l_200, l_255, l_600, l_999, l_1488, l_1000000, hch, sh_n, i_eqF, pk_rem, Nat.add_zero]
    simp (disch := omega) only [nI_eq]
    by_cases e : (qcp u j).testBit j = true
    · rw [if_neg (fun q => h2.mp q e)]
      exact ih _ (by rw [qcn, if_pos e])
    · rw [if_pos (h2.mpr e)]
      exact ih _ (by rw [qcn, if_neg e])
def qrich (u : QU) : Nat → Nat
  | 0 => 0
  | c + 1 => if qrich u c = 0 then c + 1 else if u 8 c ≤ u 8 (qrich u c - 1) then qrich u c else c + 1
theorem qrich_le (u : QU) : ∀ c, qrich u c ≤ c
  | 0 => Nat.le_refl 0
  | c + 1 => by
    have ih := qrich_le u c
    rw [qrich]
    split
    · omega
    · split <;> omega
theorem kc_rich {C : XS} (h : RC (xs 1 C) u) (w : WF u) : f_X8_richestCat C = some (oI (qrich u (u 0 7))) := by
  have hq := qrich_le u
  have h3 : C 1 7 = nI (u 0 7) := h.1.2.2.1
  have r8 : ∀ c, c < u 0 7 → C 9 c = nI (u 8 c) := h.2.2.2.2.2.2.2.2.1
  obtain ⟨hB, w0, w3, w7, wN, wk, wg, wc, wd, wo, wv⟩ := w
  have h1 := fun i => hB 8 i (by decide)
  unfold f_X8_richestCat
  simp only [l_0, l_1, m_1b]
  refine q_lp (fun n j (m : Int32 × Int32) => f_X8_richestCat_L6 _ C n m.1 m.2 (nI j) = some (oI (qrich u (u 0 7)))) (fun j m => m = (oI (qrich u j), oI (if qrich u j = 0 then 0 else u 8 (qrich u j - 1) + 1))) (u 0 7) (oI 0, oI 0) (by omega) rfl ?_ ?_
  · intro n m e
    subst e
    simp (disch := omega) only [f_X8_richestCat_L6, h3, i_leT]
  · intro n j m hj e ih
    subst e
    have h4 := h1 j
    have h5 := h1 (qrich u j - 1)
    have h6 : (if qrich u j = 0 then 0 else u 8 (qrich u j - 1) + 1) ≤ u 8 (qrich u j - 1) + 1 := by split <;> omega
    simp (disch := omega) only [f_X8_richestCat_L6, h3, i_leF, xl_s, ob_s, xb_s, rd_n, wr_n, m_1, m_1b, nI_add, pk_mul, l_0, l_1, l_2, l_3, l_4, l_5, l_6, l_7, l_8, l_9, l_10, l_11, l_12, l_13, l_14, l_15, l_16, l_17, l_18, l_19, l_20, l_21, l_22, l_23, l_24, l_30, l_31, l_32, l_40, l_41, l_48, l_57, l_59, l_64, l_90, l_97, l_99, l_100, l_119, l_122, l_186, l_200, l_255, l_600, l_999, l_1488, l_1000000, r8, le_oI]
    by_cases e0 : qrich u j = 0
    · rw [if_neg (by rw [if_pos e0]; omega)]
      refine ih (nI j, nI (u 8 j)) ?_
      have e1 : qrich u (j + 1) = j + 1 := by rw [qrich, if_pos e0]
      rw [e1, if_neg (by omega)]
      rfl
    · by_cases e2 : u 8 j ≤ u 8 (qrich u j - 1)
      · rw [if_pos (by rw [if_neg e0]; omega)]
        have e1 : qrich u (j + 1) = qrich u j := by rw [qrich, if_neg e0, if_pos e2]
        refine ih (oI (qrich u j), oI (if qrich u j = 0 then 0 else u 8 (qrich u j - 1) + 1)) ?_
        rw [e1]
      · rw [if_neg (by rw [if_neg e0]; omega)]
        refine ih (nI j, nI (u 8 j)) ?_
        have e1 : qrich u (j + 1) = j + 1 := by rw [qrich, if_neg e0, if_neg e2]
        rw [e1, if_neg (by omega)]
        rfl
theorem km_rich (h : RM (T 1) u) (w : WF u) {K : Int32 → Int32 → Option (Int32 × XS)} : f_X9_richestCat_L9 K T FU (oI 0) (nI 0) = K (oI (qrich u (u 0 7))) (nI (u 0 7)) := by
  have hq := qrich_le u
  obtain ⟨m0, m1, m2, m3, m4, m5, m6, m7, m8, m9, n1, n2, n3, n4, n5, n6, n7, n8, n9, nT⟩ := h
  obtain ⟨hB, w0, w3, w7, wN, wk, wg, wc, wd, wo, wv⟩ := w
  refine q_lp (fun n j m => f_X9_richestCat_L9 K T n m (nI j) = _) (fun j m => m = oI (qrich u j)) (u 0 7) (oI 0) (by omega) rfl ?_ ?_
  · intro n m e
    subst e
    simp (disch := omega) only [f_X9_richestCat_L9, xl_s, ob_s, xb_s, rd_n, wr_n, m_1, m_1b, nI_add, pk_mul, l_0, l_1, l_2, l_3, l_4, l_5, l_6, l_7, l_8, l_9, l_10, l_11, l_12, l_13, l_14, l_15, l_16, l_17, l_18, l_19, l_20, l_21, l_22, l_23, l_24, l_30, l_31, l_32, l_40, l_41, l_48, l_57, l_59, l_64, l_90, l_97, l_99, l_100, l_119, l_122, l_186, l_200, l_255, l_600, l_999, l_1488, l_1000000, m2, i_leT]
  · intro n j m hj e ih
    subst e
    have h3 := hq j
    simp (disch := omega) only [f_X9_richestCat_L9, xl_s, ob_s, xb_s, rd_n, wr_n, m_1, m_1b, nI_add, pk_mul, l_0, l_1, l_2, l_3, l_4, l_5, l_6, l_7, l_8, l_9, l_10, l_11, l_12, l_13, l_14, l_15, l_16, l_17, l_18, l_19, l_20, l_21, l_22, l_23, l_24, l_30, l_31, l_32, l_40, l_41, l_48, l_57, l_59, l_64, l_90, l_97, l_99, l_100, l_119, l_122, l_186, l_200, l_255, l_600, l_999, l_1488, l_1000000, m2, i_leF, oI_eq]
    by_cases e1 : qrich u j = 0
    · rw [if_pos e1]
      exact ih _ (by rw [qrich, if_pos e1]; rfl)
    · rw [if_neg e1]
      obtain ⟨f, hf⟩ : ∃ f, qrich u j = f + 1 := ⟨qrich u j - 1, by omega⟩
      rw [hf, show oI (f + 1) = nI f from rfl]
      simp (disch := omega) only [xl_s, ob_s, xb_s, rd_n, wr_n, m_1, m_1b, nI_add, pk_mul, l_0, l_1, l_2, l_3, l_4, l_5, l_6, l_7, l_8, l_9, l_10, l_11, l_12, l_13, l_14, l_15, l_16, l_17, l_18, l_19, l_20, l_21, l_22, l_23, l_24, l_30, l_31, l_32, l_40, l_41, l_48, l_57, l_59, l_64, l_90, l_97, l_99, l_100, l_119, l_122, l_186, l_200, l_255, l_600, l_999, l_1488, l_1000000, km_of, n8, le_uu hB]
      by_cases e2 : u 8 j ≤ u 8 f
      · rw [if_pos e2]
        exact ih _ (by rw [qrich, if_neg e1, hf, Nat.add_sub_cancel, if_pos e2]; rfl)
      · rw [if_neg e2]
        exact ih _ (by rw [qrich, if_neg e1, hf, Nat.add_sub_cancel, if_neg e2]; rfl)
def qfm (t : Nat) : Nat := if t % 8 < 4 then 4 - t % 8 else 12 - t % 8
theorem kc_moon {C : XS} (h : RC (xs 1 C) u) (w : WF u) : f_X8_nightsToFullMoon C = some (nI (qfm (u 0 13))) := by
  have hN : C 1 13 = nI (u 0 13) := h.1.2.2.2.1
  obtain ⟨hB, w0, w3, w7, wN, wk, wg, wc, wd, wo, wv⟩ := w
  simp (disch := omega) only [f_X8_nightsToFullMoon, xl_s, ob_s, xb_s, rd_n, wr_n, m_1, m_1b, nI_add, pk_mul, l_0, l_1, l_2, l_3, l_4, l_5, l_6, l_7, l_8, l_9, l_10, l_11, l_12, l_13, l_14, l_15, l_16, l_17, l_18, l_19, l_20, l_21, l_22, l_23, l_24, l_30, l_31, l_32, l_40, l_41, l_48, l_57, l_59, l_64, l_90, l_97, l_99, l_100, l_119, l_122, l_186, l_200, l_255, l_600, l_999, l_1488, l_1000000, hN, pk_rem]
  unfold qfm
  by_cases e : u 0 13 % 8 < 4
  · rw [if_pos e, pk_sub (by omega), if_neg (nI_ge (by omega) (by omega))]
  · rw [if_neg e]
    have h1 : (nI 4 - nI (u 0 13 % 8)).toInt = (4 : Int) - (u 0 13 % 8 : Nat) := pk_sub_toInt (by decide) (by omega)
    rw [if_pos (by rw [Int32.le_iff_toInt_le, h1, nI_toInt (by decide)]; omega)]
    have h2 : nI 4 - nI (u 0 13 % 8) + nI 8 = nI 12 - nI (u 0 13 % 8) := by
      rw [Int32.sub_eq_add_neg, Int32.sub_eq_add_neg, Int32.add_assoc, Int32.add_comm (-nI (u 0 13 % 8)), ← Int32.add_assoc, nI_add]
    rw [h2, pk_sub (by omega)]
theorem km_moon (h : RM (T 1) u) (w : WF u) {K : Int32 → Option (Int32 × XS)} : f_X9_nightsToFullMoon_L7 K T FU (nI 1) = K (nI (qfm (u 0 13))) := by
  obtain ⟨m0, m1, m2, m3, m4, m5, m6, m7, m8, m9, n1, n2, n3, n4, n5, n6, n7, n8, n9, nT⟩ := h
  obtain ⟨hB, w0, w3, w7, wN, wk, wg, wc, wd, wo, wv⟩ := w
  have hf : 1 ≤ qfm (u 0 13) ∧ qfm (u 0 13) ≤ 8 ∧ (u 0 13 + qfm (u 0 13)) % 8 = 4 ∧ ∀ n, 1 ≤ n → n < qfm (u 0 13) → (u 0 13 + n) % 8 ≠ 4 := by
    unfold qfm
    by_cases e : u 0 13 % 8 < 4
    · rw [if_pos e]; exact ⟨by omega, by omega, by omega, fun n h1 h2 => by omega⟩
    · rw [if_neg e]; exact ⟨by omega, by omega, by omega, fun n h1 h2 => by omega⟩
  obtain ⟨f1, f2, f3, f4⟩ := hf
  generalize qfm (u 0 13) = N at *
  have key : ∀ d n f, n + d = N → 1 ≤ n → d < f → f_X9_nightsToFullMoon_L7 K T f (nI n) = K (nI N) := by
    intro d
    induction d with
    | zero =>
      intro n f hn h1 hf
      obtain ⟨f, rfl⟩ : ∃ k, f = k + 1 := ⟨f - 1, by omega⟩
      obtain rfl : n = N := by omega
      simp (disch := omega) only [f_X9_nightsToFullMoon_L7, xl_s, ob_s, xb_s, rd_n, wr_n, m_1, m_1b, nI_add, pk_mul, l_0, l_1, l_2, l_3, l_4, l_5, l_6, l_7, l_8, l_9, l_10, l_11, l_12, l_13, l_14, l_15, l_16, l_17, l_18, l_19, l_20, l_21, l_22, l_23, l_24, l_30, l_31, l_32, l_40, l_41, l_48, l_57, l_59, l_64, l_90, l_97, l_99, l_100, l_119, l_122, l_186, l_200, l_255, l_600, l_999, l_1488, l_1000000, m3, pk_rem, i_eqT]
    | succ d ih =>
      intro n f hn h1 hf
      obtain ⟨f, rfl⟩ : ∃ k, f = k + 1 := ⟨f - 1, by omega⟩
      have h2 := f4 n h1 (by omega)
      simp (disch := omega) only [f_X9_nightsToFullMoon_L7, xl_s, ob_s, xb_s, rd_n, wr_n, m_1, m_1b, nI_add, pk_mul, l_0, l_1, l_2, l_3, l_4, l_5, l_6, l_7, l_8, l_9, l_10, l_11, l_12, l_13, l_14, l_15, l_16, l_17, l_18, l_19, l_20, l_21, l_22, l_23, l_24, l_30, l_31, l_32, l_40, l_41, l_48, l_57, l_59, l_64, l_90, l_97, l_99, l_100, l_119, l_122, l_186, l_200, l_255, l_600, l_999, l_1488, l_1000000, m3, pk_rem, i_eqF]
      exact ih (n + 1) f (by omega) (by omega) (by omega)
  exact key (N - 1) 1 FU (by omega) (by decide) (FU_lt (by omega))
def qoc (u : QU) : Nat := fb_ct (fun k => decide (u 2 k ≠ 0)) (u 0 0)
theorem kc_share {C : XS} (h : RC (xs 1 C) u) (w : WF u) {K : Int32 → Int32 → Option (UInt32 × XS)} : f_X8_ownedShare_L16 K C FU (nI 0) (nI 0) = K (nI (qoc u)) (nI (u 0 0)) := by
  have h3 : C 1 0 = nI (u 0 0) := h.1.1
  have r2 : ∀ c, c < u 0 0 → C 3 c = oI (u 2 c) := h.2.2.1
  obtain ⟨hB, w0, w3, w7, wN, wk, wg, wc, wd, wo, wv⟩ := w
  refine q_lp (fun n j m => f_X8_ownedShare_L16 K C n m (nI j) = _) (fun j m => m = nI (fb_ct (fun k => decide (u 2 k ≠ 0)) j)) (u 0 0) (nI 0) (by omega) rfl ?_ ?_
  · intro n m e
    subst e
    simp (disch := omega) only [f_X8_ownedShare_L16, h3, i_leT]
    rfl
  · intro n j m hj e ih
    subst e
    simp (disch := omega) only [f_X8_ownedShare_L16, h3, i_leF, xl_s, ob_s, xb_s, rd_n, wr_n, m_1, m_1b, nI_add, pk_mul, l_0, l_1, l_2, l_3, l_4, l_5, l_6, l_7, l_8, l_9, l_10, l_11, l_12, l_13, l_14, l_15, l_16, l_17, l_18, l_19, l_20, l_21, l_22, l_23, l_24, l_30, l_31, l_32, l_40, l_41, l_48, l_57, l_59, l_64, l_90, l_97, l_99, l_100, l_119, l_122, l_186, l_200, l_255, l_600, l_999, l_1488, l_1000000, r2, oe_u hB]
    by_cases q : u 2 j = 0
    · rw [if_pos q]
      exact ih _ (by rw [fb_ct_succ, decide_eq_false (fun z => z q)]; rfl)
    · rw [if_neg q]
      exact ih _ (by rw [fb_ct_succ, decide_eq_true q]; rfl)
theorem km_share (h : RM (T 1) u) (w : WF u) {K : Int32 → Int32 → Option (UInt32 × XS)} : f_X9_ownedShare_L9 K T FU (nI 0) (nI 0) = K (nI (qoc u)) (nI (u 0 0)) := by
  have h1 := fun k (hk : k < 10) => km_owner h hk
  obtain ⟨m0, m1, m2, m3, m4, m5, m6, m7, m8, m9, n1, n2, n3, n4, n5, n6, n7, n8, n9, nT⟩ := h
  obtain ⟨hB, w0, w3, w7, wN, wk, wg, wc, wd, wo, wv⟩ := w
  refine q_lp (fun n j m => f_X9_ownedShare_L9 K T n m (nI j) = _) (fun j m => m = nI (fb_ct (fun k => decide (u 2 k ≠ 0)) j)) (u 0 0) (nI 0) (by omega) rfl ?_ ?_
  · intro n m e
    subst e
    simp (disch := omega) only [f_X9_ownedShare_L9, xl_s, ob_s, xb_s, rd_n, wr_n, m_1, m_1b, nI_add, pk_mul, l_0, l_1, l_2, l_3, l_4, l_5, l_6, l_7, l_8, l_9, l_10, l_11, l_12, l_13, l_14, l_15, l_16, l_17, l_18, l_19, l_20, l_21, l_22, l_23, l_24, l_30, l_31, l_32, l_40, l_41, l_48, l_57, l_59, l_64, l_90, l_97, l_99, l_100, l_119, l_122, l_186, l_200, l_255, l_600, l_999, l_1488, l_1000000, m0, i_leT]
    rfl
  · intro n j m hj e ih
    subst e
    simp (disch := omega) only [f_X9_ownedShare_L9, xl_s, ob_s, xb_s, rd_n, wr_n, m_1, m_1b, nI_add, pk_mul, l_0, l_1, l_2, l_3, l_4, l_5, l_6, l_7, l_8, l_9, l_10, l_11, l_12, l_13, l_14, l_15, l_16, l_17, l_18, l_19, l_20, l_21, l_22, l_23, l_24, l_30, l_31, l_32, l_40, l_41, l_48, l_57, l_59, l_64, l_90, l_97, l_99, l_100, l_119, l_122, l_186, l_200, l_255, l_600, l_999, l_1488, l_1000000, m0, i_leF, h1, oe_u hB, Nat.add_zero]
    by_cases q : u 2 j = 0
    · rw [if_pos q]
      exact ih _ (by rw [fb_ct_succ, decide_eq_false (fun z => z q)]; rfl)
    · rw [if_neg q]
      exact ih _ (by rw [fb_ct_succ, decide_eq_true q]; rfl)
theorem qoc_le (w : WF u) : qoc u ≤ u 0 0 := fb_ct_le _ _
theorem qall_le (w : WF u) : qall u ≤ 99 * u 0 7 := by
  have h : ∀ c, c < u 0 7 → u 8 c ≤ 99 := fun c hc => by obtain ⟨hB, w0, w3, w7, wN, wk, wg, wc, wd, wo, wv⟩ := w; exact (wc c hc).2.2.2.2.1
  have := fb_sm_bound (f := fun c => u 8 c) (c := 99) (n := u 0 7) h
  unfold qall
  omega
end
theorem mean_ok : (List.range 793).all (fun a => (List.range 8).all fun b => (xdn (FP.ddiv (FP.i2d (nI a)) (FP.i2d (nI (b + 1))))).isSome) = true := by decide +kernel
theorem share_ok : (List.range 11).all (fun a => (List.range 10).all fun b => match xfn (FP.fdiv (FP.i2f (nI a)) (FP.i2f (nI (b + 1)))) with | none => false | some v => (xdn (FP.f2d v)).isSome) = true := by decide +kernel
