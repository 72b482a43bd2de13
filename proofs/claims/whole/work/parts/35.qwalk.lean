/-! level 2: steps of one cat -/
def qalw (u : QU) (c : Nat) : Nat := qm (fun k => decide (qsit u k = 0) && !qbar u c k) (u 0 0)
def EW (u : QU) (c : Nat) : Nat → Nat → Prop := ED u (qalw u c) (u 6 c)
def qwk (u : QU) (c st : Nat) : Nat := qit u (qalw u c) (u 6 c) (u 9 c) st
/-- fewest steps + 1, 0: none -/
def qds (u : QU) (c k : Nat) : Nat := qf (fun n => (qwk u c n).testBit k) 10
theorem qwk_bit (u : QU) (c n k : Nat) : (qwk u c n).testBit k = true ↔ rch (EW u c) (u 9 c) n k := qit_bit _ _ _ n k
theorem qalw_lt {u : QU} (w : WF u) (c : Nat) : qalw u c < 1024 := by
  obtain ⟨hB, w0, w3, w7, wN, wk, wg, wc, wd, wo, wv⟩ := w
  exact lt_p2 (n := 10) (qm_lt _ _) w0
theorem qalw_bit (u : QU) (c k : Nat) : (qalw u c).testBit k = true ↔ k < u 0 0 ∧ qsit u k = 0 ∧ qbar u c k = false := by
  rw [qalw, qm_bit, Bool.and_eq_true, decide_eq_true_eq, Bool.and_eq_true, decide_eq_true_eq, Bool.not_eq_true']
theorem EW_in {u : QU} {c j k : Nat} (h : EW u c j k) : k < u 0 0 := ((qalw_bit u c k).mp h.1).1
theorem qwk_lt {u : QU} (w : WF u) {c : Nat} (hc : c < u 0 7) (n : Nat) : qwk u c n < 1024 := by
  have w' := w
  obtain ⟨hB, w0, w3, w7, wN, wk, wg, wc, wd, wo, wv⟩ := w
  have := wc c hc
  exact qit_lt w' (by omega) n
section
variable {S T : XS} {u : QU} {a b c d g k : Nat}
theorem kc_walkable (h : RC S u) (w : WF u) (hc : c < u 0 7) {st : Nat} (hst : st < 1000) : f_X6_walkable S (nI c) (nI st) = some (nI (qwk u c st)) := by
  have hs := fun k (hk : k < 2 ^ 31) => kc_sitter h w hk
  have hl := qsit_le w
  have hb := fun k (hk : k < u 0 0) => kc_bar h w hc hk
  have hsp := fun s al lw (h1 : s < 10) (h2 : al < 1024) (h3 : lw < 1048576) => kc_spread h w (s := s) (al := al) (lw := lw) (st := st) h1 h2 h3 hst
  have hal := qalw_lt w c
  obtain ⟨⟨c0, c3, c7, cN, cG, cA⟩, r1, r2, r3, r4, r5, r6, r7, r8, r9, rT, kw, kg, kb⟩ := h
  obtain ⟨hB, w0, w3, w7, wN, wk, wg, wc, wd, wo, wv⟩ := w
  have h9 := wc c hc
  unfold f_X6_walkable
  simp (disch := omega) only [xl_s, ob_s, xb_s, rd_n, wr_n, m_1, m_1b, nI_add, pk_mul, l_0, l_1, l_2, l_3, l_4, l_5, l_6, l_7, l_8, l_9, l_10, l_11, l_12, l_13, l_14, l_15, l_16, l_17, l_18, l_19, l_20, l_21, l_22, l_23, l_24, l_30, l_31, l_32, l_40, l_41, l_48, l_57, l_59, l_64, l_90, l_97, l_99, l_100, l_119, l_122, l_186, l_200, l_255, l_600, l_999, l_1488, l_1000000, r9, r6]
  refine q_lp (fun n j m => f_X6_walkable_L5 _ S (nI c) (nI st) n m (nI j) = some (nI (qwk u c st))) (fun j m => m = nI (qm (fun k => decide (qsit u k = 0) && !qbar u c k) j)) (u 0 0) (nI 0) (by omega) rfl ?_ ?_
  · intro n m e
    subst e
    have e1 : qm (fun k => decide (qsit u k = 0) && !qbar u c k) (u 0 0) = qalw u c := rfl
    simp (disch := omega) only [f_X6_walkable_L5, c0, i_leT, xl_s, ob_s, xb_s, rd_n, wr_n, m_1, m_1b, nI_add, pk_mul, l_0, l_1, l_2, l_3, l_4, l_5, l_6, l_7, l_8, l_9, l_10, l_11, l_12, l_13, l_14, l_15, l_16, l_17, l_18, l_19, l_20, l_21, l_22, l_23, l_24, l_30, l_31, l_32, l_40, l_41, l_48, l_57, l_59, l_64, l_90, l_97, l_99, l_100, l_119, l_122, l_186, l_200, l_255, l_600, l_999, l_1488, l_1000000, r9, r6, e1, hsp]
    rfl
  · intro n j m hj e ih
    subst e
    have h2 := hl j
    simp (disch := omega) only [f_X6_walkable_L5, c0, i_leF, xl_s, ob_s, xb_s, rd_n, wr_n, m_1, m_1b, nI_add, pk_mul, l_0, l_1, l_2, l_3, l_4, l_5, l_6, l_7, l_8, l_9, l_10, l_11, l_12, l_13, l_14, l_15, l_16, l_17, l_18, l_19, l_20, l_21, l_22, l_23, l_24, l_30, l_31, l_32, l_40, l_41, l_48, l_57, l_59, l_64, l_90, l_97, l_99, l_100, l_119, l_122, l_186, l_200, l_255, l_600, l_999, l_1488, l_1000000, hs, hb, oI_eq, nB_0, sh_n, fa_or]
    by_cases e0 : qsit u j = 0
    · rw [if_pos e0]
      by_cases e1 : qbar u c j = false
      · rw [if_pos e1]
        exact ih _ (by rw [qm, decide_eq_true e0, e1]; rfl)
      · rw [if_neg e1]
        exact ih _ (by rw [qm, b_t e1, Bool.not_true, Bool.and_false, if_neg (by decide), Nat.or_zero])
    · rw [if_neg e0]
      exact ih _ (by rw [qm, decide_eq_false e0, Bool.false_and, if_neg (by decide), Nat.or_zero])
theorem kc_few (h : RC S u) (w : WF u) (hc : c < u 0 7) (hk : k < 10) : f_X6_fewestSteps S (nI c) (nI k) = some (oI (qds u c k)) := by
  have hw := fun st (hst : st < 1000) => kc_walkable h w hc hst
  have hl := qwk_lt w hc
  unfold f_X6_fewestSteps
  simp only [l_0, l_1, m_1b]
  refine q_lp (fun n j (_ : Unit) => f_X6_fewestSteps_L2 _ S (nI c) (nI k) n (nI j) = some (oI (qds u c k))) (fun j _ => ∀ i, i < j → (qwk u c i).testBit k = false) 10 () (by omega) (fun i hi => by omega) ?_ ?_
  · intro n _ hI
    simp (disch := omega) only [f_X6_fewestSteps_L2, xl_s, ob_s, xb_s, rd_n, wr_n, m_1, m_1b, nI_add, pk_mul, l_0, l_1, l_2, l_3, l_4, l_5, l_6, l_7, l_8, l_9, l_10, l_11, l_12, l_13, l_14, l_15, l_16, l_17, l_18, l_19, l_20, l_21, l_22, l_23, l_24, l_30, l_31, l_32, l_40, l_41, l_48, l_57, l_59, l_64, l_90, l_97, l_99, l_100, l_119, l_122, l_186, l_200, l_255, l_600, l_999, l_1488, l_1000000, i_leT]
    rw [qds, qf_z hI]
  · intro n j _ hj hI ih
    have h1 := hl j
    simp (disch := omega) only [f_X6_fewestSteps_L2, xl_s, ob_s, xb_s, rd_n, wr_n, m_1, m_1b, nI_add, pk_mul, l_0, l_1, l_2, l_3, l_4, l_5, l_6, l_7, l_8, l_9, l_10, l_11, l_12, l_13, l_14, l_15, l_16, l_17, l_18, l_19, l_20, l_21, l_22, l_23, l_24, l_30, l_31, l_32, l_40, l_41, l_48, l_57, l_59, l_64, l_90, l_97, l_99, l_100, l_119, l_122, l_186, l_200, l_255, l_600, l_999, l_1488, l_1000000, i_leF, hw, bt_n, bt_0]
    cases e : (qwk u c j).testBit k
    · rw [if_pos rfl]
      refine ih () (fun i hi => ?_)
      rcases Nat.lt_or_ge i j with q | q
      · exact hI i q
      · rw [show i = j by omega]; exact e
    · rw [if_neg (by decide), qds, qf_i (p := fun n => (qwk u c n).testBit k) e hI hj]; rfl
theorem xp_n {S : XS} {k i j : Nat} {v : Int32} (h : j ≠ k) : xput S k i v j = S j := by funext b; simp [xput, h]
theorem xp_s {S : XS} {k i b : Nat} {v : Int32} : xput S k i v k b = if b = i then v else S k b := by simp [xput]
/-- what a place of the row of steps says at level d -/
def DS (u : QU) (c d e k : Nat) : Prop := (e = 0 → ¬ rch (EW u c) (u 9 c) d k) ∧ (e ≠ 0 → e ≤ d + 2 ∧ rch (EW u c) (u 9 c) (e - 1) k ∧ ∀ n, n < e - 1 → ¬ rch (EW u c) (u 9 c) n k)
theorem km_spreads (h : RM (T 1) u) (w : WF u) (hc : c < u 0 7) {j d : Nat} (hj : j < u 0 0) (hd : d < 100) (hr : rch (EW u c) (u 9 c) d j)
    (hT : ∀ k, k < 10 → ∃ e, T 8 k = oI e ∧ DS u c d e k) :
    ∃ T', f_X9_spreads T (nI c) (nI j) (nI (d + 1)) = some T' ∧ (∀ i, i ≠ 8 → T' i = T i) ∧ ∀ k, k < 10 → ∃ e, T' 8 k = oI e ∧ DS u c d e k ∧ (e = 0 → T 8 k = oI 0 ∧ ¬ EW u c j k) := by
  have w' := w
  obtain ⟨hB, w0, w3, w7, wN, wk, wg, wc, wd, wo, wv⟩ := w
  unfold f_X9_spreads
  simp only [l_0]
  refine q_lp (fun n g T1 => ∃ T', f_X9_spreads_L3 (fun v14 S15 => some S15) (nI c) (nI j) (nI (d + 1)) n (nI g) T1 = some T' ∧ (∀ i, i ≠ 8 → T' i = T i) ∧ ∀ k, k < 10 → ∃ e, T' 8 k = oI e ∧ DS u c d e k ∧ (e = 0 → T 8 k = oI 0 ∧ ¬ EW u c j k))
    (fun g T1 => (∀ i, i ≠ 8 → T1 i = T i) ∧ ∀ k, k < 10 → ∃ e, T1 8 k = oI e ∧ DS u c d e k ∧ (e = 0 → T 8 k = oI 0 ∧ ∀ g', g' < g → ¬ ((qalw u c).testBit k = true ∧ u 6 c ≤ u 5 g' ∧ (u 3 g' = j ∧ u 4 g' = k ∨ u 3 g' = k ∧ u 4 g' = j)))) (u 0 3) T (by omega)
    ⟨fun _ _ => rfl, fun k hk => by obtain ⟨e, h1, h2⟩ := hT k hk; exact ⟨e, h1, h2, fun h3 => ⟨by rw [h1, h3], fun g' hg' => by omega⟩⟩⟩ ?_ ?_
  · intro n T1 hI
    have h1 : RM (T1 1) u := by rw [hI.1 1 (by decide)]; exact h
    obtain ⟨m0, m1, m2, m3, m4, m5, m6, m7, m8, m9, n1, n2, n3, n4, n5, n6, n7, n8, n9, nT⟩ := h
    have m1' : T1 1 1 = nI (u 0 3) := by rw [hI.1 1 (by decide)]; exact m1
    refine ⟨T1, ?_, hI.1, fun k hk => ?_⟩
    · simp (disch := omega) only [f_X9_spreads_L3, xl_s, ob_s, xb_s, rd_n, wr_n, m_1, m_1b, nI_add, pk_mul, l_0, l_1, l_2, l_3, l_4, l_5, l_6, l_7, l_8, l_9, l_10, l_11, l_12, l_13, l_14, l_15, l_16, l_17, l_18, l_19, l_20, l_21, l_22, l_23, l_24, l_30, l_31, l_32, l_40, l_41, l_48, l_57, l_59, l_64, l_90, l_97, l_99, l_100, l_119, l_122, l_186, l_200, l_255, l_600, l_999, l_1488, l_1000000, m1', i_leT]
    · obtain ⟨e, h2, h3, h4⟩ := hI.2 k hk
      refine ⟨e, h2, h3, fun h5 => ⟨(h4 h5).1, ?_⟩⟩
      rintro ⟨h6, g, hg, h7, h8⟩
      exact (h4 h5).2 g hg ⟨h6, h7, h8⟩
  · intro n g T1 hg hI ih
    have h1 : RM (T1 1) u := by rw [hI.1 1 (by decide)]; exact h
    have ha := km_across h1 w' hg hj
    have hwi := fun k (hk : k < u 0 0) => km_whyIn h1 w' hc hk
    obtain ⟨hI1, hI2⟩ := hI
    clear h
    have h := h1
    obtain ⟨m0, m1, m2, m3, m4, m5, m6, m7, m8, m9, n1, n2, n3, n4, n5, n6, n7, n8, n9, nT⟩ := h
    have hg1 := wg g hg
    have hc9 := wc c hc
    -- nothing new at this gutter
    have skip : (∀ k, k < 10 → T1 8 k = oI 0 → ¬ ((qalw u c).testBit k = true ∧ u 6 c ≤ u 5 g ∧ (u 3 g = j ∧ u 4 g = k ∨ u 3 g = k ∧ u 4 g = j))) → ∃ T', f_X9_spreads_L3 (fun v14 S15 => some S15) (nI c) (nI j) (nI (d + 1)) n (nI (g + 1)) T1 = some T' ∧ (∀ i, i ≠ 8 → T' i = T i) ∧ ∀ k, k < 10 → ∃ e, T' 8 k = oI e ∧ DS u c d e k ∧ (e = 0 → T 8 k = oI 0 ∧ ¬ EW u c j k) := by
      intro hs
      refine ih T1 ⟨hI1, fun k hk => ?_⟩
      obtain ⟨e, h2, h3, h4⟩ := hI2 k hk
      refine ⟨e, h2, h3, fun h5 => ⟨(h4 h5).1, fun g' hg' => ?_⟩⟩
      rcases Nat.lt_or_ge g' g with q | q
      · exact (h4 h5).2 g' q
      · rw [show g' = g by omega]
        exact hs k hk (by rw [h2, h5])
    -- the far end t
    have far : ∀ t, t < u 0 0 → (∀ k, (u 3 g = j ∧ u 4 g = k ∨ u 3 g = k ∧ u 4 g = j) → k = t) → (u 3 g = j ∧ u 4 g = t ∨ u 3 g = t ∧ u 4 g = j) → f_X9_across T1 (nI g) (nI j) = some (nI t) →
        ∃ T', f_X9_spreads_L3 (fun v14 S15 => some S15) (nI c) (nI j) (nI (d + 1)) (n + 1) (nI g) T1 = some T' ∧ (∀ i, i ≠ 8 → T' i = T i) ∧ ∀ k, k < 10 → ∃ e, T' 8 k = oI e ∧ DS u c d e k ∧ (e = 0 → T 8 k = oI 0 ∧ ¬ EW u c j k) := by
      intro t ht hk1 hk2 hx
      obtain ⟨e, h2, h3, h4⟩ := hI2 t (by omega)
      have hel : e ≤ d + 2 := by
        by_cases q : e = 0
        · omega
        · exact (h3.2 q).1
      simp (disch := omega) only [f_X9_spreads_L3, xl_s, ob_s, xb_s, rd_n, wr_n, m_1, m_1b, nI_add, pk_mul, l_0, l_1, l_2, l_3, l_4, l_5, l_6, l_7, l_8, l_9, l_10, l_11, l_12, l_13, l_14, l_15, l_16, l_17, l_18, l_19, l_20, l_21, l_22, l_23, l_24, l_30, l_31, l_32, l_40, l_41, l_48, l_57, l_59, l_64, l_90, l_97, l_99, l_100, l_119, l_122, l_186, l_200, l_255, l_600, l_999, l_1488, l_1000000, m1, i_leF, hx, i_oiF, h2, oI_eq]
      rw [if_neg (show ¬ nI t = oI 0 from fun q => by rw [nI_oI (by decide) (by omega)] at q; omega)]
      by_cases e0 : e = 0
      · rw [if_pos e0]
        simp (disch := omega) only [km_gutter, km_of, n5, n6, ob_s, lt_uu hB, hwi]
        by_cases e1 : u 5 g < u 6 c
        · rw [if_pos e1]
          exact skip (fun k hk _ q => by omega)
        · rw [if_neg e1]
          have hnr := h3.1 e0
          have hq2 : qin2 u c t < 5 := by unfold qin2; split <;> (try split) <;> decide
          simp (disch := omega) only [ob_s, nI_eq]
          by_cases e2 : qin2 u c t = 0
          · rw [if_pos e2]
            have hal : (qalw u c).testBit t = true := by
              rw [qalw_bit]
              unfold qin2 at e2
              by_cases e3 : qsit u t = 0 ∨ qsit u t = c + 1
              · rw [if_pos e3] at e2
                by_cases e4 : qbar u c t = false
                · rcases e3 with e3 | e3
                  · exact ⟨ht, e3, e4⟩
                  · exfalso
                    have e5 := (qsit_s e3).2
                    exact hnr (rch_le (n := 0) (by rw [← e5]; rfl) (by omega))
                · rw [if_neg e4] at e2; cases e2
              · rw [if_neg e3] at e2; cases e2
            have hEt : EW u c j t := ⟨hal, g, hg, by omega, hk2⟩
            refine ih _ ⟨fun i hi => ?_, fun k hk => ?_⟩
            · rw [xp_n hi]; exact hI1 i hi
            · by_cases e6 : k = t
              · subst e6
                refine ⟨d + 2, by rw [xp_s, if_pos rfl]; rfl, ⟨fun q => by omega, fun _ => ⟨by omega, rch_e hr hEt, fun m hm => fun q => hnr (rch_le q (by omega))⟩⟩, fun q => by omega⟩
              · obtain ⟨e', h2', h3', h4'⟩ := hI2 k hk
                refine ⟨e', by rw [xp_s, if_neg e6]; exact h2', h3', fun q => ⟨(h4' q).1, fun g' hg' => ?_⟩⟩
                rcases Nat.lt_or_ge g' g with r | r
                · exact (h4' q).2 g' r
                · rw [show g' = g by omega]
                  exact fun z => e6 (hk1 k z.2.2)
          · rw [if_neg e2]
            refine skip (fun k hk _ q => e2 ?_)
            have e7 := hk1 k q.2.2
            rw [e7, qalw_bit] at q
            rw [qin2, if_pos (Or.inl q.1.2.1), if_pos q.1.2.2]
      · rw [if_neg e0]
        refine skip (fun k hk q z => ?_)
        rw [hk1 k z.2.2, h2, oI_eq (by omega) (by decide)] at q
        exact e0 q
    by_cases f1 : u 3 g = j
    · rw [if_pos f1] at ha
      exact far (u 4 g) (by omega) (fun k hk => by omega) (Or.inl ⟨f1, rfl⟩) ha
    · rw [if_neg f1] at ha
      by_cases f2 : u 4 g = j
      · rw [if_pos f2] at ha
        exact far (u 3 g) (by omega) (fun k hk => by omega) (Or.inr ⟨rfl, f2⟩) ha
      · rw [if_neg f2] at ha
        simp (disch := omega) only [f_X9_spreads_L3, xl_s, ob_s, xb_s, rd_n, wr_n, m_1, m_1b, nI_add, pk_mul, l_0, l_1, l_2, l_3, l_4, l_5, l_6, l_7, l_8, l_9, l_10, l_11, l_12, l_13, l_14, l_15, l_16, l_17, l_18, l_19, l_20, l_21, l_22, l_23, l_24, l_30, l_31, l_32, l_40, l_41, l_48, l_57, l_59, l_64, l_90, l_97, l_99, l_100, l_119, l_122, l_186, l_200, l_255, l_600, l_999, l_1488, l_1000000, m1, i_leF, ha, i_oT]
        exact skip (fun k hk _ q => by omega)
theorem km_walks (h : RM (T 1) u) (w : WF u) (hc : c < u 0 7) : ∃ T', f_X9_walks T (nI c) = some T' ∧ (∀ i, i ≠ 8 → T' i = T i) ∧ ∀ k, k < 10 → T' 8 k = oI (qds u c k) := by
  have w' := w
  obtain ⟨hB, w0, w3, w7, wN, wk, wg, wc, wd, wo, wv⟩ := w
  have h9 := wc c hc
  have hE : ∀ j k, EW u c j k → k < u 0 0 := fun j k q => EW_in q
  unfold f_X9_walks
  simp only [l_0]
  -- all places empty
  refine q_lp (fun n j T1 => ∃ T', f_X9_walks_L2 _ (nI c) n (nI j) T1 = some T' ∧ (∀ i, i ≠ 8 → T' i = T i) ∧ ∀ k, k < 10 → T' 8 k = oI (qds u c k))
    (fun j T1 => (∀ i, i ≠ 8 → T1 i = T i) ∧ ∀ k, k < j → T1 8 k = oI 0) 10 T (by omega) ⟨fun _ _ => rfl, fun k hk => by omega⟩ ?_ ?_
  · intro n T1 hI
    have h1 : RM (T1 1) u := by rw [hI.1 1 (by decide)]; exact h
    have n9' : T1 1 (90 + 4 * c + 3) = nI (u 9 c) := by obtain ⟨m0, m1, m2, m3, m4, m5, m6, m7, m8, m9, n1, n2, n3, n4, n5, n6, n7, n8, n9, nT⟩ := h; rw [hI.1 1 (by decide)]; exact n9 c (by omega)
    simp (disch := omega) only [f_X9_walks_L2, xl_s, ob_s, xb_s, rd_n, wr_n, m_1, m_1b, nI_add, pk_mul, l_0, l_1, l_2, l_3, l_4, l_5, l_6, l_7, l_8, l_9, l_10, l_11, l_12, l_13, l_14, l_15, l_16, l_17, l_18, l_19, l_20, l_21, l_22, l_23, l_24, l_30, l_31, l_32, l_40, l_41, l_48, l_57, l_59, l_64, l_90, l_97, l_99, l_100, l_119, l_122, l_186, l_200, l_255, l_600, l_999, l_1488, l_1000000, i_leT, km_of, n9']
    -- levels
    refine q_lp (fun n d T1 => ∃ T', f_X9_walks_L35 (fun v18 S19 => some S19) (nI c) n (nI d) T1 = some T' ∧ (∀ i, i ≠ 8 → T' i = T i) ∧ ∀ k, k < 10 → T' 8 k = oI (qds u c k))
      (fun d T1 => (∀ i, i ≠ 8 → T1 i = T i) ∧ ∀ k, k < 10 → ∃ e, T1 8 k = oI e ∧ DS u c d e k ∧ e ≤ d + 1) (u 0 0) (xput T1 8 (u 9 c) (nI 0)) (by omega) ⟨fun i hi => by rw [xp_n hi]; exact hI.1 i hi, fun k hk => ?_⟩ ?_ ?_
    · by_cases e : k = u 9 c
      · exact ⟨1, by rw [xp_s, if_pos e]; rfl, ⟨fun q => by omega, fun _ => ⟨by omega, e, fun m hm => by omega⟩⟩, by omega⟩
      · exact ⟨0, by rw [xp_s, if_neg e]; exact hI.2 k hk, ⟨fun _ q => e q, fun q => absurd rfl q⟩, by omega⟩
    · intro n2 T2 hI2
      have m0' : T2 1 0 = nI (u 0 0) := by obtain ⟨m0, m1, m2, m3, m4, m5, m6, m7, m8, m9, n1, n2, n3, n4, n5, n6, n7, n8, n9, nT⟩ := h; rw [hI2.1 1 (by decide)]; exact m0
      refine ⟨T2, by simp (disch := omega) only [f_X9_walks_L35, xl_s, ob_s, xb_s, rd_n, wr_n, m_1, m_1b, nI_add, pk_mul, l_0, l_1, l_2, l_3, l_4, l_5, l_6, l_7, l_8, l_9, l_10, l_11, l_12, l_13, l_14, l_15, l_16, l_17, l_18, l_19, l_20, l_21, l_22, l_23, l_24, l_30, l_31, l_32, l_40, l_41, l_48, l_57, l_59, l_64, l_90, l_97, l_99, l_100, l_119, l_122, l_186, l_200, l_255, l_600, l_999, l_1488, l_1000000, m0', i_leT], hI2.1, fun k hk => ?_⟩
      obtain ⟨e, h2, h3, h4⟩ := hI2.2 k hk
      rw [h2]
      congr 1
      by_cases e0 : e = 0
      · rw [e0, qds, qf_z (fun n hn => ?_)]
        cases q : (qwk u c n).testBit k
        · rfl
        · exact absurd (rch_all hE h9.2.2.2.2.2 (by omega) ((qwk_bit u c n k).mp q)) (h3.1 e0)
      · obtain ⟨h5, h6, h7⟩ := h3.2 e0
        have h8 : e - 1 < u 0 0 := by
          rcases Nat.lt_or_ge (e - 1) (u 0 0) with q | q
          · exact q
          · exact absurd (rch_all (m := u 0 0 - 1) hE h9.2.2.2.2.2 (by omega) h6) (h7 (u 0 0 - 1) (by omega))
        rw [qds, qf_i (j := e - 1) ((qwk_bit u c _ k).mpr h6) (fun n hn => ?_) (by omega)]
        · omega
        · cases q : (qwk u c n).testBit k
          · rfl
          · exact absurd ((qwk_bit u c n k).mp q) (h7 n hn)
    · intro n2 d T2 hd hI2 ih2
      have m0' : T2 1 0 = nI (u 0 0) := by obtain ⟨m0, m1, m2, m3, m4, m5, m6, m7, m8, m9, n1, n2, n3, n4, n5, n6, n7, n8, n9, nT⟩ := h; rw [hI2.1 1 (by decide)]; exact m0
      simp (disch := omega) only [f_X9_walks_L35, xl_s, ob_s, xb_s, rd_n, wr_n, m_1, m_1b, nI_add, pk_mul, l_0, l_1, l_2, l_3, l_4, l_5, l_6, l_7, l_8, l_9, l_10, l_11, l_12, l_13, l_14, l_15, l_16, l_17, l_18, l_19, l_20, l_21, l_22, l_23, l_24, l_30, l_31, l_32, l_40, l_41, l_48, l_57, l_59, l_64, l_90, l_97, l_99, l_100, l_119, l_122, l_186, l_200, l_255, l_600, l_999, l_1488, l_1000000, m0', i_leF]
      -- chimneys of one level
      refine q_lp (fun n j T1 => ∃ T', f_X9_walks_L47 _ (nI c) (nI d) n (nI j) T1 = some T' ∧ (∀ i, i ≠ 8 → T' i = T i) ∧ ∀ k, k < 10 → T' 8 k = oI (qds u c k))
        (fun j T1 => (∀ i, i ≠ 8 → T1 i = T i) ∧ ∀ k, k < 10 → ∃ e, T1 8 k = oI e ∧ DS u c d e k ∧ (e = 0 → ∀ j', j' < j → rch (EW u c) (u 9 c) d j' → ¬ EW u c j' k)) (u 0 0) T2 (by omega) ⟨hI2.1, fun k hk => ?_⟩ ?_ ?_
      · obtain ⟨e, h2, h3, h4⟩ := hI2.2 k hk
        exact ⟨e, h2, h3, fun _ j' hj' => by omega⟩
      · intro n3 T3 hI3
        have m0'' : T3 1 0 = nI (u 0 0) := by obtain ⟨m0, m1, m2, m3, m4, m5, m6, m7, m8, m9, n1, n2, n3, n4, n5, n6, n7, n8, n9, nT⟩ := h; rw [hI3.1 1 (by decide)]; exact m0
        simp (disch := omega) only [f_X9_walks_L47, xl_s, ob_s, xb_s, rd_n, wr_n, m_1, m_1b, nI_add, pk_mul, l_0, l_1, l_2, l_3, l_4, l_5, l_6, l_7, l_8, l_9, l_10, l_11, l_12, l_13, l_14, l_15, l_16, l_17, l_18, l_19, l_20, l_21, l_22, l_23, l_24, l_30, l_31, l_32, l_40, l_41, l_48, l_57, l_59, l_64, l_90, l_97, l_99, l_100, l_119, l_122, l_186, l_200, l_255, l_600, l_999, l_1488, l_1000000, m0'', i_leT]
        refine ih2 T3 ⟨hI3.1, fun k hk => ?_⟩
        obtain ⟨e, h2, h3, h4⟩ := hI3.2 k hk
        refine ⟨e, h2, ⟨fun e0 => ?_, fun e0 => ?_⟩, ?_⟩
        · rintro (q | ⟨j', q, q2⟩)
          · exact h3.1 e0 q
          · exact h4 e0 j' (rch_in hE h9.2.2.2.2.2 q) q q2
        · obtain ⟨a1, a2, a3⟩ := h3.2 e0
          exact ⟨by omega, a2, a3⟩
        · by_cases e0 : e = 0
          · omega
          · have := (h3.2 e0).1; omega
      · intro n3 j T3 hj hI3 ih3
        have h1' : RM (T3 1) u := by rw [hI3.1 1 (by decide)]; exact h
        have m0'' : T3 1 0 = nI (u 0 0) := by obtain ⟨m0, m1, m2, m3, m4, m5, m6, m7, m8, m9, n1, n2, n3, n4, n5, n6, n7, n8, n9, nT⟩ := h; rw [hI3.1 1 (by decide)]; exact m0
        obtain ⟨e, h2, h3, h4⟩ := hI3.2 j (by omega)
        have hel : e ≤ d + 2 := by
          by_cases q : e = 0
          · omega
          · exact (h3.2 q).1
        simp (disch := omega) only [f_X9_walks_L47, xl_s, ob_s, xb_s, rd_n, wr_n, m_1, m_1b, nI_add, pk_mul, l_0, l_1, l_2, l_3, l_4, l_5, l_6, l_7, l_8, l_9, l_10, l_11, l_12, l_13, l_14, l_15, l_16, l_17, l_18, l_19, l_20, l_21, l_22, l_23, l_24, l_30, l_31, l_32, l_40, l_41, l_48, l_57, l_59, l_64, l_90, l_97, l_99, l_100, l_119, l_122, l_186, l_200, l_255, l_600, l_999, l_1488, l_1000000, m0'', i_leF, h2, oI_nI]
        by_cases e1 : e = d + 1
        · rw [if_pos e1]
          have hr : rch (EW u c) (u 9 c) d j := by
            have := (h3.2 (by omega)).2.1
            rwa [e1, Nat.add_sub_cancel] at this
          obtain ⟨T4, g1, g2, g3⟩ := km_spreads h1' w' hc hj (by omega) hr (fun k hk => by obtain ⟨e, a1, a2, _⟩ := hI3.2 k hk; exact ⟨e, a1, a2⟩)
          rw [g1, ob_s]
          refine ih3 T4 ⟨fun i hi => by rw [g2 i hi]; exact hI3.1 i hi, fun k hk => ?_⟩
          obtain ⟨e', a1, a2, a3⟩ := g3 k hk
          refine ⟨e', a1, a2, fun e0 j' hj' hr' => ?_⟩
          rcases Nat.lt_or_ge j' j with q | q
          · obtain ⟨e5, b1, b2, b3⟩ := hI3.2 k hk
            have e6 : e5 = 0 := by
              have b4 := (a3 e0).1
              rw [b1, oI_eq ?_ (by decide)] at b4
              · exact b4
              · by_cases q : e5 = 0
                · omega
                · have := (b2.2 q).1; omega
            exact b3 e6 j' q hr'
          · rw [show j' = j by omega]; exact (a3 e0).2
        · rw [if_neg e1]
          refine ih3 T3 ⟨hI3.1, fun k hk => ?_⟩
          obtain ⟨e', a1, a2, a3⟩ := hI3.2 k hk
          refine ⟨e', a1, a2, fun e0 j' hj' hr' => ?_⟩
          rcases Nat.lt_or_ge j' j with q | q
          · exact a3 e0 j' q hr'
          · have e5 : j' = j := by omega
            subst e5
            intro hq
            by_cases e6 : e = 0
            · exact h3.1 e6 hr'
            · obtain ⟨b1, b2, b3⟩ := h3.2 e6
              rcases Nat.lt_or_ge (e - 1) d with q2 | q2
              · exact a2.1 e0 (rch_le (rch_e b2 hq) (by omega))
              · exact b3 d (by omega) hr'
  · intro n j T1 hj hI ih
    simp (disch := omega) only [f_X9_walks_L2, xl_s, ob_s, xb_s, rd_n, wr_n, m_1, m_1b, nI_add, pk_mul, l_0, l_1, l_2, l_3, l_4, l_5, l_6, l_7, l_8, l_9, l_10, l_11, l_12, l_13, l_14, l_15, l_16, l_17, l_18, l_19, l_20, l_21, l_22, l_23, l_24, l_30, l_31, l_32, l_40, l_41, l_48, l_57, l_59, l_64, l_90, l_97, l_99, l_100, l_119, l_122, l_186, l_200, l_255, l_600, l_999, l_1488, l_1000000, i_leF]
    refine ih _ ⟨fun i hi => by rw [xp_n hi]; exact hI.1 i hi, fun k hk => ?_⟩
    rw [xp_s]
    by_cases e : k = j
    · rw [if_pos e]
    · rw [if_neg e]; exact hI.2 k (by omega)
end
