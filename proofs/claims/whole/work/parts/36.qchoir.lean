/-! level 2: choirs -/
/-- two cats are next to each other -/
def nxt (u : QU) (a b : Nat) : Prop := a < u 0 7 ∧ b < u 0 7 ∧ ∃ g, g < u 0 3 ∧ (u 3 g = u 9 a ∧ u 4 g = u 9 b ∨ u 3 g = u 9 b ∧ u 4 g = u 9 a)
theorem nxt_sy {u : QU} (a b : Nat) (h : nxt u a b) : nxt u b a := by
  obtain ⟨h1, h2, g, hg, h3⟩ := h
  exact ⟨h2, h1, g, hg, h3.symm⟩
/-- chimneys with cats, of the first n -/
def qtk (u : QU) : Nat → Nat
  | 0 => 0
  | n + 1 => qtk u n ||| 2 ^ u 9 n
theorem qtk_bit (u : QU) (k : Nat) : ∀ n, (qtk u n).testBit k = true ↔ ∃ d, d < n ∧ u 9 d = k
  | 0 => by
    rw [qtk, Nat.zero_testBit]
    exact ⟨(fun h => by cases h), fun ⟨d, hd, _⟩ => by omega⟩
  | n + 1 => by
    rw [qtk, tb_or, qtk_bit u k n, Nat.testBit_two_pow, decide_eq_true_eq]
    constructor
    · rintro (⟨d, hd, h⟩ | h)
      · exact ⟨d, by omega, h⟩
      · exact ⟨n, by omega, h⟩
    · rintro ⟨d, hd, h⟩
      rcases Nat.lt_or_ge d n with q | q
      · exact Or.inl ⟨d, q, h⟩
      · rw [show d = n by omega] at h; exact Or.inr h
theorem qtk_lt {u : QU} (w : WF u) : ∀ n, n ≤ u 0 7 → qtk u n < 1024
  | 0, _ => (by decide : (0 : Nat) < 1024)
  | n + 1, hn => by
    have ih := qtk_lt w n (by omega)
    have h9 : u 9 n < 10 := by obtain ⟨hB, w0, w3, w7, wN, wk, wg, wc, wd, wo, wv⟩ := w; have := wc n (by omega); omega
    exact Nat.or_lt_two_pow (n := 10) ih (p2_lt h9)
/-- the choir of a cat -/
def qch (u : QU) (c : Nat) : Nat := qm (fun d => (qit u (qtk u (u 0 7)) 0 (u 9 c) 10).testBit (u 9 d)) (u 0 7)
theorem ch_rch {u : QU} (w : WF u) {c : Nat} (hc : c < u 0 7) : ∀ {n k}, rch (ED u (qtk u (u 0 7)) 0) (u 9 c) n k ↔ ∃ d, d < u 0 7 ∧ u 9 d = k ∧ rch (nxt u) c n d
  | 0, k => by
    constructor
    · intro h; exact ⟨c, hc, (show k = u 9 c from h).symm, rfl⟩
    · rintro ⟨d, _, h, h2⟩; rw [show d = c from h2] at h; exact h.symm
  | n + 1, k => by
    have ih := fun k => ch_rch w hc (n := n) (k := k)
    constructor
    · rintro (h | ⟨j, h, ht, g, hg, _, he⟩)
      · obtain ⟨d, h1, h2, h3⟩ := (ih k).mp h
        exact ⟨d, h1, h2, Or.inl h3⟩
      · obtain ⟨d, h1, rfl, h3⟩ := (ih j).mp h
        obtain ⟨d2, h4, rfl⟩ := (qtk_bit u k (u 0 7)).mp ht
        exact ⟨d2, h4, rfl, Or.inr ⟨d, h3, h1, h4, g, hg, he⟩⟩
    · rintro ⟨d, h1, rfl, h | ⟨d2, h, h2, _, g, hg, he⟩⟩
      · exact Or.inl ((ih _).mpr ⟨d, h1, rfl, h⟩)
      · exact Or.inr ⟨u 9 d2, (ih _).mpr ⟨d2, h2, rfl, h⟩, (qtk_bit u _ _).mpr ⟨d, h1, rfl⟩, g, hg, Nat.zero_le _, he⟩
theorem nxt_in {u : QU} (j k : Nat) (h : nxt u j k) : k < u 0 7 := h.2.1
theorem qch_bit {u : QU} (w : WF u) {c : Nat} (hc : c < u 0 7) (d : Nat) : (qch u c).testBit d = true ↔ ∃ n, rch (nxt u) c n d := by
  have h8 : u 0 7 ≤ 8 := by obtain ⟨hB, w0, w3, w7, wN, wk, wg, wc, wd, wo, wv⟩ := w; exact w7
  have hd := w
  obtain ⟨-, -, -, -, -, -, -, -, wd, -⟩ := hd
  rw [qch, qm_bit, Bool.and_eq_true, decide_eq_true_eq, qit_bit, ch_rch w hc]
  constructor
  · rintro ⟨h1, d2, h2, h3, h4⟩
    rw [← wd d2 d h2 h1 h3]
    exact ⟨10, h4⟩
  · rintro ⟨n, h⟩
    have h1 := rch_in nxt_in hc h
    exact ⟨h1, d, h1, rfl, rch_all nxt_in hc (by omega) h⟩
theorem qch_lt {u : QU} (w : WF u) (c : Nat) : qch u c < 256 := by
  obtain ⟨hB, w0, w3, w7, wN, wk, wg, wc, wd, wo, wv⟩ := w
  exact lt_p2 (n := 8) (qm_lt _ _) w7
theorem qch_self {u : QU} (w : WF u) {c : Nat} (hc : c < u 0 7) : (qch u c).testBit c = true := (qch_bit w hc c).mpr ⟨0, rfl⟩
theorem qch_in {u : QU} {c d : Nat} (h : (qch u c).testBit d = true) : d < u 0 7 := by
  rw [qch, qm_bit, Bool.and_eq_true, decide_eq_true_eq] at h
  exact h.1
theorem qch_sy {u : QU} (w : WF u) {c d : Nat} (hc : c < u 0 7) (h : (qch u c).testBit d = true) : (qch u d).testBit c = true := by
  obtain ⟨n, h1⟩ := (qch_bit w hc d).mp h
  exact (qch_bit w (qch_in h) c).mpr ⟨n, rch_sy nxt_sy h1⟩
theorem qch_same {u : QU} (w : WF u) {c d : Nat} (hc : c < u 0 7) (h : (qch u c).testBit d = true) : qch u d = qch u c := by
  have hd := qch_in h
  refine Nat.eq_of_testBit_eq (fun k => Bool.eq_iff_iff.mpr ?_)
  obtain ⟨n, h1⟩ := (qch_bit w hc d).mp h
  rw [qch_bit w hd, qch_bit w hc]
  constructor
  · rintro ⟨m, h2⟩; exact ⟨n + m, rch_tr h1 h2⟩
  · rintro ⟨m, h2⟩; exact ⟨n + m, rch_tr (rch_sy nxt_sy h1) h2⟩
/-- the largest of the first n -/
def qgr (u : QU) : Nat → Nat
  | 0 => 0
  | c + 1 => if qc (qch u c) ≤ qc (qgr u c) then qgr u c else qch u c
/-- those compared -/
def qcp (u : QU) : Nat → Nat
  | 0 => 0
  | c + 1 => if (qcp u c).testBit c then qcp u c else qcp u c ||| qch u c
/-- how many choirs among the first n -/
def qcn (u : QU) : Nat → Nat
  | 0 => 0
  | c + 1 => if (qcp u c).testBit c then qcn u c else qcn u c + 1
theorem qgr_lt {u : QU} (w : WF u) : ∀ n, qgr u n < 256
  | 0 => (by decide : (0 : Nat) < 256)
  | n + 1 => by
    have ih := qgr_lt w n
    rw [qgr]
    split
    · exact ih
    · exact qch_lt w n
theorem qcp_lt {u : QU} (w : WF u) : ∀ n, qcp u n < 256
  | 0 => (by decide : (0 : Nat) < 256)
  | n + 1 => by
    have ih := qcp_lt w n
    rw [qcp]
    split
    · exact ih
    · exact Nat.or_lt_two_pow (n := 8) ih (qch_lt w n)
theorem qgr_ge {u : QU} {c : Nat} : ∀ {n}, c < n → qc (qch u c) ≤ qc (qgr u n)
  | 0, h => absurd h (Nat.not_lt_zero c)
  | n + 1, h => by
    rw [qgr]
    rcases Nat.lt_or_ge c n with q | q
    · have ih := qgr_ge (u := u) q
      split
      · exact ih
      · omega
    · have e : c = n := by omega
      subst e
      split
      · assumption
      · exact Nat.le_refl _
theorem qcp_bit {u : QU} (w : WF u) (d : Nat) : ∀ n, n ≤ u 0 7 → ((qcp u n).testBit d = true ↔ ∃ c, c < n ∧ (qch u c).testBit d = true)
  | 0, _ => by
    rw [qcp, Nat.zero_testBit]
    exact ⟨(fun h => by cases h), fun ⟨c, hc, _⟩ => by omega⟩
  | n + 1, hn => by
    have ih := fun d => qcp_bit w d n (by omega)
    have up : (∃ c, c < n ∧ (qch u c).testBit d = true) ∨ (qch u n).testBit d = true ↔ ∃ c, c < n + 1 ∧ (qch u c).testBit d = true := by
      constructor
      · rintro (⟨c, h1, h2⟩ | h)
        · exact ⟨c, by omega, h2⟩
        · exact ⟨n, by omega, h⟩
      · rintro ⟨c, h1, h2⟩
        rcases Nat.lt_or_ge c n with q | q
        · exact Or.inl ⟨c, q, h2⟩
        · rw [show c = n by omega] at h2; exact Or.inr h2
    rw [qcp]
    by_cases e : (qcp u n).testBit n = true
    · rw [if_pos e, ih, ← up]
      obtain ⟨c, hc, h1⟩ := (ih n).mp e
      refine ⟨Or.inl, fun h => h.elim id (fun h2 => ⟨c, hc, ?_⟩)⟩
      rw [← qch_same w (by omega) h1]
      exact h2
    · rw [if_neg e, tb_or, ih, up]
section
variable {S T : XS} {u : QU} {a b c d g k : Nat}
theorem kc_choir (h : RC S u) (w : WF u) (hc : c < u 0 7) : f_X6_choirAround S (nI c) = some (nI (qch u c)) := by
  have hsp := fun s al (h1 : s < 10) (h2 : al < 1024) => kc_spread h w (s := s) (al := al) (lw := 0) (st := 10) h1 h2 (by decide) (by decide)
  have htk := qtk_lt w (u 0 7) (Nat.le_refl _)
  have hql := fun s (hs : s < 10) => qit_lt w (al := qtk u (u 0 7)) (lw := 0) hs 10
  obtain ⟨⟨c0, c3, c7, cN, cG, cA⟩, r1, r2, r3, r4, r5, r6, r7, r8, r9, rT, kw, kg, kb⟩ := h
  obtain ⟨hB, w0, w3, w7, wN, wk, wg, wc, wd, wo, wv⟩ := w
  have h9 := wc c hc
  unfold f_X6_choirAround
  simp (disch := omega) only [xl_s, ob_s, xb_s, rd_n, wr_n, m_1, m_1b, nI_add, pk_mul, l_0, l_1, l_2, l_3, l_4, l_5, l_6, l_7, l_8, l_9, l_10, l_11, l_12, l_13, l_14, l_15, l_16, l_17, l_18, l_19, l_20, l_21, l_22, l_23, l_24, l_30, l_31, l_32, l_40, l_41, l_48, l_57, l_59, l_64, l_90, l_97, l_99, l_100, l_119, l_122, l_186, l_200, l_255, l_600, l_999, l_1488, l_1000000, r9]
  refine q_lp (fun n j m => f_X6_choirAround_L4 _ S (nI c) n m (nI j) = some (nI (qch u c))) (fun j m => m = nI (qtk u j)) (u 0 7) (nI 0) (by omega) rfl ?_ ?_
  · intro n m e
    subst e
    have h10 := hql (u 9 c) (by omega)
    simp (disch := omega) only [f_X6_choirAround_L4, c7, i_leT, xl_s, ob_s, xb_s, rd_n, wr_n, m_1, m_1b, nI_add, pk_mul, l_0, l_1, l_2, l_3, l_4, l_5, l_6, l_7, l_8, l_9, l_10, l_11, l_12, l_13, l_14, l_15, l_16, l_17, l_18, l_19, l_20, l_21, l_22, l_23, l_24, l_30, l_31, l_32, l_40, l_41, l_48, l_57, l_59, l_64, l_90, l_97, l_99, l_100, l_119, l_122, l_186, l_200, l_255, l_600, l_999, l_1488, l_1000000, r9, hsp]
    refine q_lp (fun n j m => f_X6_choirAround_L50 _ S (nI c) (nI (qtk u (u 0 7))) (nI (qit u (qtk u (u 0 7)) 0 (u 9 c) 10)) n m (nI j) = some (nI (qch u c))) (fun j m => m = nI (qm (fun d => (qit u (qtk u (u 0 7)) 0 (u 9 c) 10).testBit (u 9 d)) j)) (u 0 7) (nI 0) (by omega) rfl ?_ ?_
    · intro n m e
      subst e
      simp (disch := omega) only [f_X6_choirAround_L50, c7, i_leT]
      rfl
    · intro n j m hj e ih
      subst e
      have hj9 := wc j hj
      simp (disch := omega) only [f_X6_choirAround_L50, c7, i_leF, xl_s, ob_s, xb_s, rd_n, wr_n, m_1, m_1b, nI_add, pk_mul, l_0, l_1, l_2, l_3, l_4, l_5, l_6, l_7, l_8, l_9, l_10, l_11, l_12, l_13, l_14, l_15, l_16, l_17, l_18, l_19, l_20, l_21, l_22, l_23, l_24, l_30, l_31, l_32, l_40, l_41, l_48, l_57, l_59, l_64, l_90, l_97, l_99, l_100, l_119, l_122, l_186, l_200, l_255, l_600, l_999, l_1488, l_1000000, r9, bt_n, bt_0, bt_1, sh_n, fa_or]
      cases e : (qit u (qtk u (u 0 7)) 0 (u 9 c) 10).testBit (u 9 j)
      · rw [if_pos rfl]
        exact ih _ (by rw [qm, e, if_neg (by decide), Nat.or_zero])
      · rw [if_neg (by decide)]
        exact ih _ (by rw [qm, e]; rfl)
  · intro n j m hj e ih
    subst e
    have hj9 := wc j hj
    simp (disch := omega) only [f_X6_choirAround_L4, c7, i_leF, xl_s, ob_s, xb_s, rd_n, wr_n, m_1, m_1b, nI_add, pk_mul, l_0, l_1, l_2, l_3, l_4, l_5, l_6, l_7, l_8, l_9, l_10, l_11, l_12, l_13, l_14, l_15, l_16, l_17, l_18, l_19, l_20, l_21, l_22, l_23, l_24, l_30, l_31, l_32, l_40, l_41, l_48, l_57, l_59, l_64, l_90, l_97, l_99, l_100, l_119, l_122, l_186, l_200, l_255, l_600, l_999, l_1488, l_1000000, r9, sh_n, fa_or]
    exact ih _ rfl
theorem kc_main (h : RC S u) (w : WF u) : f_X6_mainChoir S = some (nI (qgr u (u 0 7))) := by
  have hch := fun c (hc : c < u 0 7) => kc_choir h w hc
  have hb1 := fun c => bc_n (qch u c) (Nat.lt_trans (qch_lt w c) (by decide))
  have hb2 := fun c => bc_n (qgr u c) (Nat.lt_trans (qgr_lt w c) (by decide))
  have hcl := qcp_lt w
  have hq1 := fun c => qc_le (qch u c)
  have hq2 := fun c => qc_le (qgr u c)
  have hbit := qcp_bit w
  have hsame := fun c d (hc : c < u 0 7) h => qch_same w (c := c) (d := d) hc h
  obtain ⟨⟨c0, c3, c7, cN, cG, cA⟩, r1, r2, r3, r4, r5, r6, r7, r8, r9, rT, kw, kg, kb⟩ := h
  obtain ⟨hB, w0, w3, w7, wN, wk, wg, wc, wd, wo, wv⟩ := w
  unfold f_X6_mainChoir
  simp only [l_0]
  refine q_lp (fun n j (m : Int32 × Int32) => f_X6_mainChoir_L6 _ S n m.1 m.2 (nI j) = some (nI (qgr u (u 0 7)))) (fun j m => m = (nI (qgr u j), nI (qcp u j))) (u 0 7) (nI 0, nI 0) (by omega) rfl ?_ ?_
  · intro n m e
    subst e
    simp (disch := omega) only [f_X6_mainChoir_L6, c7, i_leT]
  · intro n j m hj e ih
    subst e
    have h1 := hcl j
    have h2 := hq1 j
    have h3 := hq2 j
    simp (disch := omega) only [f_X6_mainChoir_L6, c7, i_leF, xl_s, ob_s, xb_s, rd_n, wr_n, m_1, m_1b, nI_add, pk_mul, l_0, l_1, l_2, l_3, l_4, l_5, l_6, l_7, l_8, l_9, l_10, l_11, l_12, l_13, l_14, l_15, l_16, l_17, l_18, l_19, l_20, l_21, l_22, l_23, l_24, l_30, l_31, l_32, l_40, l_41, l_48, l_57, l_59, l_64, l_90, l_97, l_99, l_100, l_119, l_122, l_186, l_200, l_255, l_600, l_999, l_1488, l_1000000, bt_n, bt_0, bt_1, hch, hb1, hb2, fa_or]
    simp (disch := omega) only [nI_leI]
    by_cases e : (qcp u j).testBit j = true
    · rw [if_neg (by rw [e]; decide)]
      obtain ⟨c, hc, h4⟩ := (hbit j j (by omega)).mp e
      have h5 := hsame c j (by omega) h4
      refine ih (nI (qgr u j), nI (qcp u j)) ?_
      rw [qgr, h5, if_pos (qgr_ge hc), qcp, if_pos e]
    · rw [if_pos (b_f e)]
      by_cases e2 : qc (qch u j) ≤ qc (qgr u j)
      · rw [if_pos e2]
        refine ih (nI (qgr u j), nI (qcp u j ||| qch u j)) ?_
        rw [qgr, if_pos e2, qcp, if_neg e]
      · rw [if_neg e2]
        refine ih (nI (qch u j), nI (qcp u j ||| qch u j)) ?_
        rw [qgr, if_neg e2, qcp, if_neg e]
/-! the reference's: in place, over cats -/
def qwd (u : QU) (a b : Nat) : Nat := qwid u (u 9 a) (u 9 b) (u 0 3)
theorem qwd_iff (w : WF u) (ha : a < u 0 7) (hb : b < u 0 7) : 0 < qwd u a b ↔ nxt u a b := by
  have h := qwid_iff (u := u) (k := 1) (by decide) (u 9 a) (u 9 b) (u 0 3)
  have hg : ∀ g, g < u 0 3 → 1 ≤ u 5 g := fun g hg => by obtain ⟨hB, w0, w3, w7, wN, wk, wg, wc, wd, wo, wv⟩ := w; exact (wg g hg).2.2.2.1
  constructor
  · intro h1
    have h2 := h.mp h1
    obtain ⟨g, e⟩ : ∃ g, qf (fun g => qjoin u g (u 9 a) (u 9 b) && decide (1 ≤ u 5 g)) (u 0 3) = g + 1 := ⟨qf (fun g => qjoin u g (u 9 a) (u 9 b) && decide (1 ≤ u 5 g)) (u 0 3) - 1, by omega⟩
    obtain ⟨h3, h4, -⟩ := qf_s e
    rw [Bool.and_eq_true] at h4
    exact ⟨ha, hb, g, h3, of_decide_eq_true h4.1⟩
  · rintro ⟨-, -, g, h3, h4⟩
    refine h.mpr (fun q => ?_)
    have h5 := qf_0 q g h3
    rw [Bool.and_eq_false_iff] at h5
    rcases h5 with h5 | h5
    · exact of_decide_eq_false h5 h4
    · exact of_decide_eq_false h5 (hg g h3)
def qx1 (u : QU) (a m : Nat) : Nat → Nat
  | 0 => m
  | b + 1 => if (qx1 u a m b).testBit a = true then (if qwd u a b ≤ 0 then qx1 u a m b else qx1 u a m b ||| 2 ^ b) else qx1 u a m b
def qx2 (u : QU) (m : Nat) : Nat → Nat
  | 0 => m
  | a + 1 => qx1 u a (qx2 u m a) (u 0 7)
def qx3 (u : QU) (c : Nat) : Nat → Nat
  | 0 => 2 ^ c
  | k + 1 => qx2 u (qx3 u c k) (u 0 7)
theorem qx1_up {m : Nat} (h : m.testBit k = true) : ∀ n, (qx1 u a m n).testBit k = true
  | 0 => h
  | n + 1 => by
    have ih := qx1_up h n
    rw [qx1]
    split
    · split
      · exact ih
      · exact tb_or.mpr (Or.inl ih)
    · exact ih
theorem qx1_mono {m n : Nat} (h : (qx1 u a m n).testBit k = true) : ∀ d, (qx1 u a m (n + d)).testBit k = true
  | 0 => h
  | d + 1 => by
    have ih := qx1_mono h d
    show (qx1 u a m (n + d + 1)).testBit k = true
    rw [qx1]
    split
    · split
      · exact ih
      · exact tb_or.mpr (Or.inl ih)
    · exact ih
theorem qx2_mono {m n : Nat} (h : (qx2 u m n).testBit k = true) : ∀ d, (qx2 u m (n + d)).testBit k = true
  | 0 => h
  | d + 1 => qx1_up (qx2_mono h d) _
theorem qx2_e (w : WF u) {m : Nat} (h : m.testBit a = true) (he : nxt u a b) : (qx2 u m (u 0 7)).testBit b = true := by
  have h1 : (qx2 u m a).testBit a = true := by
    have := qx2_mono (u := u) (m := m) (n := 0) h a
    rwa [Nat.zero_add] at this
  have h2 := qx1_up (u := u) (a := a) h1 b
  have h3 : (qx1 u a (qx2 u m a) (b + 1)).testBit b = true := by
    rw [qx1, if_pos h2, if_neg (Nat.not_le.mpr ((qwd_iff w he.1 he.2.1).mpr he))]
    exact tb_or.mpr (Or.inr Nat.testBit_two_pow_self)
  have hb := he.2.1
  have ha := he.1
  have h4 := qx1_mono h3 (u 0 7 - (b + 1))
  rw [Nat.add_sub_cancel' (by omega)] at h4
  have h5 := qx2_mono (u := u) (m := m) (n := a + 1) h4 (u 0 7 - (a + 1))
  rwa [Nat.add_sub_cancel' (by omega)] at h5
theorem qx1_dn (w : WF u) {m : Nat} (ha : a < u 0 7) (h : ∀ k, m.testBit k = true → ∃ i, rch (nxt u) c i k) : ∀ n, n ≤ u 0 7 → ∀ k, (qx1 u a m n).testBit k = true → ∃ i, rch (nxt u) c i k
  | 0, _ => h
  | n + 1, hn => by
    have ih := qx1_dn w ha h n (by omega)
    intro k
    rw [qx1]
    split
    · rename_i h1
      split
      · exact ih k
      · rename_i h2
        rw [tb_or, Nat.testBit_two_pow, decide_eq_true_eq]
        rintro (h3 | rfl)
        · exact ih k h3
        · obtain ⟨i, hi⟩ := ih a h1
          exact ⟨i + 1, rch_e hi ((qwd_iff w ha (by omega)).mp (by omega))⟩
    · exact ih k
theorem qx2_dn (w : WF u) {m : Nat} (h : ∀ k, m.testBit k = true → ∃ i, rch (nxt u) c i k) : ∀ n, n ≤ u 0 7 → ∀ k, (qx2 u m n).testBit k = true → ∃ i, rch (nxt u) c i k
  | 0, _ => h
  | n + 1, hn => qx1_dn w (by omega) (qx2_dn w h n (by omega)) _ (Nat.le_refl _)
theorem qx1_lt (h8 : u 0 7 ≤ 8) {m : Nat} (hm : m < 256) : ∀ n, n ≤ u 0 7 → qx1 u a m n < 256
  | 0, _ => hm
  | n + 1, hn => by
    have ih := qx1_lt h8 hm n (by omega)
    rw [qx1]
    split
    · split
      · exact ih
      · exact Nat.or_lt_two_pow (n := 8) ih (p2_lt (by omega))
    · exact ih
theorem qx2_lt (h8 : u 0 7 ≤ 8) {m : Nat} (hm : m < 256) : ∀ n, n ≤ u 0 7 → qx2 u m n < 256
  | 0, _ => hm
  | n + 1, hn => qx1_lt h8 (qx2_lt h8 hm n (by omega)) _ (Nat.le_refl _)
theorem qx3_lt (h8 : u 0 7 ≤ 8) (hc : c < u 0 7) : ∀ n, qx3 u c n < 256
  | 0 => p2_lt (n := 8) (by omega)
  | n + 1 => qx2_lt h8 (qx3_lt h8 hc n) _ (Nat.le_refl _)
theorem qx3_qch (w : WF u) (hc : c < u 0 7) : qx3 u c (u 0 7) = qch u c := by
  have hdn : ∀ n k, (qx3 u c n).testBit k = true → ∃ i, rch (nxt u) c i k := by
    intro n
    induction n with
    | zero =>
      intro k hk
      rw [qx3, Nat.testBit_two_pow, decide_eq_true_eq] at hk
      exact ⟨0, hk.symm⟩
    | succ n ih => exact qx2_dn w ih _ (Nat.le_refl _)
  have hup : ∀ {n k}, rch (nxt u) c n k → (qx3 u c n).testBit k = true :=
    fun h => rch_row (fun n k => (qx3 u c n).testBit k = true) (by rw [qx3, Nat.testBit_two_pow_self]) (fun n k h => by
      have := qx2_mono (u := u) (m := qx3 u c n) (n := 0) h (u 0 7)
      rwa [Nat.zero_add] at this) (fun n j k h e => qx2_e w h e) h
  refine Nat.eq_of_testBit_eq (fun k => Bool.eq_iff_iff.mpr ?_)
  rw [qch_bit w hc]
  constructor
  · exact hdn _ k
  · rintro ⟨i, hi⟩
    exact hup (rch_all nxt_in hc (by omega) hi)
theorem km_choir (h : RM (T 1) u) (w : WF u) (hc : c < u 0 7) : f_X9_choir T (nI c) = some (nI (qch u c)) := by
  have hwd := fun a b (ha : a < 2 ^ 20) (hb : b < 2 ^ 20) => km_widest h w ha hb
  have hwl := fun a b => qwid_le w a b (u 0 3) (Nat.le_refl _)
  have hx := qx3_qch w hc
  have hl1 := fun a m h8 hm n hn => qx1_lt (u := u) (a := a) (m := m) h8 hm n hn
  have hl2 := fun m h8 hm n hn => qx2_lt (u := u) (m := m) h8 hm n hn
  have hl3 := fun h8 n => qx3_lt (u := u) h8 hc n
  obtain ⟨m0, m1, m2, m3, m4, m5, m6, m7, m8, m9, n1, n2, n3, n4, n5, n6, n7, n8, n9, nT⟩ := h
  obtain ⟨hB, w0, w3, w7, wN, wk, wg, wc, wd, wo, wv⟩ := w
  rw [← hx]
  unfold f_X9_choir
  simp (disch := omega) only [xl_s, ob_s, xb_s, rd_n, wr_n, m_1, m_1b, nI_add, pk_mul, l_0, l_1, l_2, l_3, l_4, l_5, l_6, l_7, l_8, l_9, l_10, l_11, l_12, l_13, l_14, l_15, l_16, l_17, l_18, l_19, l_20, l_21, l_22, l_23, l_24, l_30, l_31, l_32, l_40, l_41, l_48, l_57, l_59, l_64, l_90, l_97, l_99, l_100, l_119, l_122, l_186, l_200, l_255, l_600, l_999, l_1488, l_1000000, sh_n]
  refine q_lp (fun n j m => f_X9_choir_L6 _ T (nI c) n m (nI j) = some (nI (qx3 u c (u 0 7)))) (fun j m => m = nI (qx3 u c j)) (u 0 7) (nI (2 ^ c)) (by omega) rfl ?_ ?_
  · intro n m e
    subst e
    simp (disch := omega) only [f_X9_choir_L6, xl_s, ob_s, xb_s, rd_n, wr_n, m_1, m_1b, nI_add, pk_mul, l_0, l_1, l_2, l_3, l_4, l_5, l_6, l_7, l_8, l_9, l_10, l_11, l_12, l_13, l_14, l_15, l_16, l_17, l_18, l_19, l_20, l_21, l_22, l_23, l_24, l_30, l_31, l_32, l_40, l_41, l_48, l_57, l_59, l_64, l_90, l_97, l_99, l_100, l_119, l_122, l_186, l_200, l_255, l_600, l_999, l_1488, l_1000000, m2, i_leT]
  · intro n k m hk e ih
    subst e
    have b3 := hl3 w7 k
    simp (disch := omega) only [f_X9_choir_L6, xl_s, ob_s, xb_s, rd_n, wr_n, m_1, m_1b, nI_add, pk_mul, l_0, l_1, l_2, l_3, l_4, l_5, l_6, l_7, l_8, l_9, l_10, l_11, l_12, l_13, l_14, l_15, l_16, l_17, l_18, l_19, l_20, l_21, l_22, l_23, l_24, l_30, l_31, l_32, l_40, l_41, l_48, l_57, l_59, l_64, l_90, l_97, l_99, l_100, l_119, l_122, l_186, l_200, l_255, l_600, l_999, l_1488, l_1000000, m2, i_leF]
    refine q_lp (fun n j m => f_X9_choir_L19 _ T (nI c) (nI k) n m (nI j) = some (nI (qx3 u c (u 0 7)))) (fun j m => m = nI (qx2 u (qx3 u c k) j)) (u 0 7) (nI (qx3 u c k)) (by omega) rfl ?_ ?_
    · intro n m e
      subst e
      simp (disch := omega) only [f_X9_choir_L19, xl_s, ob_s, xb_s, rd_n, wr_n, m_1, m_1b, nI_add, pk_mul, l_0, l_1, l_2, l_3, l_4, l_5, l_6, l_7, l_8, l_9, l_10, l_11, l_12, l_13, l_14, l_15, l_16, l_17, l_18, l_19, l_20, l_21, l_22, l_23, l_24, l_30, l_31, l_32, l_40, l_41, l_48, l_57, l_59, l_64, l_90, l_97, l_99, l_100, l_119, l_122, l_186, l_200, l_255, l_600, l_999, l_1488, l_1000000, m2, i_leT]
      exact ih _ rfl
    · intro n a m ha e ih2
      subst e
      have b2 := hl2 _ w7 b3 a (by omega)
      simp (disch := omega) only [f_X9_choir_L19, xl_s, ob_s, xb_s, rd_n, wr_n, m_1, m_1b, nI_add, pk_mul, l_0, l_1, l_2, l_3, l_4, l_5, l_6, l_7, l_8, l_9, l_10, l_11, l_12, l_13, l_14, l_15, l_16, l_17, l_18, l_19, l_20, l_21, l_22, l_23, l_24, l_30, l_31, l_32, l_40, l_41, l_48, l_57, l_59, l_64, l_90, l_97, l_99, l_100, l_119, l_122, l_186, l_200, l_255, l_600, l_999, l_1488, l_1000000, m2, i_leF]
      refine q_lp (fun n j m => f_X9_choir_L33 _ T (nI c) (nI k) (nI a) n m (nI j) = some (nI (qx3 u c (u 0 7)))) (fun j m => m = nI (qx1 u a (qx2 u (qx3 u c k) a) j)) (u 0 7) (nI (qx2 u (qx3 u c k) a)) (by omega) rfl ?_ ?_
      · intro n m e
        subst e
        simp (disch := omega) only [f_X9_choir_L33, xl_s, ob_s, xb_s, rd_n, wr_n, m_1, m_1b, nI_add, pk_mul, l_0, l_1, l_2, l_3, l_4, l_5, l_6, l_7, l_8, l_9, l_10, l_11, l_12, l_13, l_14, l_15, l_16, l_17, l_18, l_19, l_20, l_21, l_22, l_23, l_24, l_30, l_31, l_32, l_40, l_41, l_48, l_57, l_59, l_64, l_90, l_97, l_99, l_100, l_119, l_122, l_186, l_200, l_255, l_600, l_999, l_1488, l_1000000, m2, i_leT]
        exact ih2 _ rfl
      · intro n b m hb e ih3
        subst e
        have b1 := hl1 a _ w7 b2 b (by omega)
        have c1 := hB 9 a (by decide)
        have c2 := hB 9 b (by decide)
        have c3 := hwl (u 9 a) (u 9 b)
        simp (disch := omega) only [f_X9_choir_L33, xl_s, ob_s, xb_s, rd_n, wr_n, m_1, m_1b, nI_add, pk_mul, l_0, l_1, l_2, l_3, l_4, l_5, l_6, l_7, l_8, l_9, l_10, l_11, l_12, l_13, l_14, l_15, l_16, l_17, l_18, l_19, l_20, l_21, l_22, l_23, l_24, l_30, l_31, l_32, l_40, l_41, l_48, l_57, l_59, l_64, l_90, l_97, l_99, l_100, l_119, l_122, l_186, l_200, l_255, l_600, l_999, l_1488, l_1000000, m2, i_leF, bt_n, bt_0, bt_1, km_of, n9, hwd, sh_n, fa_or, Nat.or_zero]
        simp (disch := omega) only [nI_leI]
        by_cases e1 : (qx1 u a (qx2 u (qx3 u c k) a) b).testBit a = true
        · rw [if_pos e1]
          by_cases e2 : qwid u (u 9 a) (u 9 b) (u 0 3) ≤ 0
          · rw [if_pos e2]
            exact ih3 _ (by rw [qx1, if_pos e1, qwd, if_pos e2])
          · rw [if_neg e2]
            exact ih3 _ (by rw [qx1, if_pos e1, qwd, if_neg e2])
        · rw [if_neg e1]
          exact ih3 _ (by rw [qx1, if_neg e1])
theorem km_greatest (h : RM (T 1) u) (w : WF u) : f_X9_greatestChoir T = some (nI (qgr u (u 0 7))) := by
  have hch := fun c (hc : c < u 0 7) => km_choir h w hc
  have hb1 := fun c => bi_n (qch u c) (Nat.lt_trans (qch_lt w c) (by decide))
  have hb2 := fun c => bi_n (qgr u c) (Nat.lt_trans (qgr_lt w c) (by decide))
  have hq1 := fun c => qc_le (qch u c)
  have hq2 := fun c => qc_le (qgr u c)
  obtain ⟨m0, m1, m2, m3, m4, m5, m6, m7, m8, m9, n1, n2, n3, n4, n5, n6, n7, n8, n9, nT⟩ := h
  obtain ⟨hB, w0, w3, w7, wN, wk, wg, wc, wd, wo, wv⟩ := w
  unfold f_X9_greatestChoir
  simp only [l_0]
  refine q_lp (fun n j m => f_X9_greatestChoir_L4 _ T n m (nI j) = some (nI (qgr u (u 0 7)))) (fun j m => m = nI (qgr u j)) (u 0 7) (nI 0) (by omega) rfl ?_ ?_
  · intro n m e
    subst e
    simp (disch := omega) only [f_X9_greatestChoir_L4, xl_s, ob_s, xb_s, rd_n, wr_n, m_1, m_1b, nI_add, pk_mul, l_0, l_1, l_2, l_3, l_4, l_5, l_6, l_7, l_8, l_9, l_10, l_11, l_12, l_13, l_14, l_15, l_16, l_17, l_18, l_19, l_20, l_21, l_22, l_23, l_24, l_30, l_31, l_32, l_40, l_41, l_48, l_57, l_59, l_64, l_90, l_97, l_99, l_100, l_119, l_122, l_186, l_200, l_255, l_600, l_999, l_1488, l_1000000, m2, i_leT]
  · intro n j m hj e ih
    subst e
    have h2 := hq1 j
    have h3 := hq2 j
    simp (disch := omega) only [f_X9_greatestChoir_L4, m2, i_leF, xl_s, ob_s, xb_s, rd_n, wr_n, m_1, m_1b, nI_add, pk_mul, l_0, l_1, l_2, l_3, l_4, l_5, l_6, l_7, l_8, l_9, l_10, l_11, l_12, l_13, l_14, l_15, l_16, l_17, l_18, l_19, l_20, l_21, l_22, l_23, l_24, l_30, l_31, l_32, l_40, l_41, l_48, l_57, l_59, l_64, l_90, l_97, l_99, l_100, l_119, l_122, l_186, l_200, l_255, l_600, l_999, l_1488, l_1000000, hch, hb1, hb2]
    simp (disch := omega) only [nI_leI]
    by_cases e2 : qc (qch u j) ≤ qc (qgr u j)
    · rw [if_pos e2]
      exact ih _ (by rw [qgr, if_pos e2])
    · rw [if_neg e2]
      exact ih _ (by rw [qgr, if_neg e2])
theorem ch_mod (w : WF u) (hc : c < u 0 7) : qch u c % 2 ^ c = 0 ↔ ¬ (qcp u c).testBit c = true := by
  rw [qcp_bit w c c (by omega)]
  constructor
  · rintro h ⟨d, hd, h1⟩
    have h2 := qch_sy w (by omega) h1
    have h3 : (qch u c % 2 ^ c).testBit d = true := by rw [Nat.testBit_mod_two_pow, decide_eq_true hd, h2]; rfl
    rw [h, Nat.zero_testBit] at h3
    cases h3
  · intro h
    refine Nat.eq_of_testBit_eq (fun d => ?_)
    rw [Nat.testBit_mod_two_pow, Nat.zero_testBit]
    by_cases e : d < c
    · rw [decide_eq_true e, Bool.true_and]
      cases q : (qch u c).testBit d
      · rfl
      · exact absurd ⟨d, e, qch_sy w hc q⟩ h
    · rw [decide_eq_false e, Bool.false_and]
end
