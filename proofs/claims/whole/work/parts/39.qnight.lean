/-! level 2: nights -/
theorem qps_cong {u v : QU} {al lw m : Nat} (h3 : ∀ g, u 3 g = v 3 g) (h4 : ∀ g, u 4 g = v 4 g) (h5 : ∀ g, u 5 g = v 5 g) : ∀ n, qps u al lw m n = qps v al lw m n
  | 0 => rfl
  | n + 1 => by rw [qps, qps, qps_cong h3 h4 h5 n, h3, h4, h5]
theorem qit_cong {u v : QU} {al lw s : Nat} (h0 : u 0 3 = v 0 3) (h3 : ∀ g, u 3 g = v 3 g) (h4 : ∀ g, u 4 g = v 4 g) (h5 : ∀ g, u 5 g = v 5 g) : ∀ n, qit u al lw s n = qit v al lw s n
  | 0 => rfl
  | n + 1 => by rw [qit, qit, qit_cong h0 h3 h4 h5 n, h0, qps_cong h3 h4 h5]
theorem qtk_cong {u v : QU} (h9 : ∀ g, u 9 g = v 9 g) : ∀ n, qtk u n = qtk v n
  | 0 => rfl
  | n + 1 => by rw [qtk, qtk, qtk_cong h9 n, h9]
theorem qch_cong {u v : QU} (h7 : u 0 7 = v 0 7) (h0 : u 0 3 = v 0 3) (h3 : ∀ g, u 3 g = v 3 g) (h4 : ∀ g, u 4 g = v 4 g) (h5 : ∀ g, u 5 g = v 5 g) (h9 : ∀ g, u 9 g = v 9 g) (c : Nat) : qch u c = qch v c := by
  unfold qch
  rw [h7, qtk_cong h9, h9]
  refine qm_cong (fun d hd => ?_)
  rw [qit_cong h0 h3 h4 h5, h9]
theorem qgr_cong {u v : QU} (h7 : u 0 7 = v 0 7) (h0 : u 0 3 = v 0 3) (h3 : ∀ g, u 3 g = v 3 g) (h4 : ∀ g, u 4 g = v 4 g) (h5 : ∀ g, u 5 g = v 5 g) (h9 : ∀ g, u 9 g = v 9 g) : ∀ n, qgr u n = qgr v n
  | 0 => rfl
  | n + 1 => by rw [qgr, qgr, qgr_cong h7 h0 h3 h4 h5 h9 n, qch_cong h7 h0 h3 h4 h5 h9]
/-- other fish, sums and night -/
def qX (u : QU) (F : Nat → Nat) (G A t : Nat) : QU := fun r i => if r = 8 then F i else if r = 20 then (if i = 0 then G else if i = 1 then A else u 20 i) else if r = 0 ∧ i = 13 then t else u r i
def qsup (u : QU) (c f : Nat) : Nat := if qhome u c = true then (if f + u 1 (u 9 c) / 3 < 99 then f + u 1 (u 9 c) / 3 else 99) else f - 1
def qfea (u : QU) (c f t : Nat) : Nat := if t % 8 = 4 ∧ (qgr u (u 0 7)).testBit c = true then (if f + qc (qgr u (u 0 7)) < 99 then f + qc (qgr u (u 0 7)) else 99) else f
def qF (u : QU) (c : Nat) : Nat → Nat
  | 0 => u 8 c
  | n + 1 => qfea u c (qsup u c (qF u c n)) (u 0 13 + n + 1)
def qG (u : QU) : Nat → Nat
  | 0 => u 20 0
  | n + 1 => qG u n + fb_sm (fun c => (qsup u c (qF u c n) - qF u c n) + (qF u c (n + 1) - qsup u c (qF u c n))) (u 0 7)
def qA (u : QU) : Nat → Nat
  | 0 => u 20 1
  | n + 1 => qA u n + fb_sm (fun c => qF u c n - qsup u c (qF u c n)) (u 0 7)
def qFF (u : QU) (c n : Nat) : Nat := if c < u 0 7 then qF u c n else u 8 c
def qN (u : QU) (n : Nat) : QU := qX u (fun c => qFF u c n) (qG u n) (qA u n) (u 0 13 + n)
section
variable {S T : XS} {u : QU} {a b c d g k G A t : Nat} {F F' : Nat → Nat}
theorem X8 (i : Nat) : qX u F G A t 8 i = F i := if_pos rfl
theorem X20 : qX u F G A t 20 0 = G := rfl
theorem X21 : qX u F G A t 20 1 = A := rfl
theorem X13 : qX u F G A t 0 13 = t := rfl
theorem Xr {r : Nat} (i : Nat) (h8 : r ≠ 8) (h20 : r ≠ 20) (h0 : r ≠ 0 ∨ i ≠ 13) : qX u F G A t r i = u r i := by
  unfold qX
  rw [if_neg h8, if_neg h20, if_neg (fun q => h0.elim (fun z => z q.1) (fun z => z q.2))]
theorem qX_0 : qX u (fun c => u 8 c) (u 20 0) (u 20 1) (u 0 13) = u := by
  funext r i
  unfold qX
  split
  · rename_i h; rw [h]
  · split
    · rename_i h
      split
      · rename_i h2; rw [h, h2]
      · split
        · rename_i h2; rw [h, h2]
        · rw [h]
    · split
      · rename_i h; rw [h.1, h.2]
      · rfl
theorem wf_X (w : WF u) (hF : ∀ i, F i < 1048576) (hF2 : ∀ c, c < u 0 7 → F c ≤ 99) (ht : t ≤ 5000) : WF (qX u F G A t) := by
  have hq : ∀ d, qown (qX u F G A t) d = qown u d := fun d => by
    unfold qown
    simp (disch := omega) only [Xr]
  obtain ⟨hB, w0, w3, w7, wN, wk, wg, wc, wd, wo, wv⟩ := w
  refine ⟨?_, ?_, ?_, ?_, ?_, fun k hk => ?_, fun k hk => ?_, fun k hk => ?_, fun k k2 hk hk2 => ?_, fun k hk => ?_, ?_⟩
  · intro r i hr
    unfold qX
    split
    · exact hF i
    · split
      · omega
      · split
        · omega
        · exact hB r i hr
  all_goals (try simp (disch := omega) only [Xr] at hk)
  all_goals (try simp (disch := omega) only [Xr] at hk2)
  all_goals (try rw [hq])
  all_goals (try simp (disch := omega) only [Xr, X8, X13])
  · exact w0
  · exact w3
  · exact w7
  · exact ht
  · exact wk k hk
  · exact wg k hk
  · have := wc k hk; have := hF2 k hk; omega
  · exact wd k k2 hk hk2
  · exact wo k hk
  · exact wv
theorem X_home (c : Nat) : qhome (qX u F G A t) c = qhome u c := by
  unfold qhome
  simp (disch := omega) only [Xr]
theorem X_gr : qgr (qX u F G A t) (u 0 7) = qgr u (u 0 7) :=
  qgr_cong (Xr 7 (by decide) (by decide) (Or.inr (by decide))) (Xr 3 (by decide) (by decide) (Or.inr (by decide))) (fun g => Xr g (by decide) (by decide) (Or.inl (by decide))) (fun g => Xr g (by decide) (by decide) (Or.inl (by decide))) (fun g => Xr g (by decide) (by decide) (Or.inl (by decide))) (fun g => Xr g (by decide) (by decide) (Or.inl (by decide))) _
theorem sup_le (w : WF u) {f : Nat} (hf : f ≤ 99) : qsup u c f ≤ 99 := by
  unfold qsup
  split
  · split <;> omega
  · omega
theorem fea_le {f : Nat} (hf : f ≤ 99) : qfea u c f t ≤ 99 := by
  unfold qfea
  split
  · split <;> omega
  · omega
theorem fea_ge {f : Nat} (hf : f ≤ 99) : f ≤ qfea u c f t := by
  unfold qfea
  split
  · split <;> omega
  · omega
theorem qF_le (w : WF u) (hc : c < u 0 7) : ∀ n, qF u c n ≤ 99
  | 0 => by obtain ⟨hB, w0, w3, w7, wN, wk, wg, wc, wd, wo, wv⟩ := w; exact (wc c hc).2.2.2.2.1
  | n + 1 => fea_le (sup_le w (qF_le w hc n))
/-- the class: one cat's fish set -/
theorem kc_setF (h : RC S (qX u F G A t)) (hc : c < u 0 7) (h7 : u 0 7 ≤ 8) (hF : F c ≤ 99) (ha : a ≤ 99) : ∃ S', f_X6_setFishInNight S (nI c) (nI a) = some S' ∧ RC S' (qX u (fun i => if i = c then a else F i) (G + (a - F c)) (A + (F c - a)) t) := by
  have e7 : qX u F G A t 0 7 = u 0 7 := Xr 7 (by decide) (by decide) (Or.inr (by decide))
  obtain ⟨⟨c0, c3, c7, cN, cG, cA⟩, r1, r2, r3, r4, r5, r6, r7, r8, r9, rT, kw, kg, kb⟩ := h
  simp only [qb] at kb
  simp (disch := omega) only [Xr, X8, X20, X21, X13] at c0 c3 c7 cN cG cA r1 r2 r3 r4 r5 r6 r7 r8 r9 rT kw kg kb
  by_cases e : a ≤ F c
  · refine ⟨xput (xput S 0 15 (nI (A + (F c - a)))) 8 c (nI a), ?_, ?_⟩
    · simp (disch := omega) only [f_X6_setFishInNight, xl_s, ob_s, xb_s, rd_n, wr_n, m_1, m_1b, nI_add, pk_mul, l_0, l_1, l_2, l_3, l_4, l_5, l_6, l_7, l_8, l_9, l_10, l_11, l_12, l_13, l_14, l_15, l_16, l_17, l_18, l_19, l_20, l_21, l_22, l_23, l_24, l_30, l_31, l_32, l_40, l_41, l_48, l_57, l_59, l_64, l_90, l_97, l_99, l_100, l_119, l_122, l_186, l_200, l_255, l_600, l_999, l_1488, l_1000000, r8, i_leT, cA, pk_sub]
    · refine ⟨⟨?_, ?_, ?_, ?_, ?_, ?_⟩, fun k hk => ?_, fun k hk => ?_, fun k hk => ?_, fun k hk => ?_, fun k hk => ?_, fun k hk => ?_, fun k hk => ?_, fun k hk => ?_, fun k hk => ?_, fun k hk => ?_, ?_, fun hk => ?_, fun k hk => ?_⟩
      all_goals (try simp (disch := omega) only [Xr, X8, X20, X21, X13] at hk)
      all_goals (try by_cases e2 : k = c)
      all_goals simp (disch := omega) only [qb, xq_n, xp_s, Xr, X8, X20, X21, X13, i_T, i_F, c0, c3, c7, cN, cG, cA, r1, r2, r3, r4, r5, r6, r7, r8, r9, rT, kw, kg, kb, if_true, if_false, and_self]
      all_goals (first | exact kg hk | (congr 1; omega) | rfl)
  · refine ⟨xput (xput S 0 14 (nI (G + (a - F c)))) 8 c (nI a), ?_, ?_⟩
    · simp (disch := omega) only [f_X6_setFishInNight, xl_s, ob_s, xb_s, rd_n, wr_n, m_1, m_1b, nI_add, pk_mul, l_0, l_1, l_2, l_3, l_4, l_5, l_6, l_7, l_8, l_9, l_10, l_11, l_12, l_13, l_14, l_15, l_16, l_17, l_18, l_19, l_20, l_21, l_22, l_23, l_24, l_30, l_31, l_32, l_40, l_41, l_48, l_57, l_59, l_64, l_90, l_97, l_99, l_100, l_119, l_122, l_186, l_200, l_255, l_600, l_999, l_1488, l_1000000, r8, i_leF, cG, pk_sub]
    · refine ⟨⟨?_, ?_, ?_, ?_, ?_, ?_⟩, fun k hk => ?_, fun k hk => ?_, fun k hk => ?_, fun k hk => ?_, fun k hk => ?_, fun k hk => ?_, fun k hk => ?_, fun k hk => ?_, fun k hk => ?_, fun k hk => ?_, ?_, fun hk => ?_, fun k hk => ?_⟩
      all_goals (try simp (disch := omega) only [Xr, X8, X20, X21, X13] at hk)
      all_goals (try by_cases e2 : k = c)
      all_goals simp (disch := omega) only [qb, xq_n, xp_s, Xr, X8, X20, X21, X13, i_T, i_F, c0, c3, c7, cN, cG, cA, r1, r2, r3, r4, r5, r6, r7, r8, r9, rT, kw, kg, kb, if_true, if_false, and_self]
      all_goals (first | exact kg hk | (congr 1; omega) | rfl)
theorem mi_n {x : Nat} (hx : x < 2 ^ 30) : (if nI x < nI 99 then nI x else nI 99) = nI (if x < 99 then x else 99) := by
  by_cases h : x < 99
  · rw [if_pos h, if_pos (nI_lt h (by decide))]
  · rw [if_neg h, if_neg (nI_nlt (by omega) (by omega))]
theorem kc_supper (h : RC S u) (w : WF u) (hc : c < u 0 7) {f : Nat} (hf : f ≤ 99) : f_X6_supper S (nI c) (nI f) = some (nI (qsup u c f)) := by
  have h1 := kc_home h w hc
  obtain ⟨⟨c0, c3, c7, cN, cG, cA⟩, r1, r2, r3, r4, r5, r6, r7, r8, r9, rT, kw, kg, kb⟩ := h
  obtain ⟨hB, w0, w3, w7, wN, wk, wg, wc, wd, wo, wv⟩ := w
  have h9 := wc c hc
  have hk := (wk (u 9 c) h9.2.2.2.2.2).1
  simp (disch := omega) only [f_X6_supper, xl_s, ob_s, xb_s, rd_n, wr_n, m_1, m_1b, nI_add, pk_mul, l_0, l_1, l_2, l_3, l_4, l_5, l_6, l_7, l_8, l_9, l_10, l_11, l_12, l_13, l_14, l_15, l_16, l_17, l_18, l_19, l_20, l_21, l_22, l_23, l_24, l_30, l_31, l_32, l_40, l_41, l_48, l_57, l_59, l_64, l_90, l_97, l_99, l_100, l_119, l_122, l_186, l_200, l_255, l_600, l_999, l_1488, l_1000000, h1, nB_0, r9, r1, mx_n, pk_div, mi_n]
  unfold qsup
  cases e : qhome u c
  · rw [if_pos rfl, if_neg (by decide)]
  · rw [if_neg (by decide), if_pos rfl]
theorem kc_feast (hc : c < 31) {f t m : Nat} (hf : f ≤ 99) (ht : t < 2 ^ 30) (hm : m < 256) : f_X6_feast S (nI c) (nI f) (nI t) (nI m) = some (nI (if t % 8 = 4 ∧ m.testBit c = true then (if f + qc m < 99 then f + qc m else 99) else f)) := by
  have hb := bc_n m (by omega)
  have hq := qc_le m
  simp (disch := omega) only [f_X6_feast, xl_s, ob_s, xb_s, rd_n, wr_n, m_1, m_1b, nI_add, pk_mul, l_0, l_1, l_2, l_3, l_4, l_5, l_6, l_7, l_8, l_9, l_10, l_11, l_12, l_13, l_14, l_15, l_16, l_17, l_18, l_19, l_20, l_21, l_22, l_23, l_24, l_30, l_31, l_32, l_40, l_41, l_48, l_57, l_59, l_64, l_90, l_97, l_99, l_100, l_119, l_122, l_186, l_200, l_255, l_600, l_999, l_1488, l_1000000, pk_rem, bt_n, bt_0, hb, mi_n, nI_eq]
  by_cases e1 : t % 8 = 4
  · rw [if_pos e1]
    cases e2 : m.testBit c
    · rw [if_pos rfl, if_neg (fun q => by cases q.2)]
    · rw [if_neg (show ¬ true = false by decide), if_pos (show t % 8 = 4 ∧ true = true from ⟨e1, rfl⟩)]
  · rw [if_neg e1, if_neg (fun q => e1 q.1)]
theorem X_sup (c f : Nat) : qsup (qX u F G A t) c f = qsup u c f := by
  unfold qsup
  rw [X_home]
  simp (disch := omega) only [Xr]
theorem fun_j {f1 f0 : Nat → Nat} {j : Nat} : (fun i => if i = j then f1 j else if i < j then f1 i else f0 i) = fun i => if i < j + 1 then f1 i else f0 i := by
  funext i
  by_cases e : i = j
  · rw [if_pos e, e, if_pos (by omega)]
  · rw [if_neg e]
    by_cases e2 : i < j
    · rw [if_pos e2, if_pos (by omega)]
    · rw [if_neg e2, if_neg (by omega)]
theorem rc_X13 (h : RC S (qX u F G A t)) : RC (xput S 0 13 (nI (t + 1))) (qX u F G A (t + 1)) := by
  obtain ⟨⟨c0, c3, c7, cN, cG, cA⟩, r1, r2, r3, r4, r5, r6, r7, r8, r9, rT, kw, kg, kb⟩ := h
  simp only [qb] at kb
  simp (disch := omega) only [Xr, X8, X20, X21, X13] at c0 c3 c7 cN cG cA r1 r2 r3 r4 r5 r6 r7 r8 r9 rT kw kg kb
  refine ⟨⟨?_, ?_, ?_, ?_, ?_, ?_⟩, fun k hk => ?_, fun k hk => ?_, fun k hk => ?_, fun k hk => ?_, fun k hk => ?_, fun k hk => ?_, fun k hk => ?_, fun k hk => ?_, fun k hk => ?_, fun k hk => ?_, ?_, fun hk => ?_, fun k hk => ?_⟩
  all_goals (try simp (disch := omega) only [Xr, X8, X20, X21, X13] at hk)
  all_goals simp (disch := omega) only [qb, xq_n, xp_s, Xr, X8, X20, X21, X13, i_T, i_F, c0, c3, c7, cN, cG, cA, r1, r2, r3, r4, r5, r6, r7, r8, r9, rT, kw, kg, kb, if_true, if_false, and_self]
  all_goals (first | exact kg hk | rfl)
theorem rc_X7 (h : RC S (qX u F G A t)) : S 0 7 = nI (u 0 7) := by
  have e7 : qX u F G A t 0 7 = u 0 7 := Xr 7 (by decide) (by decide) (Or.inr (by decide))
  rw [← e7]
  exact h.1.2.2.1
theorem rc_XN (h : RC S (qX u F G A t)) : S 0 13 = nI t := h.1.2.2.2.1
theorem rc_X8 (h : RC S (qX u F G A t)) (hc : c < u 0 7) : S 8 c = nI (F c) := by
  have e7 : qX u F G A t 0 7 = u 0 7 := Xr 7 (by decide) (by decide) (Or.inr (by decide))
  have := h.2.2.2.2.2.2.2.2.1 c (by rw [e7]; exact hc)
  rwa [X8] at this
theorem rc_cg (h : RC S (qX u F G A t)) {G' A' : Nat} (hF : ∀ i, F i = F' i) (hG : G = G') (hA : A = A') : RC S (qX u F' G' A' t) := by
  have e : F = F' := funext hF
  subst e; subst hG; subst hA
  exact h
theorem rc_lv {F' : Nat → Nat} (hF : ∀ c, c < u 0 7 → F c = F' c) (h : RC S (qX u F G A t)) : RC S (qX u F' G A t) := by
  obtain ⟨⟨c0, c3, c7, cN, cG, cA⟩, r1, r2, r3, r4, r5, r6, r7, r8, r9, rT, kw, kg, kb⟩ := h
  simp only [qb] at kb
  simp (disch := omega) only [Xr, X8, X20, X21, X13] at c0 c3 c7 cN cG cA r1 r2 r3 r4 r5 r6 r7 r8 r9 rT kw kg kb
  refine ⟨⟨?_, ?_, ?_, ?_, ?_, ?_⟩, fun k hk => ?_, fun k hk => ?_, fun k hk => ?_, fun k hk => ?_, fun k hk => ?_, fun k hk => ?_, fun k hk => ?_, fun k hk => ?_, fun k hk => ?_, fun k hk => ?_, ?_, fun hk => ?_, fun k hk => ?_⟩
  all_goals (try simp (disch := omega) only [Xr, X8, X20, X21, X13] at hk)
  all_goals (try simp (disch := omega) only [qb, Xr, X8, X20, X21, X13, c0, c3, c7, cN, cG, cA, r1, r2, r3, r4, r5, r6, r7, r8, r9, rT, kw, kg, kb, and_self])
  all_goals (first | exact kg hk | (rw [hF k hk]) | rfl)
theorem qF_lt (w : WF u) (c : Nat) : ∀ n, qF u c n < 1048576
  | 0 => w.1 8 c (by decide)
  | n + 1 => by
    have ih := qF_lt w c n
    have h1 : qsup u c (qF u c n) < 1048576 := by
      unfold qsup
      split
      · split <;> omega
      · omega
    rw [qF]
    unfold qfea
    split
    · split <;> omega
    · exact h1
theorem qFF_lt (hj : c < u 0 7) (n : Nat) : qFF u c n = qF u c n := if_pos hj
theorem qFF_b (w : WF u) (n : Nat) : qFF u c n < 1048576 := by
  unfold qFF
  split
  · exact qF_lt w c n
  · exact w.1 8 c (by decide)
/-- the class: one night -/
theorem kc_night1 (w : WF u) {n : Nat} (hn : u 0 13 + n + 1 ≤ 5000) (x : Int32) (y : Int32) (h : RC S (qX u (fun i => qF u i n) (qG u n) (qA u n) (u 0 13 + n + 1))) {K : Int32 → XS → Option (Int32 × XS)} {Q : Option (Int32 × XS) → Prop} (hK : ∀ S', RC S' (qN u (n + 1)) → Q (K (nI (u 0 7)) S')) : Q (f_X6_spendNights_L25 K x (nI (qgr u (u 0 7))) y FU (nI 0) S) := by
  have h7 : u 0 7 ≤ 8 := by obtain ⟨hB, w0, w3, w7, wN, wk, wg, wc, wd, wo, wv⟩ := w; exact w7
  have hg := qgr_lt w (u 0 7)
  refine q_lp (fun n2 j S1 => Q (f_X6_spendNights_L25 K x (nI (qgr u (u 0 7))) y n2 (nI j) S1))
    (fun j S1 => RC S1 (qX u (fun i => if i < j then qF u i (n + 1) else qF u i n) (qG u n + fb_sm (fun c => (qsup u c (qF u c n) - qF u c n) + (qF u c (n + 1) - qsup u c (qF u c n))) j) (qA u n + fb_sm (fun c => qF u c n - qsup u c (qF u c n)) j) (u 0 13 + n + 1))) (u 0 7) S (by omega) (rc_cg h (fun i => (if_neg (by omega)).symm) rfl rfl) ?_ ?_
  · intro n2 S1 hI
    have c7 := rc_X7 hI
    have e : RC S1 (qN u (n + 1)) := rc_lv (F' := fun c => qFF u c (n + 1)) (fun c hc => by rw [if_pos hc, qFF_lt hc]) hI
    simp (disch := omega) only [f_X6_spendNights_L25, c7, i_leT]
    exact hK S1 e
  · intro n2 j S1 hj hI ih
    have hf := qF_le w hj n
    have hs := sup_le w (c := j) hf
    have ht := qF_le w hj (n + 1)
    have htf : qfea u j (qsup u j (qF u j n)) (u 0 13 + n + 1) = qF u j (n + 1) := rfl
    have hge : qsup u j (qF u j n) ≤ qF u j (n + 1) := fea_ge hs
    have wX := wf_X (G := qG u n + fb_sm (fun c => (qsup u c (qF u c n) - qF u c n) + (qF u c (n + 1) - qsup u c (qF u c n))) j) (A := qA u n + fb_sm (fun c => qF u c n - qsup u c (qF u c n)) j) w (F := fun i => if i < j then qF u i (n + 1) else qF u i n) (fun i => by
      have h1 := qF_lt w i n
      have h2 := qF_lt w i (n + 1)
      show (if i < j then _ else _) < _
      split <;> omega) (fun c hc => by
      have h1 := qF_le w hc n
      have h2 := qF_le w hc (n + 1)
      show (if c < j then _ else _) ≤ _
      split <;> omega) hn
    have c7 := rc_X7 hI
    have c8 := rc_X8 hI hj
    rw [if_neg (Nat.lt_irrefl j)] at c8
    have e1 := kc_supper hI wX (c := j) (by rw [Xr 7 (by decide) (by decide) (Or.inr (by decide))]; exact hj) hf
    rw [X_sup] at e1
    obtain ⟨S5, e5, h5⟩ := kc_setF hI hj h7 (a := qsup u j (qF u j n)) (by rw [if_neg (Nat.lt_irrefl j)]; exact hf) hs
    have d8 := rc_X8 h5 hj
    rw [if_pos rfl] at d8
    have dN := rc_XN h5
    have e6 := kc_feast (S := S5) (c := j) (f := qsup u j (qF u j n)) (t := u 0 13 + n + 1) (m := qgr u (u 0 7)) (by omega) hs (by omega) hg
    have e6' : f_X6_feast S5 (nI j) (nI (qsup u j (qF u j n))) (nI (u 0 13 + n + 1)) (nI (qgr u (u 0 7))) = some (nI (qF u j (n + 1))) := e6
    obtain ⟨S8, e8, h8⟩ := kc_setF h5 hj h7 (a := qF u j (n + 1)) (by rw [if_pos rfl]; exact hs) ht
    simp (disch := omega) only [f_X6_spendNights_L25, c7, i_leF, xl_s, ob_s, xb_s, rd_n, wr_n, m_1, m_1b, nI_add, pk_mul, l_0, l_1, l_2, l_3, l_4, l_5, l_6, l_7, l_8, l_9, l_10, l_11, l_12, l_13, l_14, l_15, l_16, l_17, l_18, l_19, l_20, l_21, l_22, l_23, l_24, l_30, l_31, l_32, l_40, l_41, l_48, l_57, l_59, l_64, l_90, l_97, l_99, l_100, l_119, l_122, l_186, l_200, l_255, l_600, l_999, l_1488, l_1000000, c8, e1, e5, d8, dN, e6', e8]
    refine ih S8 (rc_cg h8 (fun i => ?_) ?_ ?_)
    · by_cases q : i = j
      · rw [if_pos q, if_pos (by omega), q]
      · rw [if_neg q, if_neg q]
        by_cases q2 : i < j
        · rw [if_pos q2, if_pos (by omega)]
        · rw [if_neg q2, if_neg (by omega)]
    · rw [if_pos rfl, if_neg (Nat.lt_irrefl j), fb_sm_succ]
      omega
    · rw [if_pos rfl, if_neg (Nat.lt_irrefl j), fb_sm_succ]
      omega
theorem qN_0 : qN u 0 = u := by
  have e : (fun c => qFF u c 0) = fun c => u 8 c := funext (fun c => by unfold qFF; exact ite_self _)
  have h := qX_0 (u := u)
  rw [← e] at h
  exact h
theorem kc_spend (h : RC S u) (w : WF u) {N : Nat} (hN : u 0 13 + N ≤ 5000) : ∃ S', f_X6_spendNights S (nI N) = some (nI (u 0 13 + N), S') ∧ RC S' (qN u N) := by
  have hm := kc_main h w
  unfold f_X6_spendNights
  rw [hm, ob_s]
  simp only [l_0]
  refine q_lp (fun n j S1 => ∃ S', f_X6_spendNights_L7 (fun v13 S14 => some (S14 0 13, S14)) (nI N) (nI (qgr u (u 0 7))) n (nI j) S1 = some (nI (u 0 13 + N), S') ∧ RC S' (qN u N)) (fun j S1 => RC S1 (qN u j)) N S (by omega) (by show RC S (qN u 0); rw [qN_0]; exact h) ?_ ?_
  · intro n S1 hI
    refine ⟨S1, ?_, hI⟩
    simp (disch := omega) only [f_X6_spendNights_L7, i_leT, rc_XN hI]
  · intro n j S1 hj hI ih
    have cN := rc_XN hI
    simp (disch := omega) only [f_X6_spendNights_L7, i_leF, xl_s, ob_s, xb_s, rd_n, wr_n, m_1, m_1b, nI_add, pk_mul, l_0, l_1, l_2, l_3, l_4, l_5, l_6, l_7, l_8, l_9, l_10, l_11, l_12, l_13, l_14, l_15, l_16, l_17, l_18, l_19, l_20, l_21, l_22, l_23, l_24, l_30, l_31, l_32, l_40, l_41, l_48, l_57, l_59, l_64, l_90, l_97, l_99, l_100, l_119, l_122, l_186, l_200, l_255, l_600, l_999, l_1488, l_1000000, cN]
    refine kc_night1 w (n := j) (by omega) (nI N) (nI j) (rc_lv (fun c hc => qFF_lt hc j) (rc_X13 hI)) (Q := fun o => ∃ S', o = some (nI (u 0 13 + N), S') ∧ RC S' (qN u N)) (fun S' hS' => ?_)
    exact ih S' hS'
theorem kc_future (h : RC S u) (w : WF u) (hc : c < u 0 7) {N : Nat} (hN : u 0 13 + N ≤ 5000) : f_X6_futureFish S (nI c) (nI N) = some (nI (qF u c N)) := by
  have hm := kc_main h w
  have hg := qgr_lt w (u 0 7)
  have hsu := fun f (hf : f ≤ 99) => kc_supper h w hc hf
  have hfl := qF_le w hc
  have h7 : u 0 7 ≤ 8 := by obtain ⟨hB, w0, w3, w7, wN, wk, wg, wc, wd, wo, wv⟩ := w; exact w7
  have hsl := fun f (hf : f ≤ 99) => sup_le w (c := c) hf
  obtain ⟨⟨c0, c3, c7, cN, cG, cA⟩, r1, r2, r3, r4, r5, r6, r7, r8, r9, rT, kw, kg, kb⟩ := h
  unfold f_X6_futureFish
  rw [hm, ob_s]
  simp (disch := omega) only [xl_s, ob_s, xb_s, rd_n, wr_n, m_1, m_1b, nI_add, pk_mul, l_0, l_1, l_2, l_3, l_4, l_5, l_6, l_7, l_8, l_9, l_10, l_11, l_12, l_13, l_14, l_15, l_16, l_17, l_18, l_19, l_20, l_21, l_22, l_23, l_24, l_30, l_31, l_32, l_40, l_41, l_48, l_57, l_59, l_64, l_90, l_97, l_99, l_100, l_119, l_122, l_186, l_200, l_255, l_600, l_999, l_1488, l_1000000, r8]
  refine q_loop (fun n j m => f_X6_futureFish_L16 (fun v6 v7 => some v6) S (nI c) (nI N) (nI (qgr u (u 0 7))) n m (nI (j + 1)) = some (nI (qF u c N))) (fun j m => m = nI (qF u c j)) N ?_ ?_ N FU 0 _ (by omega) (FU_lt (by omega)) rfl
  · intro n m e
    subst e
    simp (disch := omega) only [f_X6_futureFish_L16, i_ltT]
  · intro n j m hj e ih
    subst e
    have h1 := hfl j
    have h2 := hsl _ h1
    have e6 := kc_feast (S := S) (c := c) (f := qsup u c (qF u c j)) (t := u 0 13 + (j + 1)) (m := qgr u (u 0 7)) (by omega) h2 (by omega) hg
    have e6' : f_X6_feast S (nI c) (nI (qsup u c (qF u c j))) (nI (u 0 13 + (j + 1))) (nI (qgr u (u 0 7))) = some (nI (qF u c (j + 1))) := e6
    simp (disch := omega) only [f_X6_futureFish_L16, i_ltF, xl_s, ob_s, xb_s, rd_n, wr_n, m_1, m_1b, nI_add, pk_mul, l_0, l_1, l_2, l_3, l_4, l_5, l_6, l_7, l_8, l_9, l_10, l_11, l_12, l_13, l_14, l_15, l_16, l_17, l_18, l_19, l_20, l_21, l_22, l_23, l_24, l_30, l_31, l_32, l_40, l_41, l_48, l_57, l_59, l_64, l_90, l_97, l_99, l_100, l_119, l_122, l_186, l_200, l_255, l_600, l_999, l_1488, l_1000000, hsu, cN, e6']
    exact ih _ rfl
/-! the reference's nights -/
theorem upX8 (i v : Nat) : up (qX u F G A t) 8 i v = qX u (fun j => if j = i then v else F j) G A t := by
  funext r j
  unfold up qX
  by_cases e : r = 8
  · rw [if_pos e, if_pos e, if_pos rfl]
  · rw [if_neg e, if_neg e, if_neg e]
theorem upX20 (v : Nat) : up (qX u F G A t) 20 0 v = qX u F v A t := by
  funext r j
  unfold up qX
  by_cases e : r = 20
  · subst e
    by_cases e2 : j = 0
    · subst e2; rfl
    · simp [e2]
  · rw [if_neg e]
    simp [e]
theorem upX21 (v : Nat) : up (qX u F G A t) 20 1 v = qX u F G v t := by
  funext r j
  unfold up qX
  by_cases e : r = 20
  · subst e
    by_cases e2 : j = 1
    · subst e2; rfl
    · simp [e2]
  · rw [if_neg e]
    simp [e]
theorem upX13 (v : Nat) : up (qX u F G A t) 0 13 v = qX u F G A v := by
  funext r j
  unfold up qX
  by_cases e : r = 0
  · subst e
    by_cases e2 : j = 13
    · subst e2; rfl
    · simp [e2]
  · rw [if_neg e]
    simp [e]
theorem rm_20 (h : RM (T 1) u) (v : Nat) : RM (xput T 1 8 (nI v) 1) (up u 20 0 v) := by
  obtain ⟨m0, m1, m2, m3, m4, m5, m6, m7, m8, m9, n1, n2, n3, n4, n5, n6, n7, n8, n9, nT⟩ := h
  refine ⟨?_, ?_, ?_, ?_, ?_, ?_, ?_, ?_, ?_, ?_, fun k hk => ?_, fun k hk => ?_, fun k hk => ?_, fun k hk => ?_, fun k hk => ?_, fun k hk => ?_, fun k hk => ?_, fun k hk => ?_, fun k hk => ?_, fun a b ha hb => ?_⟩
  all_goals simp (disch := omega) only [xp_s, up_n, up_s, i_T, i_F, m0, m1, m2, m3, m4, m5, m6, m7, m8, m9, n1, n2, n3, n4, n5, n6, n7, n8, n9, nT, if_true, if_false, and_self]
theorem rm_21 (h : RM (T 1) u) (v : Nat) : RM (xput T 1 9 (nI v) 1) (up u 20 1 v) := by
  obtain ⟨m0, m1, m2, m3, m4, m5, m6, m7, m8, m9, n1, n2, n3, n4, n5, n6, n7, n8, n9, nT⟩ := h
  refine ⟨?_, ?_, ?_, ?_, ?_, ?_, ?_, ?_, ?_, ?_, fun k hk => ?_, fun k hk => ?_, fun k hk => ?_, fun k hk => ?_, fun k hk => ?_, fun k hk => ?_, fun k hk => ?_, fun k hk => ?_, fun k hk => ?_, fun a b ha hb => ?_⟩
  all_goals simp (disch := omega) only [xp_s, up_n, up_s, i_T, i_F, m0, m1, m2, m3, m4, m5, m6, m7, m8, m9, n1, n2, n3, n4, n5, n6, n7, n8, n9, nT, if_true, if_false, and_self]
theorem rm_13 (h : RM (T 1) u) (v : Nat) : RM (xput T 1 3 (nI v) 1) (up u 0 13 v) := by
  obtain ⟨m0, m1, m2, m3, m4, m5, m6, m7, m8, m9, n1, n2, n3, n4, n5, n6, n7, n8, n9, nT⟩ := h
  refine ⟨?_, ?_, ?_, ?_, ?_, ?_, ?_, ?_, ?_, ?_, fun k hk => ?_, fun k hk => ?_, fun k hk => ?_, fun k hk => ?_, fun k hk => ?_, fun k hk => ?_, fun k hk => ?_, fun k hk => ?_, fun k hk => ?_, fun a b ha hb => ?_⟩
  all_goals simp (disch := omega) only [xp_s, up_n, up_s, i_T, i_F, m0, m1, m2, m3, m4, m5, m6, m7, m8, m9, n1, n2, n3, n4, n5, n6, n7, n8, n9, nT, if_true, if_false, and_self]
theorem rm_cg (h : RM (T 1) (qX u F G A t)) {G' A' : Nat} (hF : ∀ i, F i = F' i) (hG : G = G') (hA : A = A') : RM (T 1) (qX u F' G' A' t) := by
  have e : F = F' := funext hF
  subst e; subst hG; subst hA
  exact h
theorem rm_X8 (h : RM (T 1) (qX u F G A t)) (hc : c < 8) : T 1 (90 + 4 * c + 2) = nI (F c) := by
  obtain ⟨m0, m1, m2, m3, m4, m5, m6, m7, m8, m9, n1, n2, n3, n4, n5, n6, n7, n8, n9, nT⟩ := h
  exact n8 c hc
theorem rm_X7 (h : RM (T 1) (qX u F G A t)) : T 1 2 = nI (u 0 7) := by
  obtain ⟨m0, m1, m2, m3, m4, m5, m6, m7, m8, m9, n1, n2, n3, n4, n5, n6, n7, n8, n9, nT⟩ := h
  exact m2
theorem rm_XN (h : RM (T 1) (qX u F G A t)) : T 1 3 = nI t := by
  obtain ⟨m0, m1, m2, m3, m4, m5, m6, m7, m8, m9, n1, n2, n3, n4, n5, n6, n7, n8, n9, nT⟩ := h
  exact m3
theorem rm_XG (h : RM (T 1) (qX u F G A t)) : T 1 8 = nI G := by
  obtain ⟨m0, m1, m2, m3, m4, m5, m6, m7, m8, m9, n1, n2, n3, n4, n5, n6, n7, n8, n9, nT⟩ := h
  exact m8
theorem rm_XA (h : RM (T 1) (qX u F G A t)) : T 1 9 = nI A := by
  obtain ⟨m0, m1, m2, m3, m4, m5, m6, m7, m8, m9, n1, n2, n3, n4, n5, n6, n7, n8, n9, nT⟩ := h
  exact m9
theorem km_feeds (h : RM (T 1) (qX u F G A t)) (hc : c < 8) (hF : F c ≤ 99) {x s : Nat} (hx : x ≤ 1000) (hs : s = if F c + x < 99 then F c + x else 99) : ∃ T', f_X9_feeds T (nI c) (nI x) = some T' ∧ RM (T' 1) (qX u (fun i => if i = c then s else F i) (G + (s - F c)) (A + (F c - s)) t) ∧ ∀ i, i ≠ 1 → T' i = T i := by
  have k8 := rm_X8 h hc
  have kG := rm_XG h
  have e1 : (if nI 99 - nI (F c) < nI x then nI 99 - nI (F c) else nI x) = nI (s - F c) := by
    rw [pk_sub hF]
    by_cases q : 99 - F c < x
    · rw [if_pos (nI_lt q (by omega)), hs]; split <;> congr 1 <;> omega
    · rw [if_neg (nI_nlt (by omega) (by omega)), hs]; split <;> congr 1 <;> omega
  have e2 : F c + (s - F c) = s := by rw [hs]; split <;> omega
  have e3 : A = A + (F c - s) := by rw [hs]; split <;> omega
  have h1 := rm_fish h (v := s) hc
  rw [upX8] at h1
  have h2 := rm_20 h1 (G + (s - F c))
  rw [upX20] at h2
  refine ⟨xput (xput T 1 (90 + 4 * c + 2) (nI s)) 1 8 (nI (G + (s - F c))), ?_, rm_cg h2 (fun _ => rfl) rfl e3, fun i hi => by rw [xp_n hi, xp_n hi]⟩
  simp (disch := omega) only [f_X9_feeds, f_X9_to, xl_s, ob_s, xb_s, rd_n, wr_n, m_1, m_1b, nI_add, pk_mul, l_0, l_1, l_2, l_3, l_4, l_5, l_6, l_7, l_8, l_9, l_10, l_11, l_12, l_13, l_14, l_15, l_16, l_17, l_18, l_19, l_20, l_21, l_22, l_23, l_24, l_30, l_31, l_32, l_40, l_41, l_48, l_57, l_59, l_64, l_90, l_97, l_99, l_100, l_119, l_122, l_186, l_200, l_255, l_600, l_999, l_1488, l_1000000, km_of, k8, e1, xp_s, i_F, kG, e2, if_true, if_false, and_self]
theorem km_eats (h : RM (T 1) (qX u F G A t)) (hc : c < 8) (hF : F c ≤ 99) : ∃ T', f_X9_eats T (nI c) = some T' ∧ RM (T' 1) (qX u (fun i => if i = c then F c - 1 else F i) (G + (F c - 1 - F c)) (A + (F c - (F c - 1))) t) ∧ ∀ i, i ≠ 1 → T' i = T i := by
  have k8 := rm_X8 h hc
  have kA := rm_XA h
  by_cases q : F c ≤ 0
  · refine ⟨T, ?_, rm_cg h (fun i => ?_) (by omega) (by omega), fun i hi => rfl⟩
    · simp (disch := omega) only [f_X9_eats, xl_s, ob_s, xb_s, rd_n, wr_n, m_1, m_1b, nI_add, pk_mul, l_0, l_1, l_2, l_3, l_4, l_5, l_6, l_7, l_8, l_9, l_10, l_11, l_12, l_13, l_14, l_15, l_16, l_17, l_18, l_19, l_20, l_21, l_22, l_23, l_24, l_30, l_31, l_32, l_40, l_41, l_48, l_57, l_59, l_64, l_90, l_97, l_99, l_100, l_119, l_122, l_186, l_200, l_255, l_600, l_999, l_1488, l_1000000, km_of, k8, i_leT]
    · by_cases e : i = c
      · rw [if_pos e, e]; omega
      · rw [if_neg e]
  · have h1 := rm_fish h (v := F c - 1) hc
    rw [upX8] at h1
    have h2 := rm_21 h1 (A + 1)
    rw [upX21] at h2
    refine ⟨xput (xput T 1 (90 + 4 * c + 2) (nI (F c - 1))) 1 9 (nI (A + 1)), ?_, rm_cg h2 (fun _ => rfl) (by omega) (by omega), fun i hi => by rw [xp_n hi, xp_n hi]⟩
    simp (disch := omega) only [f_X9_eats, f_X9_to, xl_s, ob_s, xb_s, rd_n, wr_n, m_1, m_1b, nI_add, pk_mul, l_0, l_1, l_2, l_3, l_4, l_5, l_6, l_7, l_8, l_9, l_10, l_11, l_12, l_13, l_14, l_15, l_16, l_17, l_18, l_19, l_20, l_21, l_22, l_23, l_24, l_30, l_31, l_32, l_40, l_41, l_48, l_57, l_59, l_64, l_90, l_97, l_99, l_100, l_119, l_122, l_186, l_200, l_255, l_600, l_999, l_1488, l_1000000, km_of, k8, i_leF, xp_s, i_F, kA, pk_sub, if_true, if_false, and_self]
/-- mid-day: the first j cats have eaten -/
def qP (u : QU) (n j : Nat) : QU := qX u (fun i => if i < j then qsup u i (qF u i n) else qFF u i n) (qG u n + fb_sm (fun c => qsup u c (qF u c n) - qF u c n) j) (qA u n + fb_sm (fun c => qF u c n - qsup u c (qF u c n)) j) (u 0 13 + n + 1)
/-- the first j cats have sung -/
def qQ (u : QU) (n j : Nat) : QU := qX u (fun i => if i < j then qF u i (n + 1) else if i < u 0 7 then qsup u i (qF u i n) else qFF u i n) (qG u n + fb_sm (fun c => qsup u c (qF u c n) - qF u c n) (u 0 7) + fb_sm (fun c => qF u c (n + 1) - qsup u c (qF u c n)) j) (qA u n + fb_sm (fun c => qF u c n - qsup u c (qF u c n)) (u 0 7)) (u 0 13 + n + 1)
theorem qsup_lt (w : WF u) (i n : Nat) : qsup u i (qF u i n) < 1048576 := by
  have h1 := qF_lt w i n
  unfold qsup
  split
  · split <;> omega
  · omega
theorem wf_P (w : WF u) {n : Nat} (hn : u 0 13 + n + 1 ≤ 5000) (j : Nat) : WF (qP u n j) := wf_X w (fun i => by
    have h1 := qFF_b (c := i) w n
    have h2 := qsup_lt w i n
    show (if i < j then _ else _) < _
    split <;> omega) (fun c hc => by
    have h1 := qF_le w hc n
    have h2 := sup_le w (c := c) h1
    have h3 := qFF_lt hc n
    show (if c < j then _ else _) ≤ _
    split <;> omega) hn
theorem wf_Q (w : WF u) {n : Nat} (hn : u 0 13 + n + 1 ≤ 5000) (j : Nat) : WF (qQ u n j) := wf_X w (fun i => by
    have h1 := qFF_b (c := i) w n
    have h3 := qF_lt w i (n + 1)
    have h2 := qsup_lt w i n
    show (if i < j then _ else if i < u 0 7 then _ else _) < _
    split
    · omega
    · split <;> omega) (fun c hc => by
    have h1 := qF_le w hc n
    have h3 := qF_le w hc (n + 1)
    have h2 := sup_le w (c := c) h1
    show (if c < j then _ else if c < u 0 7 then _ else _) ≤ _
    rw [if_pos hc]
    split <;> omega) hn
theorem X_07 : qX u F G A t 0 7 = u 0 7 := Xr 7 (by decide) (by decide) (Or.inr (by decide))
theorem km_day (w : WF u) {n : Nat} (hn : u 0 13 + n + 1 ≤ 5000) {T0 : XS} (x y : Int32) (h : RM (T 1) (qP u n 0)) (hT : ∀ i, i ≠ 1 → T i = T0 i) {K : Int32 → XS → Option (Int32 × XS)} {Q : Option (Int32 × XS) → Prop} (hK : ∀ T', RM (T' 1) (qP u n (u 0 7)) → (∀ i, i ≠ 1 → T' i = T0 i) → Q (K (nI (u 0 7)) T')) : Q (f_X9_passes_L19 K x y FU (nI 0) T) := by
  have h7 : u 0 7 ≤ 8 := by obtain ⟨hB, w0, w3, w7, wN, wk, wg, wc, wd, wo, wv⟩ := w; exact w7
  refine q_lp (fun n2 j T1 => Q (f_X9_passes_L19 K x y n2 (nI j) T1)) (fun j T1 => RM (T1 1) (qP u n j) ∧ ∀ i, i ≠ 1 → T1 i = T0 i) (u 0 7) T (by omega) ⟨h, hT⟩ ?_ ?_
  · intro n2 T1 hI
    have c7 := rm_X7 hI.1
    simp (disch := omega) only [f_X9_passes_L19, xl_s, ob_s, xb_s, rd_n, wr_n, m_1, m_1b, nI_add, pk_mul, l_0, l_1, l_2, l_3, l_4, l_5, l_6, l_7, l_8, l_9, l_10, l_11, l_12, l_13, l_14, l_15, l_16, l_17, l_18, l_19, l_20, l_21, l_22, l_23, l_24, l_30, l_31, l_32, l_40, l_41, l_48, l_57, l_59, l_64, l_90, l_97, l_99, l_100, l_119, l_122, l_186, l_200, l_255, l_600, l_999, l_1488, l_1000000, c7, i_leT]
    exact hK T1 hI.1 hI.2
  · intro n2 j T1 hj hI ih
    obtain ⟨hI1, hI2⟩ := hI
    have hf := qF_le w hj n
    have hs := sup_le w (c := j) hf
    have wP := wf_P w hn j
    have c7 := rm_X7 hI1
    have e1 := km_home hI1 wP (c := j) (by unfold qP; rw [X_07]; exact hj)
    have e1' : qhome (qP u n j) j = qhome u j := X_home j
    rw [e1'] at e1
    have h9 : u 9 j < u 0 0 ∧ u 0 0 ≤ 10 := by obtain ⟨hB, w0, w3, w7, wN, wk, wg, wc, wd, wo, wv⟩ := w; exact ⟨(wc j hj).2.2.2.2.2, w0⟩
    have h1 : u 1 (u 9 j) ≤ 9 := by obtain ⟨hB, w0, w3, w7, wN, wk, wg, wc, wd, wo, wv⟩ := w; exact (wk _ h9.1).1
    have k9 : T1 1 (90 + 4 * j + 3) = nI (u 9 j) := by have h := hI1; obtain ⟨m0, m1, m2, m3, m4, m5, m6, m7, m8, m9, n1, n2, n3, n4, n5, n6, n7, n8, n9, nT⟩ := h; exact n9 j (by omega)
    have k1 : T1 1 (10 + u 9 j) = nI (u 1 (u 9 j)) := by have h := hI1; obtain ⟨m0, m1, m2, m3, m4, m5, m6, m7, m8, m9, n1, n2, n3, n4, n5, n6, n7, n8, n9, nT⟩ := h; exact n1 (u 9 j) (by omega)
    have fin : ∀ T2, RM (T2 1) (qX u (fun i => if i = j then qsup u j (qF u j n) else if i < j then qsup u i (qF u i n) else qFF u i n) (qG u n + fb_sm (fun c => qsup u c (qF u c n) - qF u c n) j + (qsup u j (qF u j n) - (if j < j then qsup u j (qF u j n) else qFF u j n))) (qA u n + fb_sm (fun c => qF u c n - qsup u c (qF u c n)) j + ((if j < j then qsup u j (qF u j n) else qFF u j n) - qsup u j (qF u j n))) (u 0 13 + n + 1)) → (∀ i, i ≠ 1 → T2 i = T1 i) → Q (f_X9_passes_L19 K x y n2 (nI (j + 1)) T2) := by
      intro T2 g1 g2
      refine ih T2 ⟨rm_cg g1 (fun i => ?_) ?_ ?_, fun i hi => by rw [g2 i hi, hI2 i hi]⟩
      · by_cases q : i = j
        · rw [if_pos q, if_pos (by omega), q]
        · rw [if_neg q]
          by_cases q2 : i < j
          · rw [if_pos q2, if_pos (by omega)]
          · rw [if_neg q2, if_neg (by omega)]
      · rw [if_neg (Nat.lt_irrefl j), qFF_lt hj, fb_sm_succ]; omega
      · rw [if_neg (Nat.lt_irrefl j), qFF_lt hj, fb_sm_succ]; omega
    cases e : qhome u j
    · rw [e] at e1
      obtain ⟨T2, g1, g2, g3⟩ := km_eats hI1 (c := j) (by omega) (by rw [if_neg (Nat.lt_irrefl j), qFF_lt hj]; exact hf)
      simp (disch := omega) only [f_X9_passes_L19, xl_s, ob_s, xb_s, rd_n, wr_n, m_1, m_1b, nI_add, pk_mul, l_0, l_1, l_2, l_3, l_4, l_5, l_6, l_7, l_8, l_9, l_10, l_11, l_12, l_13, l_14, l_15, l_16, l_17, l_18, l_19, l_20, l_21, l_22, l_23, l_24, l_30, l_31, l_32, l_40, l_41, l_48, l_57, l_59, l_64, l_90, l_97, l_99, l_100, l_119, l_122, l_186, l_200, l_255, l_600, l_999, l_1488, l_1000000, c7, i_leF, e1, nBf0, if_true, g1]
      have e5 : (if j < j then qsup u j (qF u j n) else qFF u j n) - 1 = qsup u j (qF u j n) := by rw [if_neg (Nat.lt_irrefl j), qFF_lt hj]; unfold qsup; rw [e]; rfl
      rw [e5] at g2
      exact fin T2 g2 g3
    · rw [e] at e1
      obtain ⟨T2, g1, g2, g3⟩ := km_feeds hI1 (c := j) (by omega) (by rw [if_neg (Nat.lt_irrefl j), qFF_lt hj]; exact hf) (x := u 1 (u 9 j) / 3) (s := qsup u j (qF u j n)) (by omega) (by rw [if_neg (Nat.lt_irrefl j), qFF_lt hj]; unfold qsup; rw [e]; rfl)
      simp (disch := omega) only [f_X9_passes_L19, xl_s, ob_s, xb_s, rd_n, wr_n, m_1, m_1b, nI_add, pk_mul, l_0, l_1, l_2, l_3, l_4, l_5, l_6, l_7, l_8, l_9, l_10, l_11, l_12, l_13, l_14, l_15, l_16, l_17, l_18, l_19, l_20, l_21, l_22, l_23, l_24, l_30, l_31, l_32, l_40, l_41, l_48, l_57, l_59, l_64, l_90, l_97, l_99, l_100, l_119, l_122, l_186, l_200, l_255, l_600, l_999, l_1488, l_1000000, c7, i_leF, e1, nBt0, if_false, km_of, k9, k1, pk_div, g1]
      exact fin T2 g2 g3
theorem rm_lv8 {F' : Nat → Nat} (hF : ∀ c, c < 8 → F c = F' c) (h : RM (T 1) (qX u F G A t)) : RM (T 1) (qX u F' G A t) := by
  obtain ⟨m0, m1, m2, m3, m4, m5, m6, m7, m8, m9, n1, n2, n3, n4, n5, n6, n7, n8, n9, nT⟩ := h
  refine ⟨m0, m1, m2, m3, m4, m5, m6, m7, m8, m9, n1, n2, n3, n4, n5, n6, n7, fun c hc => ?_, n9, nT⟩
  rw [n8 c hc, X8, X8, hF c hc]
theorem km_sings (w : WF u) {n : Nat} (hn : u 0 13 + n + 1 ≤ 5000) (hm : (u 0 13 + n + 1) % 8 = 4) (h : RM (T 1) (qQ u n 0)) : ∃ T', f_X9_sings T = some T' ∧ RM (T' 1) (qQ u n (u 0 7)) ∧ ∀ i, i ≠ 1 → T' i = T i := by
  have h7 : u 0 7 ≤ 8 := by obtain ⟨hB, w0, w3, w7, wN, wk, wg, wc, wd, wo, wv⟩ := w; exact w7
  have hg := qgr_lt w (u 0 7)
  have hb := bi_n (qgr u (u 0 7)) (by omega)
  have hq := qc_le (qgr u (u 0 7))
  have e0 := km_greatest h (wf_Q w hn 0)
  have e0' : qgr (qQ u n 0) (qQ u n 0 0 7) = qgr u (u 0 7) := X_gr
  rw [e0'] at e0
  unfold f_X9_sings
  rw [e0, ob_s]
  simp only [l_0]
  refine q_lp (fun n2 j T1 => ∃ T', f_X9_sings_L7 (fun v7 S8 => some S8) (nI (qgr u (u 0 7))) n2 (nI j) T1 = some T' ∧ RM (T' 1) (qQ u n (u 0 7)) ∧ ∀ i, i ≠ 1 → T' i = T i) (fun j T1 => RM (T1 1) (qQ u n j) ∧ ∀ i, i ≠ 1 → T1 i = T i) (u 0 7) T (by omega) ⟨h, fun _ _ => rfl⟩ ?_ ?_
  · intro n2 T1 hI
    have c7 := rm_X7 hI.1
    exact ⟨T1, by simp (disch := omega) only [f_X9_sings_L7, xl_s, ob_s, xb_s, rd_n, wr_n, m_1, m_1b, nI_add, pk_mul, l_0, l_1, l_2, l_3, l_4, l_5, l_6, l_7, l_8, l_9, l_10, l_11, l_12, l_13, l_14, l_15, l_16, l_17, l_18, l_19, l_20, l_21, l_22, l_23, l_24, l_30, l_31, l_32, l_40, l_41, l_48, l_57, l_59, l_64, l_90, l_97, l_99, l_100, l_119, l_122, l_186, l_200, l_255, l_600, l_999, l_1488, l_1000000, c7, i_leT], hI.1, hI.2⟩
  · intro n2 j T1 hj hI ih
    obtain ⟨hI1, hI2⟩ := hI
    have hf := qF_le w hj n
    have hs := sup_le w (c := j) hf
    have c7 := rm_X7 hI1
    have eF : (if j < j then qF u j (n + 1) else if j < u 0 7 then qsup u j (qF u j n) else qFF u j n) = qsup u j (qF u j n) := by rw [if_neg (Nat.lt_irrefl j), if_pos hj]
    cases e : (qgr u (u 0 7)).testBit j
    · have e2 : qF u j (n + 1) = qsup u j (qF u j n) := by
        rw [qF]; unfold qfea; rw [if_neg (fun q => by rw [e] at q; cases q.2)]
      simp (disch := omega) only [f_X9_sings_L7, xl_s, ob_s, xb_s, rd_n, wr_n, m_1, m_1b, nI_add, pk_mul, l_0, l_1, l_2, l_3, l_4, l_5, l_6, l_7, l_8, l_9, l_10, l_11, l_12, l_13, l_14, l_15, l_16, l_17, l_18, l_19, l_20, l_21, l_22, l_23, l_24, l_30, l_31, l_32, l_40, l_41, l_48, l_57, l_59, l_64, l_90, l_97, l_99, l_100, l_119, l_122, l_186, l_200, l_255, l_600, l_999, l_1488, l_1000000, c7, i_leF, bt_n, bt_1, e]
      rw [if_neg (by decide)]
      refine ih T1 ⟨rm_cg hI1 (fun i => ?_) ?_ rfl, hI2⟩
      · by_cases q : i = j
        · rw [q, eF, if_pos (by omega), e2]
        · by_cases q2 : i < j
          · rw [if_pos q2, if_pos (by omega)]
          · rw [if_neg q2, if_neg (show ¬ i < j + 1 by omega)]
      · rw [fb_sm_succ, e2]; omega
    · have e2 : qF u j (n + 1) = if qsup u j (qF u j n) + qc (qgr u (u 0 7)) < 99 then qsup u j (qF u j n) + qc (qgr u (u 0 7)) else 99 := by
        rw [qF]; unfold qfea; rw [if_pos ⟨hm, e⟩]
      obtain ⟨T2, g1, g2, g3⟩ := km_feeds hI1 (c := j) (by omega) (by rw [eF]; exact hs) (x := qc (qgr u (u 0 7))) (s := qF u j (n + 1)) (by omega) (by rw [eF]; exact e2)
      rw [eF] at g2
      have hge : qsup u j (qF u j n) ≤ qF u j (n + 1) := fea_ge hs
      simp (disch := omega) only [f_X9_sings_L7, xl_s, ob_s, xb_s, rd_n, wr_n, m_1, m_1b, nI_add, pk_mul, l_0, l_1, l_2, l_3, l_4, l_5, l_6, l_7, l_8, l_9, l_10, l_11, l_12, l_13, l_14, l_15, l_16, l_17, l_18, l_19, l_20, l_21, l_22, l_23, l_24, l_30, l_31, l_32, l_40, l_41, l_48, l_57, l_59, l_64, l_90, l_97, l_99, l_100, l_119, l_122, l_186, l_200, l_255, l_600, l_999, l_1488, l_1000000, c7, i_leF, bt_n, bt_1, e, hb, g1]
      rw [if_pos trivial]
      refine ih T2 ⟨rm_cg g2 (fun i => ?_) ?_ (by omega), fun i hi => by rw [g3 i hi, hI2 i hi]⟩
      · by_cases q : i = j
        · rw [if_pos q, if_pos (by omega), q]
        · rw [if_neg q]
          by_cases q2 : i < j
          · rw [if_pos q2, if_pos (by omega)]
          · rw [if_neg q2, if_neg (show ¬ i < j + 1 by omega)]
      · rw [fb_sm_succ]; omega
theorem km_passes (h : RM (T 1) u) (w : WF u) {N : Nat} (hN : u 0 13 + N ≤ 5000) (hN2 : N < 100) : ∃ T', f_X9_passes T (nI N) = some (nI (u 0 13 + N), T') ∧ RM (T' 1) (qN u N) ∧ ∀ i, i ≠ 1 → T' i = T i := by
  have h7 : u 0 7 ≤ 8 := by obtain ⟨hB, w0, w3, w7, wN, wk, wg, wc, wd, wo, wv⟩ := w; exact w7
  unfold f_X9_passes
  simp only [l_0]
  refine q_lp (fun n j T1 => ∃ T', f_X9_passes_L2 _ (nI N) n (nI j) T1 = some (nI (u 0 13 + N), T') ∧ RM (T' 1) (qN u N) ∧ ∀ i, i ≠ 1 → T' i = T i) (fun j T1 => RM (T1 1) (qN u j) ∧ ∀ i, i ≠ 1 → T1 i = T i) N T (by omega) ⟨by show RM (T 1) (qN u 0); rw [qN_0]; exact h, fun _ _ => rfl⟩ ?_ ?_
  · intro n T1 hI
    refine ⟨T1, ?_, hI.1, hI.2⟩
    simp (disch := omega) only [f_X9_passes_L2, i_leT, xl_s, ob_s, xb_s, rd_n, wr_n, m_1, m_1b, nI_add, pk_mul, l_0, l_1, l_2, l_3, l_4, l_5, l_6, l_7, l_8, l_9, l_10, l_11, l_12, l_13, l_14, l_15, l_16, l_17, l_18, l_19, l_20, l_21, l_22, l_23, l_24, l_30, l_31, l_32, l_40, l_41, l_48, l_57, l_59, l_64, l_90, l_97, l_99, l_100, l_119, l_122, l_186, l_200, l_255, l_600, l_999, l_1488, l_1000000, rm_XN hI.1]
  · intro n j T1 hj hI ih
    obtain ⟨hI1, hI2⟩ := hI
    have cN := rm_XN hI1
    have h13 := rm_13 hI1 (u 0 13 + j + 1)
    unfold qN at h13
    rw [upX13] at h13
    simp (disch := omega) only [f_X9_passes_L2, i_leF, xl_s, ob_s, xb_s, rd_n, wr_n, m_1, m_1b, nI_add, pk_mul, l_0, l_1, l_2, l_3, l_4, l_5, l_6, l_7, l_8, l_9, l_10, l_11, l_12, l_13, l_14, l_15, l_16, l_17, l_18, l_19, l_20, l_21, l_22, l_23, l_24, l_30, l_31, l_32, l_40, l_41, l_48, l_57, l_59, l_64, l_90, l_97, l_99, l_100, l_119, l_122, l_186, l_200, l_255, l_600, l_999, l_1488, l_1000000, cN]
    refine km_day w (n := j) (by omega) (T0 := T) (nI N) (nI j) (T := xput T1 1 3 (nI (u 0 13 + j + 1))) (rm_cg h13 (fun i => (if_neg (by omega)).symm) rfl rfl) (fun i hi => by rw [xp_n hi]; exact hI2 i hi) (Q := fun o => ∃ T', o = some (nI (u 0 13 + N), T') ∧ RM (T' 1) (qN u N) ∧ ∀ i, i ≠ 1 → T' i = T i) (fun T2 g1 g2 => ?_)
    have d3 := rm_XN g1
    have eG : qG u j + fb_sm (fun c => qsup u c (qF u c j) - qF u c j) (u 0 7) + fb_sm (fun c => qF u c (j + 1) - qsup u c (qF u c j)) (u 0 7) = qG u (j + 1) := by
      rw [qG, fb_sm_add]; omega
    have hQ0 : RM (T2 1) (qQ u j 0) := rm_cg g1 (fun i => by rw [if_neg (show ¬ i < 0 by omega)]) rfl rfl
    simp (disch := omega) only [xl_s, ob_s, xb_s, rd_n, wr_n, m_1, m_1b, nI_add, pk_mul, l_0, l_1, l_2, l_3, l_4, l_5, l_6, l_7, l_8, l_9, l_10, l_11, l_12, l_13, l_14, l_15, l_16, l_17, l_18, l_19, l_20, l_21, l_22, l_23, l_24, l_30, l_31, l_32, l_40, l_41, l_48, l_57, l_59, l_64, l_90, l_97, l_99, l_100, l_119, l_122, l_186, l_200, l_255, l_600, l_999, l_1488, l_1000000, d3, pk_rem, nI_eq]
    by_cases q : (u 0 13 + j + 1) % 8 = 4
    · obtain ⟨T3, f1, f2, f3⟩ := km_sings w (n := j) (by omega) q hQ0
      rw [if_pos q, f1, ob_s]
      refine ih T3 ⟨?_, fun i hi => by rw [f3 i hi, g2 i hi]⟩
      exact rm_cg f2 (fun i => by
        by_cases z : i < u 0 7
        · rw [if_pos z, qFF_lt z]
        · rw [if_neg z, if_neg z]; unfold qFF; rw [if_neg z, if_neg z]) eG rfl
    · rw [if_neg q]
      have e1 : ∀ c, qF u c (j + 1) = qsup u c (qF u c j) := fun c => by
        rw [qF]; unfold qfea; rw [if_neg (fun z => q z.1)]
      refine ih T2 ⟨?_, g2⟩
      exact rm_cg g1 (fun i => by
        by_cases z : i < u 0 7
        · rw [if_pos z, qFF_lt z, e1]
        · rw [if_neg z]; unfold qFF; rw [if_neg z, if_neg z]) (by
        rw [qG, fb_sm_add, show fb_sm (fun c => qF u c (j + 1) - qsup u c (qF u c j)) (u 0 7) = 0 from ?_]
        · rfl
        · have e2 : (fun c => qF u c (j + 1) - qsup u c (qF u c j)) = fun _ => 0 := funext (fun c => by rw [e1]; omega)
          rw [e2, fb_sm_const, Nat.mul_zero]) rfl
theorem wf_N (w : WF u) {N : Nat} (hN : u 0 13 + N ≤ 5000) : WF (qN u N) := wf_X w (fun i => qFF_b w N) (fun c hc => by rw [qFF_lt hc]; exact qF_le w hc N) hN
end
