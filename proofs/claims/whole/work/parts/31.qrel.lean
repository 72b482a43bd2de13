/-! level 2: what a roof is (u: row, place), and how the class's cells and the reference's row hold it -/
abbrev QU : Type := Nat → Nat → Nat
/-- rows: 0 counts (0 chimneys, 3 gutters, 7 cats, 13 night), 1 warmth, 2 owner (0 none, else cat + 1), 3 4 ends, 5 width, 6 girth, 7 strength, 8 fish, 9 seat, 10 truces, 11 kitten (girth or 0, strength), 12 voted and yes, 20 got and eaten -/
def qb (u : QU) (c : Nat) : Nat := if (u 12 0).testBit c then (if (u 12 1).testBit c then 1 else 2) else 0
def RC (S : XS) (u : QU) : Prop :=
  (S 0 0 = nI (u 0 0) ∧ S 0 3 = nI (u 0 3) ∧ S 0 7 = nI (u 0 7) ∧ S 0 13 = nI (u 0 13) ∧ S 0 14 = nI (u 20 0) ∧ S 0 15 = nI (u 20 1)) ∧
  (∀ k, k < u 0 0 → S 1 k = nI (u 1 k)) ∧ (∀ k, k < u 0 0 → S 2 k = oI (u 2 k)) ∧
  (∀ g, g < u 0 3 → S 3 g = nI (u 3 g)) ∧ (∀ g, g < u 0 3 → S 4 g = nI (u 4 g)) ∧ (∀ g, g < u 0 3 → S 5 g = nI (u 5 g)) ∧
  (∀ c, c < u 0 7 → S 6 c = nI (u 6 c)) ∧ (∀ c, c < u 0 7 → S 7 c = nI (u 7 c)) ∧ (∀ c, c < u 0 7 → S 8 c = nI (u 8 c)) ∧ (∀ c, c < u 0 7 → S 9 c = nI (u 9 c)) ∧
  (∀ i, i < 64 → S 10 i = nI (u 10 i)) ∧ S 11 0 = nI (if u 11 0 = 0 then 0 else 1) ∧ (u 11 0 ≠ 0 → S 11 1 = nI (u 11 0) ∧ S 11 2 = nI (u 11 1)) ∧ ∀ c, c < 8 → S 12 c = nI (qb u c)
def RM (W : Nat → Int32) (u : QU) : Prop :=
  W 0 = nI (u 0 0) ∧ W 1 = nI (u 0 3) ∧ W 2 = nI (u 0 7) ∧ W 3 = nI (u 0 13) ∧ W 4 = nI (u 11 0) ∧ W 5 = nI (u 11 1) ∧ W 6 = nI (u 12 0) ∧ W 7 = nI (u 12 1) ∧ W 8 = nI (u 20 0) ∧ W 9 = nI (u 20 1) ∧
  (∀ k, k < 10 → W (10 + k) = nI (u 1 k)) ∧ (∀ k, k < 10 → W (20 + k) = oI (u 2 k)) ∧
  (∀ g, g < 20 → W (30 + 3 * g + 0) = nI (u 3 g)) ∧ (∀ g, g < 20 → W (30 + 3 * g + 1) = nI (u 4 g)) ∧ (∀ g, g < 20 → W (30 + 3 * g + 2) = nI (u 5 g)) ∧
  (∀ c, c < 8 → W (90 + 4 * c + 0) = nI (u 6 c)) ∧ (∀ c, c < 8 → W (90 + 4 * c + 1) = nI (u 7 c)) ∧ (∀ c, c < 8 → W (90 + 4 * c + 2) = nI (u 8 c)) ∧ (∀ c, c < 8 → W (90 + 4 * c + 3) = nI (u 9 c)) ∧
  ∀ a b, a < 8 → b < 8 → W (122 + 8 * a + b) = nI (u 10 (a * 8 + b))
def qown (u : QU) (c : Nat) : Nat := fb_ct (fun k => decide (u 2 k = c + 1)) (u 0 0)
def WF (u : QU) : Prop :=
  (∀ r i, r < 20 → u r i < 1048576) ∧ u 0 0 ≤ 10 ∧ u 0 3 ≤ 20 ∧ u 0 7 ≤ 8 ∧ u 0 13 ≤ 5000 ∧
  (∀ k, k < u 0 0 → u 1 k ≤ 9 ∧ u 2 k ≤ u 0 7) ∧
  (∀ g, g < u 0 3 → u 3 g < u 0 0 ∧ u 4 g < u 0 0 ∧ u 3 g ≠ u 4 g ∧ 1 ≤ u 5 g ∧ u 5 g ≤ 9) ∧
  (∀ c, c < u 0 7 → 1 ≤ u 6 c ∧ u 6 c ≤ 9 ∧ 1 ≤ u 7 c ∧ u 7 c ≤ 9 ∧ u 8 c ≤ 99 ∧ u 9 c < u 0 0) ∧
  (∀ c d, c < u 0 7 → d < u 0 7 → u 9 c = u 9 d → c = d) ∧ (∀ c, c < u 0 7 → qown u c ≤ 4) ∧
  (u 11 0 ≤ 9 ∧ u 11 1 ≤ 9 ∧ (u 11 0 ≠ 0 → 1 ≤ u 11 1) ∧ u 12 0 < 2 ^ u 0 7 ∧ (∀ c, (u 12 1).testBit c = true → (u 12 0).testBit c = true) ∧ (u 11 0 = 0 → u 12 0 = 0))
section
variable {u : QU} {r i r' i' k : Nat}
theorem e_u (hB : ∀ r i, r < 20 → u r i < 1048576) (hr : r < 20) (hk : k < 2 ^ 31) : nI (u r i) = nI k ↔ u r i = k := nI_eq (by have := hB r i hr; omega) hk
theorem le_u (hB : ∀ r i, r < 20 → u r i < 1048576) (hr : r < 20) (hk : k < 2 ^ 31) : nI (u r i) ≤ nI k ↔ u r i ≤ k := nI_leI (by have := hB r i hr; omega) hk
theorem ge_u (hB : ∀ r i, r < 20 → u r i < 1048576) (hr : r < 20) (hk : k < 2 ^ 31) : nI k ≤ nI (u r i) ↔ k ≤ u r i := nI_leI hk (by have := hB r i hr; omega)
theorem lt_u (hB : ∀ r i, r < 20 → u r i < 1048576) (hr : r < 20) (hk : k < 2 ^ 31) : nI (u r i) < nI k ↔ u r i < k := nI_ltI (by have := hB r i hr; omega) hk
theorem gt_u (hB : ∀ r i, r < 20 → u r i < 1048576) (hr : r < 20) (hk : k < 2 ^ 31) : nI k < nI (u r i) ↔ k < u r i := nI_ltI hk (by have := hB r i hr; omega)
theorem eo_u (hB : ∀ r i, r < 20 → u r i < 1048576) (hr : r < 20) (hk : k < 2 ^ 30) : oI (u r i) = nI k ↔ u r i = k + 1 := oI_nI (by have := hB r i hr; omega) hk
theorem oe_u (hB : ∀ r i, r < 20 → u r i < 1048576) (hr : r < 20) (hk : k < 2 ^ 31) : oI (u r i) = oI k ↔ u r i = k := oI_eq (by have := hB r i hr; omega) hk
theorem eq_uu (hB : ∀ r i, r < 20 → u r i < 1048576) (hr : r < 20) (hr' : r' < 20) : nI (u r i) = nI (u r' i') ↔ u r i = u r' i' := nI_eq (by have := hB r i hr; omega) (by have := hB r' i' hr'; omega)
theorem le_uu (hB : ∀ r i, r < 20 → u r i < 1048576) (hr : r < 20) (hr' : r' < 20) : nI (u r i) ≤ nI (u r' i') ↔ u r i ≤ u r' i' := nI_leI (by have := hB r i hr; omega) (by have := hB r' i' hr'; omega)
theorem lt_uu (hB : ∀ r i, r < 20 → u r i < 1048576) (hr : r < 20) (hr' : r' < 20) : nI (u r i) < nI (u r' i') ↔ u r i < u r' i' := nI_ltI (by have := hB r i hr; omega) (by have := hB r' i' hr'; omega)
end
theorem xz_0 : xz (nI 0) = some (nI 0) := by decide
theorem xz_1 : xz (nI 1) = some (nI 1) := by decide
def nB (b : Bool) : Int32 := nI (if b then 1 else 0)
theorem xz_b (b : Bool) : xz (nB b) = some (nB b) := by cases b <;> decide
theorem nB_0 (b : Bool) : nB b = nI 0 ↔ b = false := by cases b <;> decide
theorem nB_1 (b : Bool) : nB b = nI 1 ↔ b = true := by cases b <;> decide
theorem t_1 {α : Type} {i : Decidable (nB true = nI 0)} {x y : α} : @ite _ (nB true = nI 0) i x y = y := if_neg (fun e => Bool.noConfusion ((nB_0 true).mp e))
theorem t_0 {α : Type} {i : Decidable (nB false = nI 0)} {x y : α} : @ite _ (nB false = nI 0) i x y = x := if_pos rfl
theorem n_1 : nI 1 = nB true := rfl
theorem n_0 : nI 0 = nB false := rfl
/-! what there is -/
def qin (x : Int32) (n : Nat) : Bool := decide (¬ x < 0 ∧ x < nI n)
theorem qin_t {x : Int32} {n : Nat} (hn : n < 2 ^ 31) (h : qin x n = true) : ∃ k, k < n ∧ x = nI k := by
  obtain ⟨h1, h2⟩ := of_decide_eq_true h
  obtain ⟨k, hk, rfl⟩ := nI_of h1
  exact ⟨k, (nI_ltI hk hn).mp h2, rfl⟩
theorem qin_i {k n : Nat} (hk : k < n) (hn : n < 2 ^ 31) : qin (nI k) n = true := decide_eq_true ⟨nI_pos (by omega), nI_lt hk hn⟩
theorem lt_m1 {x : Int32} {n : Nat} (hn : n < 2 ^ 31) : nI n - nI 1 < x ↔ nI n ≤ x := by
  rw [Int32.lt_iff_toInt_lt, Int32.le_iff_toInt_le]
  have h1 : (nI n - nI 1).toInt = (n : Int) - 1 := by
    cases n with
    | zero => decide
    | succ n => rw [show nI 1 = 1 from rfl, nI_pred, nI_toInt (by omega)]; omega
  rw [h1, nI_toInt hn]
  omega
theorem c_in {x : Int32} {n : Nat} : (if x < nI 0 then some (nI 0) else (if nI n ≤ x then some (nI 0) else some (nI 1))) = some (nB (qin x n)) := by
  unfold qin
  by_cases h : x < nI 0
  · rw [if_pos h, decide_eq_false (fun q => q.1 h)]; rfl
  · rw [if_neg h]
    by_cases h2 : nI n ≤ x
    · rw [if_pos h2, decide_eq_false (fun q => Int32.not_lt.mpr h2 q.2)]; rfl
    · rw [if_neg h2, decide_eq_true ⟨h, Int32.not_le.mp h2⟩]; rfl
theorem m_in {x : Int32} {n : Nat} (hn : n < 2 ^ 31) : f_X9_in x (nI 0) (nI n - nI 1) = some (nB (qin x n)) := by
  rw [← c_in]
  simp only [f_X9_in, lt_m1 hn, l_0, l_1]
section
variable {S : XS} {u : QU}
theorem kc_hasChimney (h : RC S u) (x : Int32) : f_X6_hasChimney S x = some (nB (qin x (u 0 0))) := by
  obtain ⟨⟨c0, c3, c7, cN, cG, cA⟩, r1, r2, r3, r4, r5, r6, r7, r8, r9, rT, kw, kg, kb⟩ := h
  simp only [f_X6_hasChimney, c0, l_0, l_1, c_in]
theorem kc_hasGutter (h : RC S u) (x : Int32) : f_X6_hasGutter S x = some (nB (qin x (u 0 3))) := by
  obtain ⟨⟨c0, c3, c7, cN, cG, cA⟩, r1, r2, r3, r4, r5, r6, r7, r8, r9, rT, kw, kg, kb⟩ := h
  simp only [f_X6_hasGutter, c3, l_0, l_1, c_in]
theorem kc_hasCat (h : RC S u) (x : Int32) : f_X6_hasCat S x = some (nB (qin x (u 0 7))) := by
  obtain ⟨⟨c0, c3, c7, cN, cG, cA⟩, r1, r2, r3, r4, r5, r6, r7, r8, r9, rT, kw, kg, kb⟩ := h
  simp only [f_X6_hasCat, c7, l_0, l_1, c_in]
end
section
variable {T : XS} {u : QU}
theorem km_isChimney (h : RM (T 1) u) (w : WF u) (x : Int32) : f_X9_isChimney T x = some (nB (qin x (u 0 0))) := by
  obtain ⟨m0, m1, m2, m3, m4, m5, m6, m7, m8, m9, n1, n2, n3, n4, n5, n6, n7, n8, n9, nT⟩ := h
  obtain ⟨hB, w0, w3, w7, wN, wk, wg, wc, wd, wo, wv⟩ := w
  simp (disch := omega) only [f_X9_isChimney, xl_s, ob_s, xb_s, rd_n, wr_n, m_1, m_1b, nI_add, pk_mul, l_0, l_1, l_2, l_3, l_4, l_5, l_6, l_7, l_8, l_9, l_10, l_11, l_12, l_13, l_14, l_15, l_16, l_17, l_18, l_19, l_20, l_21, l_22, l_23, l_24, l_30, l_31, l_32, l_40, l_41, l_48, l_57, l_59, l_64, l_90, l_97, l_99, l_100, l_119, l_122, l_186, l_200, l_255, l_600, l_999, l_1488, l_1000000, m0, m_in, xz_b]
theorem km_isGutter (h : RM (T 1) u) (w : WF u) (x : Int32) : f_X9_isGutter T x = some (nB (qin x (u 0 3))) := by
  obtain ⟨m0, m1, m2, m3, m4, m5, m6, m7, m8, m9, n1, n2, n3, n4, n5, n6, n7, n8, n9, nT⟩ := h
  obtain ⟨hB, w0, w3, w7, wN, wk, wg, wc, wd, wo, wv⟩ := w
  simp (disch := omega) only [f_X9_isGutter, xl_s, ob_s, xb_s, rd_n, wr_n, m_1, m_1b, nI_add, pk_mul, l_0, l_1, l_2, l_3, l_4, l_5, l_6, l_7, l_8, l_9, l_10, l_11, l_12, l_13, l_14, l_15, l_16, l_17, l_18, l_19, l_20, l_21, l_22, l_23, l_24, l_30, l_31, l_32, l_40, l_41, l_48, l_57, l_59, l_64, l_90, l_97, l_99, l_100, l_119, l_122, l_186, l_200, l_255, l_600, l_999, l_1488, l_1000000, m1, m_in, xz_b]
theorem km_isCat (h : RM (T 1) u) (w : WF u) (x : Int32) : f_X9_isCat T x = some (nB (qin x (u 0 7))) := by
  obtain ⟨m0, m1, m2, m3, m4, m5, m6, m7, m8, m9, n1, n2, n3, n4, n5, n6, n7, n8, n9, nT⟩ := h
  obtain ⟨hB, w0, w3, w7, wN, wk, wg, wc, wd, wo, wv⟩ := w
  simp (disch := omega) only [f_X9_isCat, xl_s, ob_s, xb_s, rd_n, wr_n, m_1, m_1b, nI_add, pk_mul, l_0, l_1, l_2, l_3, l_4, l_5, l_6, l_7, l_8, l_9, l_10, l_11, l_12, l_13, l_14, l_15, l_16, l_17, l_18, l_19, l_20, l_21, l_22, l_23, l_24, l_30, l_31, l_32, l_40, l_41, l_48, l_57, l_59, l_64, l_90, l_97, l_99, l_100, l_119, l_122, l_186, l_200, l_255, l_600, l_999, l_1488, l_1000000, m2, m_in, xz_b]
end
/-! who sits where -/
def qsit (u : QU) (k : Nat) : Nat := qf (fun c => decide (u 9 c = k)) (u 0 7)
theorem kc_sitter {S : XS} {u : QU} (h : RC S u) (w : WF u) {k : Nat} (hk : k < 2 ^ 31) : f_X6_sitter S (nI k) = some (oI (qsit u k)) := by
  obtain ⟨⟨c0, c3, c7, cN, cG, cA⟩, r1, r2, r3, r4, r5, r6, r7, r8, r9, rT, kw, kg, kb⟩ := h
  obtain ⟨hB, w0, w3, w7, wN, wk, wg, wc, wd, wo, wv⟩ := w
  unfold f_X6_sitter
  simp only [l_0, l_1, m_1b]
  refine q_lp (fun n j (_ : Unit) => f_X6_sitter_L2 (fun v3 => some (oI 0)) S (nI k) n (nI j) = some (oI (qsit u k))) (fun j _ => ∀ i, i < j → decide (u 9 i = k) = false) (u 0 7) () (by omega) (fun i hi => by omega) ?_ ?_
  · intro n _ hI
    simp (disch := omega) only [f_X6_sitter_L2, c7, i_leT]
    rw [qsit, qf_z hI]
  · intro n j _ hj hI ih
    simp (disch := omega) only [f_X6_sitter_L2, c7, i_leF, rd_n, ob_s, r9, xl_s, l_1, nI_add, e_u hB]
    by_cases e : u 9 j = k
    · rw [if_pos e, qsit, qf_i (decide_eq_true e) hI hj]; rfl
    · rw [if_neg e]
      refine ih () (fun i hi => ?_)
      rcases Nat.lt_or_ge i j with g | g
      · exact hI i g
      · rw [show i = j by omega]; exact decide_eq_false e
theorem km_of {T : XS} {c : Nat} (hc : c < 8) {k : Nat} (hk : k < 4) : f_X9_of T (nI c) (nI k) = some (T 1 (90 + 4 * c + k)) := by
  simp (disch := omega) only [f_X9_of, xl_s, ob_s, xb_s, rd_n, wr_n, m_1, m_1b, nI_add, pk_mul, l_0, l_1, l_2, l_3, l_4, l_5, l_6, l_7, l_8, l_9, l_10, l_11, l_12, l_13, l_14, l_15, l_16, l_17, l_18, l_19, l_20, l_21, l_22, l_23, l_24, l_30, l_31, l_32, l_40, l_41, l_48, l_57, l_59, l_64, l_90, l_97, l_99, l_100, l_119, l_122, l_186, l_200, l_255, l_600, l_999, l_1488, l_1000000]
theorem km_sitter {T : XS} {u : QU} (h : RM (T 1) u) (w : WF u) {k : Nat} (hk : k < 2 ^ 31) : f_X9_sitter T (nI k) = some (oI (qsit u k)) := by
  obtain ⟨m0, m1, m2, m3, m4, m5, m6, m7, m8, m9, n1, n2, n3, n4, n5, n6, n7, n8, n9, nT⟩ := h
  obtain ⟨hB, w0, w3, w7, wN, wk, wg, wc, wd, wo, wv⟩ := w
  unfold f_X9_sitter
  simp only [l_0, l_1, m_1b]
  refine q_lp (fun n j (_ : Unit) => f_X9_sitter_L2 (fun v3 => some (oI 0)) T (nI k) n (nI j) = some (oI (qsit u k))) (fun j _ => ∀ i, i < j → decide (u 9 i = k) = false) (u 0 7) () (by omega) (fun i hi => by omega) ?_ ?_
  · intro n _ hI
    simp (disch := omega) only [f_X9_sitter_L2, xl_s, ob_s, xb_s, rd_n, wr_n, m_1, m_1b, nI_add, pk_mul, l_0, l_1, l_2, l_3, l_4, l_5, l_6, l_7, l_8, l_9, l_10, l_11, l_12, l_13, l_14, l_15, l_16, l_17, l_18, l_19, l_20, l_21, l_22, l_23, l_24, l_30, l_31, l_32, l_40, l_41, l_48, l_57, l_59, l_64, l_90, l_97, l_99, l_100, l_119, l_122, l_186, l_200, l_255, l_600, l_999, l_1488, l_1000000, m2, i_leT]
    rw [qsit, qf_z hI]
  · intro n j _ hj hI ih
    simp (disch := omega) only [f_X9_sitter_L2, xl_s, ob_s, xb_s, rd_n, wr_n, m_1, m_1b, nI_add, pk_mul, l_0, l_1, l_2, l_3, l_4, l_5, l_6, l_7, l_8, l_9, l_10, l_11, l_12, l_13, l_14, l_15, l_16, l_17, l_18, l_19, l_20, l_21, l_22, l_23, l_24, l_30, l_31, l_32, l_40, l_41, l_48, l_57, l_59, l_64, l_90, l_97, l_99, l_100, l_119, l_122, l_186, l_200, l_255, l_600, l_999, l_1488, l_1000000, m2, i_leF, km_of, n9, e_u hB]
    by_cases e : u 9 j = k
    · rw [if_pos e, qsit, qf_i (decide_eq_true e) hI hj]; rfl
    · rw [if_neg e]
      refine ih () (fun i hi => ?_)
      rcases Nat.lt_or_ge i j with g | g
      · exact hI i g
      · rw [show i = j by omega]; exact decide_eq_false e
theorem qsit_le {u : QU} (w : WF u) (k : Nat) : qsit u k ≤ 8 := by
  obtain ⟨hB, w0, w3, w7, wN, wk, wg, wc, wd, wo, wv⟩ := w
  exact Nat.le_trans qf_le w7
theorem qsit_cat {u : QU} (w : WF u) {c : Nat} (hc : c < u 0 7) : qsit u (u 9 c) = c + 1 := by
  obtain ⟨hB, w0, w3, w7, wN, wk, wg, wc, wd, wo, wv⟩ := w
  refine qf_i (decide_eq_true rfl) (fun k hk => decide_eq_false (fun e => ?_)) hc
  have := wd k c (by omega) hc e
  omega
theorem qsit_0 {u : QU} {k : Nat} (h : qsit u k = 0) {c : Nat} (hc : c < u 0 7) : u 9 c ≠ k := of_decide_eq_false (qf_0 h c hc)
theorem qsit_s {u : QU} {k c : Nat} (h : qsit u k = c + 1) : c < u 0 7 ∧ u 9 c = k := ⟨(qf_s h).1, of_decide_eq_true (qf_s h).2.1⟩
