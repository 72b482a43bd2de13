/-! level 2: the words of a script, on both sides -/
theorem cr_n {w : List Int32} {i : Nat} (h : i < w.length) (h2 : w.length < 2 ^ 31) : xcr w (nI i) = some (xch w (nI i)) := by
  unfold xcr
  have e0 : ¬ nI i < 0 := fun q => by
    have := Int32.lt_iff_toInt_lt.mp q
    rw [nI_toInt (by omega), show (0 : Int32).toInt = 0 from by decide] at this
    omega
  have e1 : (nI i).toNatClampNeg = i := nI_clamp (by omega)
  rw [if_neg (fun q => q.elim e0 (fun z => by omega))]
theorem by_neg : ∀ b, b < 128 → (nI (b + 128)).toInt8.toInt32 < 0 := by decide +kernel
def asc (w : List Int32) : Bool := decide (w.length < 600) && (List.range w.length).all (fun i => decide (¬ xch w (nI i) < 0) && decide (xch w (nI i) < 128))
theorem asc_i {w : List Int32} (h : asc w = true) {i : Nat} (hi : i < w.length) : ∃ c, c < 128 ∧ xch w (nI i) = nI c := by
  unfold asc at h
  rw [Bool.and_eq_true] at h
  have h1 := List.all_eq_true.mp h.2 i (List.mem_range.mpr hi)
  rw [Bool.and_eq_true] at h1
  obtain ⟨c, hc, e⟩ := nI_of (of_decide_eq_true h1.1)
  have h2 := of_decide_eq_true h1.2
  rw [e] at h2
  exact ⟨c, (nI_ltI hc (by decide)).mp h2, e⟩
theorem by_eq {b c : Nat} (hb : b < 256) (hc : c < 128) : (nI b).toInt8.toInt32 = nI c ↔ nI b = nI c := by
  by_cases q : b < 128
  · rw [by_n b q]
  · have h1 := by_neg (b - 128) (by omega)
    rw [show b - 128 + 128 = b by omega] at h1
    constructor
    · intro h
      rw [h] at h1
      have := Int32.lt_iff_toInt_lt.mp h1
      rw [nI_toInt (by omega), show (0 : Int32).toInt = 0 from by decide] at this
      omega
    · intro h
      have := (nI_eq (by omega) (by omega)).mp h
      omega
def allm (M : Nat → Bool) : Nat → Nat → Bool
  | 0, _ => true
  | d + 1, i => M i && allm M d (i + 1)
def wm (tx : Nat → Nat) (s : Nat) (w : List Int32) (i : Nat) : Bool := decide (nI (tx (s + i)) = xch w (nI i))
def wq (tx : Nat → Nat) (k s e : Nat) (w : List Int32) : Bool := decide (k = 1) && (decide (w.length = e - s) && allm (wm tx s w) w.length 0)
section
variable {tx : Nat → Nat} {L s e k : Nat} {R T : XS} {w : List Int32}
theorem kc_L28 (h6 : L ≤ 600) (hB : ∀ i, tx i < 256) (hx : TC tx L R) (ha : asc w = true) (h4 : R 0 4 = nI s) (hl : s + w.length ≤ L) : ∀ d n i, i + d = w.length → d < n → f_X4_isWord_L28 w (fun v4 => some 1) R n (nI i) = some (nB (allm (wm tx s w) d i)) := by
  have hw : w.length < 600 := by
    unfold asc at ha
    rw [Bool.and_eq_true] at ha
    exact of_decide_eq_true ha.1
  have hcast : Int32.ofNat w.length = nI w.length := rfl
  intro d
  induction d with
  | zero =>
    intro n i hi hn
    obtain ⟨n, rfl⟩ : ∃ k, n = k + 1 := ⟨n - 1, by omega⟩
    rw [f_X4_isWord_L28, hcast]
    simp (disch := omega) only [i_leT, allm]
    rfl
  | succ d ih =>
    intro n i hi hn
    obtain ⟨n, rfl⟩ : ∃ k, n = k + 1 := ⟨n - 1, by omega⟩
    have e1 : R 1 (s + i) = (nI (tx (s + i))).toInt8.toInt32 := hx _ (by omega)
    obtain ⟨c, c1, c2⟩ := asc_i ha (i := i) (by omega)
    have ih' := ih n (i + 1) (by omega) (by omega)
    have e3 := by_eq (hB (s + i)) c1
    rw [f_X4_isWord_L28, hcast]
    simp (disch := omega) only [xl_s, ob_s, xb_s, rd_n, wr_n, m_1, m_1b, nI_add, pk_mul, l_0, l_1, l_2, l_3, l_4, l_5, l_6, l_7, l_8, l_9, l_10, l_11, l_12, l_13, l_14, l_15, l_16, l_17, l_18, l_19, l_20, l_21, l_22, l_23, l_24, l_30, l_31, l_32, l_40, l_41, l_48, l_57, l_59, l_64, l_90, l_97, l_99, l_100, l_119, l_122, l_186, l_200, l_255, l_600, l_999, l_1488, l_1000000, i_leF, h4, e1, cr_n, allm]
    by_cases q : nI (tx (s + i)) = nI c
    · have hm : wm tx s w i = true := decide_eq_true (by rw [c2]; exact q)
      rw [c2, if_pos (e3.mpr q), hm, Bool.true_and]
      exact ih'
    · have hm : wm tx s w i = false := decide_eq_false (by rw [c2]; exact q)
      rw [c2, if_neg (fun z => q (e3.mp z)), hm, Bool.false_and]
      rfl
theorem km_L28 (h6 : L ≤ 600) (hx : TM tx L T) (ha : asc w = true) (h4 : T 0 18 = nI s) (hl : s + w.length ≤ L) : ∀ d n i, i + d = w.length → d < n → f_X9_says_L28 w (fun v4 => some 1) T n (nI i) = some (nB (allm (wm tx s w) d i)) := by
  have hw : w.length < 600 := by
    unfold asc at ha
    rw [Bool.and_eq_true] at ha
    exact of_decide_eq_true ha.1
  have hcast : Int32.ofNat w.length = nI w.length := rfl
  intro d
  induction d with
  | zero =>
    intro n i hi hn
    obtain ⟨n, rfl⟩ : ∃ k, n = k + 1 := ⟨n - 1, by omega⟩
    rw [f_X9_says_L28, hcast]
    simp (disch := omega) only [i_leT, allm]
    rfl
  | succ d ih =>
    intro n i hi hn
    obtain ⟨n, rfl⟩ : ∃ k, n = k + 1 := ⟨n - 1, by omega⟩
    have e1 : T 7 (s + i) = nI (tx (s + i)) := hx _ (by omega)
    have ih' := ih n (i + 1) (by omega) (by omega)
    rw [f_X9_says_L28, hcast]
    simp (disch := omega) only [xl_s, ob_s, xb_s, rd_n, wr_n, m_1, m_1b, nI_add, pk_mul, l_0, l_1, l_2, l_3, l_4, l_5, l_6, l_7, l_8, l_9, l_10, l_11, l_12, l_13, l_14, l_15, l_16, l_17, l_18, l_19, l_20, l_21, l_22, l_23, l_24, l_30, l_31, l_32, l_40, l_41, l_48, l_57, l_59, l_64, l_90, l_97, l_99, l_100, l_119, l_122, l_186, l_200, l_255, l_600, l_999, l_1488, l_1000000, i_leF, h4, e1, cr_n, allm]
    by_cases q : nI (tx (s + i)) = xch w (nI i)
    · have hm : wm tx s w i = true := decide_eq_true q
      rw [if_pos q, hm, Bool.true_and]
      exact ih'
    · have hm : wm tx s w i = false := decide_eq_false q
      rw [if_neg q, hm, Bool.false_and]
      rfl
theorem kc_isWord (h6 : L ≤ 600) (hB : ∀ i, tx i < 256) (hx : TC tx L R) (ha : asc w = true) (h2 : R 0 2 = nI e) (h3 : R 0 3 = nI k) (h4 : R 0 4 = nI s) (hk : k ≤ 6) (hse : s ≤ e) (he : e ≤ L) : f_X4_isWord R w = some (nB (wq tx k s e w)) := by
  have hw : w.length < 600 := by
    unfold asc at ha
    rw [Bool.and_eq_true] at ha
    exact of_decide_eq_true ha.1
  have hcast : Int32.ofNat w.length = nI w.length := rfl
  have sub : nI e - nI s = nI (e - s) := pk_sub (by omega)
  unfold wq
  rw [f_X4_isWord, hcast, h2, h3, h4, sub]
  by_cases q : k = 1
  · by_cases q2 : w.length = e - s
    · have := kc_L28 h6 hB hx ha h4 (by omega) w.length FU 0 (by omega) (L_lt (by omega))
      rw [q, if_pos (by rfl), if_pos (by rw [q2]), decide_eq_true (rfl : (1 : Nat) = 1), decide_eq_true q2, Bool.true_and, Bool.true_and]
      exact this
    · rw [q, if_pos (by rfl), if_neg (fun z => q2 ((nI_eq (by omega) (by omega)).mp z)), decide_eq_false q2, Bool.false_and, Bool.and_false]
      rfl
  · rw [if_neg (show ¬ nI k = (1 : Int32) from fun z => q ((nI_eq (a := k) (b := 1) (by omega) (by omega)).mp z)), decide_eq_false q, Bool.false_and]
    rfl
theorem km_says (h6 : L ≤ 600) (hx : TM tx L T) (ha : asc w = true) (h2 : T 0 19 = nI e) (h3 : T 0 17 = nI (rk k)) (h4 : T 0 18 = nI s) (hk : k ≤ 6) (hse : s ≤ e) (he : e ≤ L) : f_X9_says T w = some (nB (wq tx k s e w)) := by
  have hw : w.length < 600 := by
    unfold asc at ha
    rw [Bool.and_eq_true] at ha
    exact of_decide_eq_true ha.1
  have hcast : Int32.ofNat w.length = nI w.length := rfl
  have sub : nI e - nI s = nI (e - s) := pk_sub (by omega)
  have hr := rk_le hk
  unfold wq
  rw [f_X9_says, hcast, h2, h3, h4, sub]
  by_cases q : k = 1
  · by_cases q2 : w.length = e - s
    · have := km_L28 h6 hx ha h4 (by omega) w.length FU 0 (by omega) (L_lt (by omega))
      rw [q, if_pos (by rfl), if_pos (by rw [q2]), decide_eq_true (rfl : (1 : Nat) = 1), decide_eq_true q2, Bool.true_and, Bool.true_and]
      exact this
    · rw [q, if_pos (by rfl), if_neg (fun z => q2 ((nI_eq (by omega) (by omega)).mp z).symm), decide_eq_false q2, Bool.false_and, Bool.and_false]
      rfl
  · have : rk k ≠ 2 := fun z => q ((rk_inj (a := k) (b := 1) hk (by decide)).mp z)
    rw [if_neg (show ¬ nI (rk k) = (2 : Int32) from fun z => this ((nI_eq (a := rk k) (b := 2) (by omega) (by omega)).mp z)), decide_eq_false q, Bool.false_and]
    rfl
theorem asc_w : ∀ i, i < 13 → asc (xWord.getD i []) = true := by decide +kernel
theorem asc_0 : asc lb0 = true := by decide +kernel
/-- which command a token names: its number from 1, 0 for none -/
def qcm (tx : Nat → Nat) (k s e : Nat) : Nat := qf (fun i => wq tx k s e (xWord.getD i [])) 13
def qco (n : Nat) : Option Nat := if n = 0 then none else some (n - 1)
theorem kc_here {S : XS} (h6 : L ≤ 600) (hB : ∀ i, tx i < 256) (hx : TC tx L (xs 1 S)) (h2 : S 1 2 = nI e) (h3 : S 1 3 = nI k) (h4 : S 1 4 = nI s) (hk : k ≤ 6) (hse : s ≤ e) (he : e ≤ L) : f_X7_commandHere S = some (qco (qcm tx k s e), S) := by
  unfold f_X7_commandHere
  simp only [l_0]
  refine q_lp (fun n j (_ : Unit) => f_X7_commandHere_L2 (fun v5 => some (none, S)) S n (nI j) = some (qco (qcm tx k s e), S)) (fun j _ => ∀ i, i < j → wq tx k s e (xWord.getD i []) = false) 13 () (by decide) (fun i hi => by omega) ?_ ?_
  · intro n _ hI
    have e0 : qcm tx k s e = 0 := qf_z hI
    simp (disch := omega) only [f_X7_commandHere_L2, xl_s, ob_s, xb_s, rd_n, wr_n, m_1, m_1b, nI_add, pk_mul, l_0, l_1, l_2, l_3, l_4, l_5, l_6, l_7, l_8, l_9, l_10, l_11, l_12, l_13, l_14, l_15, l_16, l_17, l_18, l_19, l_20, l_21, l_22, l_23, l_24, l_30, l_31, l_32, l_40, l_41, l_48, l_57, l_59, l_64, l_90, l_97, l_99, l_100, l_119, l_122, l_186, l_200, l_255, l_600, l_999, l_1488, l_1000000, i_leT, e0]
    rfl
  · intro n j _ hj hI ih
    have hw := kc_isWord (R := xs 1 S) h6 hB hx (asc_w j hj) h2 h3 h4 hk hse he
    cases q : wq tx k s e (xWord.getD j [])
    · rw [q] at hw
      simp (disch := omega) only [f_X7_commandHere_L2, xl_s, ob_s, xb_s, rd_n, wr_n, m_1, m_1b, nI_add, pk_mul, l_0, l_1, l_2, l_3, l_4, l_5, l_6, l_7, l_8, l_9, l_10, l_11, l_12, l_13, l_14, l_15, l_16, l_17, l_18, l_19, l_20, l_21, l_22, l_23, l_24, l_30, l_31, l_32, l_40, l_41, l_48, l_57, l_59, l_64, l_90, l_97, l_99, l_100, l_119, l_122, l_186, l_200, l_255, l_600, l_999, l_1488, l_1000000, i_leF, hw, nBf0, if_true]
      refine ih () (fun i hi => ?_)
      by_cases e1 : i = j
      · rw [e1]; exact q
      · exact hI i (by omega)
    · rw [q] at hw
      have e0 : qcm tx k s e = j + 1 := qf_i q hI hj
      simp (disch := omega) only [f_X7_commandHere_L2, xl_s, ob_s, xb_s, rd_n, wr_n, m_1, m_1b, nI_add, pk_mul, l_0, l_1, l_2, l_3, l_4, l_5, l_6, l_7, l_8, l_9, l_10, l_11, l_12, l_13, l_14, l_15, l_16, l_17, l_18, l_19, l_20, l_21, l_22, l_23, l_24, l_30, l_31, l_32, l_40, l_41, l_48, l_57, l_59, l_64, l_90, l_97, l_99, l_100, l_119, l_122, l_186, l_200, l_255, l_600, l_999, l_1488, l_1000000, i_leF, hw, nBt0, if_false, e0]
      rfl
theorem km_word (h6 : L ≤ 600) (hx : TM tx L T) (h2 : T 0 19 = nI e) (h3 : T 0 17 = nI (rk k)) (h4 : T 0 18 = nI s) (hk : k ≤ 6) (hse : s ≤ e) (he : e ≤ L) : f_X9_wordAhead T = some (oI (qcm tx k s e)) := by
  have hs : ∀ i, i < 13 → f_X9_says T (xWord.getD i []) = some (nB (wq tx k s e (xWord.getD i []))) := fun i hi => km_says h6 hx (asc_w i hi) h2 h3 h4 hk hse he
  have s0 := hs 0 (by decide)
  have s1 := hs 1 (by decide)
  have s2 := hs 2 (by decide)
  have s3 := hs 3 (by decide)
  have s4 := hs 4 (by decide)
  have s5 := hs 5 (by decide)
  have s6 := hs 6 (by decide)
  have s7 := hs 7 (by decide)
  have s8 := hs 8 (by decide)
  have s9 := hs 9 (by decide)
  have s10 := hs 10 (by decide)
  have s11 := hs 11 (by decide)
  have s12 := hs 12 (by decide)
  change f_X9_says T lb12 = _ at s0
  change f_X9_says T lb13 = _ at s1
  change f_X9_says T lb14 = _ at s2
  change f_X9_says T lb15 = _ at s3
  change f_X9_says T lb16 = _ at s4
  change f_X9_says T lb17 = _ at s5
  change f_X9_says T lb18 = _ at s6
  change f_X9_says T lb19 = _ at s7
  change f_X9_says T lb20 = _ at s8
  change f_X9_says T lb21 = _ at s9
  change f_X9_says T lb22 = _ at s10
  change f_X9_says T lb23 = _ at s11
  change f_X9_says T lb24 = _ at s12
  have fst : ∀ j, j < 13 → wq tx k s e (xWord.getD j []) = true → (∀ i, i < j → wq tx k s e (xWord.getD i []) = false) → oI (qcm tx k s e) = nI j := fun j hj h1 h0 => by
    have e0 : qcm tx k s e = j + 1 := qf_i h1 h0 hj
    rw [e0]; rfl
  cases q0 : wq tx k s e (xWord.getD 0 [])
  rotate_left 1
  · rw [fst 0 (by decide) q0 (fun i hi => by
      omega)]
    simp only [f_X9_wordAhead, f_X9_laterWord, xl_s, ob_s, xb_s, rd_n, wr_n, m_1, m_1b, nI_add, pk_mul, l_0, l_1, l_2, l_3, l_4, l_5, l_6, l_7, l_8, l_9, l_10, l_11, l_12, l_13, l_14, l_15, l_16, l_17, l_18, l_19, l_20, l_21, l_22, l_23, l_24, l_30, l_31, l_32, l_40, l_41, l_48, l_57, l_59, l_64, l_90, l_97, l_99, l_100, l_119, l_122, l_186, l_200, l_255, l_600, l_999, l_1488, l_1000000, s0, q0, nBt0, nBf0, if_true, if_false]
  cases q1 : wq tx k s e (xWord.getD 1 [])
  rotate_left 1
  · rw [fst 1 (by decide) q1 (fun i hi => by
      have hi2 : i = 0 := by omega
      rw [hi2]; exact q0)]
    simp only [f_X9_wordAhead, f_X9_laterWord, xl_s, ob_s, xb_s, rd_n, wr_n, m_1, m_1b, nI_add, pk_mul, l_0, l_1, l_2, l_3, l_4, l_5, l_6, l_7, l_8, l_9, l_10, l_11, l_12, l_13, l_14, l_15, l_16, l_17, l_18, l_19, l_20, l_21, l_22, l_23, l_24, l_30, l_31, l_32, l_40, l_41, l_48, l_57, l_59, l_64, l_90, l_97, l_99, l_100, l_119, l_122, l_186, l_200, l_255, l_600, l_999, l_1488, l_1000000, s0, s1, q0, q1, nBt0, nBf0, if_true, if_false]
  cases q2 : wq tx k s e (xWord.getD 2 [])
  rotate_left 1
  · rw [fst 2 (by decide) q2 (fun i hi => by
      have hi2 : i = 0 ∨ i = 1 := by omega
      rcases hi2 with rfl | rfl
      · exact q0
      · exact q1)]
    simp only [f_X9_wordAhead, f_X9_laterWord, xl_s, ob_s, xb_s, rd_n, wr_n, m_1, m_1b, nI_add, pk_mul, l_0, l_1, l_2, l_3, l_4, l_5, l_6, l_7, l_8, l_9, l_10, l_11, l_12, l_13, l_14, l_15, l_16, l_17, l_18, l_19, l_20, l_21, l_22, l_23, l_24, l_30, l_31, l_32, l_40, l_41, l_48, l_57, l_59, l_64, l_90, l_97, l_99, l_100, l_119, l_122, l_186, l_200, l_255, l_600, l_999, l_1488, l_1000000, s0, s1, s2, q0, q1, q2, nBt0, nBf0, if_true, if_false]
  cases q3 : wq tx k s e (xWord.getD 3 [])
  rotate_left 1
  · rw [fst 3 (by decide) q3 (fun i hi => by
      have hi2 : i = 0 ∨ i = 1 ∨ i = 2 := by omega
      rcases hi2 with rfl | rfl | rfl
      · exact q0
      · exact q1
      · exact q2)]
    simp only [f_X9_wordAhead, f_X9_laterWord, xl_s, ob_s, xb_s, rd_n, wr_n, m_1, m_1b, nI_add, pk_mul, l_0, l_1, l_2, l_3, l_4, l_5, l_6, l_7, l_8, l_9, l_10, l_11, l_12, l_13, l_14, l_15, l_16, l_17, l_18, l_19, l_20, l_21, l_22, l_23, l_24, l_30, l_31, l_32, l_40, l_41, l_48, l_57, l_59, l_64, l_90, l_97, l_99, l_100, l_119, l_122, l_186, l_200, l_255, l_600, l_999, l_1488, l_1000000, s0, s1, s2, s3, q0, q1, q2, q3, nBt0, nBf0, if_true, if_false]
  cases q4 : wq tx k s e (xWord.getD 4 [])
  rotate_left 1
  · rw [fst 4 (by decide) q4 (fun i hi => by
      have hi2 : i = 0 ∨ i = 1 ∨ i = 2 ∨ i = 3 := by omega
      rcases hi2 with rfl | rfl | rfl | rfl
      · exact q0
      · exact q1
      · exact q2
      · exact q3)]
    simp only [f_X9_wordAhead, f_X9_laterWord, xl_s, ob_s, xb_s, rd_n, wr_n, m_1, m_1b, nI_add, pk_mul, l_0, l_1, l_2, l_3, l_4, l_5, l_6, l_7, l_8, l_9, l_10, l_11, l_12, l_13, l_14, l_15, l_16, l_17, l_18, l_19, l_20, l_21, l_22, l_23, l_24, l_30, l_31, l_32, l_40, l_41, l_48, l_57, l_59, l_64, l_90, l_97, l_99, l_100, l_119, l_122, l_186, l_200, l_255, l_600, l_999, l_1488, l_1000000, s0, s1, s2, s3, s4, q0, q1, q2, q3, q4, nBt0, nBf0, if_true, if_false]
  cases q5 : wq tx k s e (xWord.getD 5 [])
  rotate_left 1
  · rw [fst 5 (by decide) q5 (fun i hi => by
      have hi2 : i = 0 ∨ i = 1 ∨ i = 2 ∨ i = 3 ∨ i = 4 := by omega
      rcases hi2 with rfl | rfl | rfl | rfl | rfl
      · exact q0
      · exact q1
      · exact q2
      · exact q3
      · exact q4)]
    simp only [f_X9_wordAhead, f_X9_laterWord, xl_s, ob_s, xb_s, rd_n, wr_n, m_1, m_1b, nI_add, pk_mul, l_0, l_1, l_2, l_3, l_4, l_5, l_6, l_7, l_8, l_9, l_10, l_11, l_12, l_13, l_14, l_15, l_16, l_17, l_18, l_19, l_20, l_21, l_22, l_23, l_24, l_30, l_31, l_32, l_40, l_41, l_48, l_57, l_59, l_64, l_90, l_97, l_99, l_100, l_119, l_122, l_186, l_200, l_255, l_600, l_999, l_1488, l_1000000, s0, s1, s2, s3, s4, s5, q0, q1, q2, q3, q4, q5, nBt0, nBf0, if_true, if_false]
  cases q6 : wq tx k s e (xWord.getD 6 [])
  rotate_left 1
  · rw [fst 6 (by decide) q6 (fun i hi => by
      have hi2 : i = 0 ∨ i = 1 ∨ i = 2 ∨ i = 3 ∨ i = 4 ∨ i = 5 := by omega
      rcases hi2 with rfl | rfl | rfl | rfl | rfl | rfl
      · exact q0
      · exact q1
      · exact q2
      · exact q3
      · exact q4
      · exact q5)]
    simp only [f_X9_wordAhead, f_X9_laterWord, xl_s, ob_s, xb_s, rd_n, wr_n, m_1, m_1b, nI_add, pk_mul, l_0, l_1, l_2, l_3, l_4, l_5, l_6, l_7, l_8, l_9, l_10, l_11, l_12, l_13, l_14, l_15, l_16, l_17, l_18, l_19, l_20, l_21, l_22, l_23, l_24, l_30, l_31, l_32, l_40, l_41, l_48, l_57, l_59, l_64, l_90, l_97, l_99, l_100, l_119, l_122, l_186, l_200, l_255, l_600, l_999, l_1488, l_1000000, s0, s1, s2, s3, s4, s5, s6, q0, q1, q2, q3, q4, q5, q6, nBt0, nBf0, if_true, if_false]
  cases q7 : wq tx k s e (xWord.getD 7 [])
  rotate_left 1
  · rw [fst 7 (by decide) q7 (fun i hi => by
      have hi2 : i = 0 ∨ i = 1 ∨ i = 2 ∨ i = 3 ∨ i = 4 ∨ i = 5 ∨ i = 6 := by omega
      rcases hi2 with rfl | rfl | rfl | rfl | rfl | rfl | rfl
      · exact q0
      · exact q1
      · exact q2
      · exact q3
      · exact q4
      · exact q5
      · exact q6)]
    simp only [f_X9_wordAhead, f_X9_laterWord, xl_s, ob_s, xb_s, rd_n, wr_n, m_1, m_1b, nI_add, pk_mul, l_0, l_1, l_2, l_3, l_4, l_5, l_6, l_7, l_8, l_9, l_10, l_11, l_12, l_13, l_14, l_15, l_16, l_17, l_18, l_19, l_20, l_21, l_22, l_23, l_24, l_30, l_31, l_32, l_40, l_41, l_48, l_57, l_59, l_64, l_90, l_97, l_99, l_100, l_119, l_122, l_186, l_200, l_255, l_600, l_999, l_1488, l_1000000, s0, s1, s2, s3, s4, s5, s6, s7, q0, q1, q2, q3, q4, q5, q6, q7, nBt0, nBf0, if_true, if_false]
  cases q8 : wq tx k s e (xWord.getD 8 [])
  rotate_left 1
  · rw [fst 8 (by decide) q8 (fun i hi => by
      have hi2 : i = 0 ∨ i = 1 ∨ i = 2 ∨ i = 3 ∨ i = 4 ∨ i = 5 ∨ i = 6 ∨ i = 7 := by omega
      rcases hi2 with rfl | rfl | rfl | rfl | rfl | rfl | rfl | rfl
      · exact q0
      · exact q1
      · exact q2
      · exact q3
      · exact q4
      · exact q5
      · exact q6
      · exact q7)]
    simp only [f_X9_wordAhead, f_X9_laterWord, xl_s, ob_s, xb_s, rd_n, wr_n, m_1, m_1b, nI_add, pk_mul, l_0, l_1, l_2, l_3, l_4, l_5, l_6, l_7, l_8, l_9, l_10, l_11, l_12, l_13, l_14, l_15, l_16, l_17, l_18, l_19, l_20, l_21, l_22, l_23, l_24, l_30, l_31, l_32, l_40, l_41, l_48, l_57, l_59, l_64, l_90, l_97, l_99, l_100, l_119, l_122, l_186, l_200, l_255, l_600, l_999, l_1488, l_1000000, s0, s1, s2, s3, s4, s5, s6, s7, s8, q0, q1, q2, q3, q4, q5, q6, q7, q8, nBt0, nBf0, if_true, if_false]
  cases q9 : wq tx k s e (xWord.getD 9 [])
  rotate_left 1
  · rw [fst 9 (by decide) q9 (fun i hi => by
      have hi2 : i = 0 ∨ i = 1 ∨ i = 2 ∨ i = 3 ∨ i = 4 ∨ i = 5 ∨ i = 6 ∨ i = 7 ∨ i = 8 := by omega
      rcases hi2 with rfl | rfl | rfl | rfl | rfl | rfl | rfl | rfl | rfl
      · exact q0
      · exact q1
      · exact q2
      · exact q3
      · exact q4
      · exact q5
      · exact q6
      · exact q7
      · exact q8)]
    simp only [f_X9_wordAhead, f_X9_laterWord, xl_s, ob_s, xb_s, rd_n, wr_n, m_1, m_1b, nI_add, pk_mul, l_0, l_1, l_2, l_3, l_4, l_5, l_6, l_7, l_8, l_9, l_10, l_11, l_12, l_13, l_14, l_15, l_16, l_17, l_18, l_19, l_20, l_21, l_22, l_23, l_24, l_30, l_31, l_32, l_40, l_41, l_48, l_57, l_59, l_64, l_90, l_97, l_99, l_100, l_119, l_122, l_186, l_200, l_255, l_600, l_999, l_1488, l_1000000, s0, s1, s2, s3, s4, s5, s6, s7, s8, s9, q0, q1, q2, q3, q4, q5, q6, q7, q8, q9, nBt0, nBf0, if_true, if_false]
  cases q10 : wq tx k s e (xWord.getD 10 [])
  rotate_left 1
  · rw [fst 10 (by decide) q10 (fun i hi => by
      have hi2 : i = 0 ∨ i = 1 ∨ i = 2 ∨ i = 3 ∨ i = 4 ∨ i = 5 ∨ i = 6 ∨ i = 7 ∨ i = 8 ∨ i = 9 := by omega
      rcases hi2 with rfl | rfl | rfl | rfl | rfl | rfl | rfl | rfl | rfl | rfl
      · exact q0
      · exact q1
      · exact q2
      · exact q3
      · exact q4
      · exact q5
      · exact q6
      · exact q7
      · exact q8
      · exact q9)]
    simp only [f_X9_wordAhead, f_X9_laterWord, xl_s, ob_s, xb_s, rd_n, wr_n, m_1, m_1b, nI_add, pk_mul, l_0, l_1, l_2, l_3, l_4, l_5, l_6, l_7, l_8, l_9, l_10, l_11, l_12, l_13, l_14, l_15, l_16, l_17, l_18, l_19, l_20, l_21, l_22, l_23, l_24, l_30, l_31, l_32, l_40, l_41, l_48, l_57, l_59, l_64, l_90, l_97, l_99, l_100, l_119, l_122, l_186, l_200, l_255, l_600, l_999, l_1488, l_1000000, s0, s1, s2, s3, s4, s5, s6, s7, s8, s9, s10, q0, q1, q2, q3, q4, q5, q6, q7, q8, q9, q10, nBt0, nBf0, if_true, if_false]
  cases q11 : wq tx k s e (xWord.getD 11 [])
  rotate_left 1
  · rw [fst 11 (by decide) q11 (fun i hi => by
      have hi2 : i = 0 ∨ i = 1 ∨ i = 2 ∨ i = 3 ∨ i = 4 ∨ i = 5 ∨ i = 6 ∨ i = 7 ∨ i = 8 ∨ i = 9 ∨ i = 10 := by omega
      rcases hi2 with rfl | rfl | rfl | rfl | rfl | rfl | rfl | rfl | rfl | rfl | rfl
      · exact q0
      · exact q1
      · exact q2
      · exact q3
      · exact q4
      · exact q5
      · exact q6
      · exact q7
      · exact q8
      · exact q9
      · exact q10)]
    simp only [f_X9_wordAhead, f_X9_laterWord, xl_s, ob_s, xb_s, rd_n, wr_n, m_1, m_1b, nI_add, pk_mul, l_0, l_1, l_2, l_3, l_4, l_5, l_6, l_7, l_8, l_9, l_10, l_11, l_12, l_13, l_14, l_15, l_16, l_17, l_18, l_19, l_20, l_21, l_22, l_23, l_24, l_30, l_31, l_32, l_40, l_41, l_48, l_57, l_59, l_64, l_90, l_97, l_99, l_100, l_119, l_122, l_186, l_200, l_255, l_600, l_999, l_1488, l_1000000, s0, s1, s2, s3, s4, s5, s6, s7, s8, s9, s10, s11, q0, q1, q2, q3, q4, q5, q6, q7, q8, q9, q10, q11, nBt0, nBf0, if_true, if_false]
  cases q12 : wq tx k s e (xWord.getD 12 [])
  rotate_left 1
  · rw [fst 12 (by decide) q12 (fun i hi => by
      have hi2 : i = 0 ∨ i = 1 ∨ i = 2 ∨ i = 3 ∨ i = 4 ∨ i = 5 ∨ i = 6 ∨ i = 7 ∨ i = 8 ∨ i = 9 ∨ i = 10 ∨ i = 11 := by omega
      rcases hi2 with rfl | rfl | rfl | rfl | rfl | rfl | rfl | rfl | rfl | rfl | rfl | rfl
      · exact q0
      · exact q1
      · exact q2
      · exact q3
      · exact q4
      · exact q5
      · exact q6
      · exact q7
      · exact q8
      · exact q9
      · exact q10
      · exact q11)]
    simp only [f_X9_wordAhead, f_X9_laterWord, xl_s, ob_s, xb_s, rd_n, wr_n, m_1, m_1b, nI_add, pk_mul, l_0, l_1, l_2, l_3, l_4, l_5, l_6, l_7, l_8, l_9, l_10, l_11, l_12, l_13, l_14, l_15, l_16, l_17, l_18, l_19, l_20, l_21, l_22, l_23, l_24, l_30, l_31, l_32, l_40, l_41, l_48, l_57, l_59, l_64, l_90, l_97, l_99, l_100, l_119, l_122, l_186, l_200, l_255, l_600, l_999, l_1488, l_1000000, s0, s1, s2, s3, s4, s5, s6, s7, s8, s9, s10, s11, s12, q0, q1, q2, q3, q4, q5, q6, q7, q8, q9, q10, q11, q12, nBt0, nBf0, if_true, if_false]
  have e0 : qcm tx k s e = 0 := qf_z (fun i hi => by
    have hi2 : i = 0 ∨ i = 1 ∨ i = 2 ∨ i = 3 ∨ i = 4 ∨ i = 5 ∨ i = 6 ∨ i = 7 ∨ i = 8 ∨ i = 9 ∨ i = 10 ∨ i = 11 ∨ i = 12 := by omega
    rcases hi2 with rfl | rfl | rfl | rfl | rfl | rfl | rfl | rfl | rfl | rfl | rfl | rfl | rfl
    · exact q0
    · exact q1
    · exact q2
    · exact q3
    · exact q4
    · exact q5
    · exact q6
    · exact q7
    · exact q8
    · exact q9
    · exact q10
    · exact q11
    · exact q12)
  rw [e0]
  simp only [f_X9_wordAhead, f_X9_laterWord, xl_s, ob_s, xb_s, rd_n, wr_n, m_1, m_1b, nI_add, pk_mul, l_0, l_1, l_2, l_3, l_4, l_5, l_6, l_7, l_8, l_9, l_10, l_11, l_12, l_13, l_14, l_15, l_16, l_17, l_18, l_19, l_20, l_21, l_22, l_23, l_24, l_30, l_31, l_32, l_40, l_41, l_48, l_57, l_59, l_64, l_90, l_97, l_99, l_100, l_119, l_122, l_186, l_200, l_255, l_600, l_999, l_1488, l_1000000, s0, s1, s2, s3, s4, s5, s6, s7, s8, s9, s10, s11, s12, q0, q1, q2, q3, q4, q5, q6, q7, q8, q9, q10, q11, q12, nBf0, if_true, if_false]
end
