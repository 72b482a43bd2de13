/-! level 2: the state of a script being read, on both sides -/
def lt (u : QU) (x : Nat → Nat) (c v : Nat) : Bool :=
  if c = 67 then decide (v < u 0 7 ∧ v ≠ x 0) else if c = 72 then decide (v < u 0 0 ∧ v ≠ x 0) else if c = 99 then decide (v < u 0 7) else if c = 102 then decide (1 ≤ v ∧ v ≤ 9) else if c = 103 then decide (v < u 0 3) else if c = 104 then decide (v < u 0 0) else if c = 110 then decide (1 ≤ v ∧ v ≤ 30) else if c = 114 then decide (1 ≤ v ∧ v ≤ 20) else if c = 115 then decide (1 ≤ v ∧ v ≤ 9) else if c = 116 then decide (1 ≤ v ∧ v ≤ 20) else if c = 119 then decide (v ≤ 9) else false
def ll (k : Nat) : List Nat := ([[119], [104, 72, 115], [104, 115, 115], [99, 103], [99], [104], [99, 67], [99, 67, 102, 116], [115, 115], [99], [99], [110], [114]] : List (List Nat)).getD k []
theorem ll_len : ∀ k, k < 13 → (xPlace.getD k []).length = (ll k).length ∧ 1 ≤ (ll k).length ∧ (ll k).length ≤ 4 := by decide +kernel
theorem ll_ch : ∀ k, k < 13 → ∀ j, j < (ll k).length → xch (xPlace.getD k []) (nI j) = nI ((ll k).getD j 0) ∧ (ll k).getD j 0 < 128 ∧ (j = 0 → (ll k).getD j 0 ≠ 67 ∧ (ll k).getD j 0 ≠ 72) := by decide +kernel
def xu (x : Nat → Nat) (j v : Nat) : Nat → Nat := fun i => if i = j then v else x i
/-- the class's script object before a token is read at p -/
def BC (tx : Nat → Nat) (L p n d : Nat) (u : QU) (S : XS) : Prop := (S 1 1 = nI L ∧ S 1 2 = nI p ∧ TC tx L (xs 1 S)) ∧ S 0 2 = nI 0 ∧ S 0 3 = oI 0 ∧ S 0 5 = nI 1 ∧ S 0 6 = nI n ∧ S 0 7 = nI d ∧ RC (xs 3 S) u
/-- the same, the token at p read -/
def DC (tx : Nat → Nat) (L p n d : Nat) (u : QU) (S : XS) : Prop := BC tx L (tkE tx L p) n d u S ∧ S 1 3 = nI (tkK tx L p) ∧ S 1 4 = nI (tkS tx L p) ∧ (tkK tx L p = 2 → S 1 5 = nI (tkV tx L p))
def EC (c o : Nat) (S : XS) : Prop := S 0 5 = nI 0 ∧ S 0 2 = nI c ∧ S 0 3 = nI o
def BM (tx : Nat → Nat) (L p r : Nat) (u : QU) (T : XS) : Prop := (T 0 11 = nI L ∧ T 0 19 = nI p ∧ TM tx L T) ∧ T 0 12 = nI 0 ∧ T 0 13 = oI 0 ∧ T 0 21 = nI r ∧ RM (T 1) u
def AM (tx : Nat → Nat) (L p r : Nat) (u : QU) (T : XS) : Prop := BM tx L (tkE tx L p) r u T ∧ T 0 17 = nI (rk (tkK tx L p)) ∧ T 0 18 = nI (tkS tx L p) ∧ (tkK tx L p = 2 → T 0 20 = nI (tkV tx L p))
def EM (c o : Nat) (T : XS) : Prop := T 0 12 = nI c ∧ T 0 13 = nI o
/-- what a script may move in the reference -/
def FM (T T' : XS) : Prop := (∀ a, a ≠ 0 → a ≠ 1 → a ≠ 10 → T' a = T a) ∧ ∀ y, y ≠ 12 → y ≠ 13 → ¬ (17 ≤ y ∧ y ≤ 21) → T' 0 y = T 0 y
section
variable {tx : Nat → Nat} {L p n d r : Nat} {u : QU} {S T T' : XS} {x : Nat → Nat}
theorem FM_r : FM T T := ⟨fun _ _ _ _ => rfl, fun _ _ _ _ => rfl⟩
theorem FM_t {T2 : XS} (h1 : FM T T') (h2 : FM T' T2) : FM T T2 := ⟨fun a h0 h6 h7 => by rw [h2.1 a h0 h6 h7, h1.1 a h0 h6 h7], fun y a b c => by rw [h2.2 y a b c, h1.2 y a b c]⟩
theorem NT_FM (h : NT T T') : FM T T' := ⟨fun a h0 _ _ => h.1 a h0, fun y _ _ h3 => h.2 y (by omega) (by omega) (by omega) (by omega)⟩
theorem l_67 : (67 : Int32) = nI 67 := Eq.trans rfl rfl
theorem l_72 : (72 : Int32) = nI 72 := Eq.trans rfl rfl
theorem l_102 : (102 : Int32) = nI 102 := Eq.trans rfl rfl
theorem l_103 : (103 : Int32) = nI 103 := Eq.trans rfl rfl
theorem l_104 : (104 : Int32) = nI 104 := Eq.trans rfl rfl
theorem l_110 : (110 : Int32) = nI 110 := Eq.trans rfl rfl
theorem l_114 : (114 : Int32) = nI 114 := Eq.trans rfl rfl
theorem l_115 : (115 : Int32) = nI 115 := Eq.trans rfl rfl
theorem l_116 : (116 : Int32) = nI 116 := Eq.trans rfl rfl
theorem qin_n {v n : Nat} (hv : v < 2 ^ 31) (hn : n < 2 ^ 31) : qin (nI v) n = decide (v < n) := by
  unfold qin
  rw [decide_eq_decide]
  exact ⟨fun z => (nI_ltI hv hn).mp z.2, fun z => ⟨fun q => by
    have := Int32.lt_iff_toInt_lt.mp q
    rw [nI_toInt hv, show (0 : Int32).toInt = 0 from by decide] at this
    omega, nI_lt z hn⟩⟩
theorem nB_d {P : Prop} {i : Decidable P} (h : P) : nB (@decide P i) = nI 1 := by rw [decide_eq_true h]; rfl
theorem nB_n {P : Prop} {i : Decidable P} (h : ¬ P) : nB (@decide P i) = nI 0 := by rw [decide_eq_false h]; rfl
theorem rng {v lo hi : Nat} (hv : v < 2 ^ 31) (hl : lo < 2 ^ 31) (hh : hi < 2 ^ 31) : (if nI v < nI lo then some (nI 0) else if nI hi < nI v then some (nI 0) else some (nI 1)) = some (nB (decide (lo ≤ v ∧ v ≤ hi))) := by
  by_cases q1 : v < lo
  · rw [if_pos (nI_lt q1 hl), nB_n (by omega)]
  · rw [if_neg (nI_nlt (by omega) hv)]
    by_cases q2 : hi < v
    · rw [if_pos (nI_lt q2 hv), nB_n (by omega)]
    · rw [if_neg (nI_nlt (by omega) hh), nB_d (by omega)]
theorem kc_fits (hR : RC (xs 3 S) u) (w : WF u) {c v : Nat} (hc : c < 128) (hv : v ≤ 999) (h0 : c = 67 ∨ c = 72 → S 16 0 = nI (x 0)) (hx : x 0 ≤ 999) : f_X7_fits S (nI c) (nI v) = some (nB (lt u x c v)) := by
  have b0 : u 0 0 ≤ 10 ∧ u 0 3 ≤ 20 ∧ u 0 7 ≤ 8 := by obtain ⟨hB, w0, w3, w7, wN, wk, wg, wc, wd, wo, wv⟩ := w; exact ⟨w0, w3, w7⟩
  unfold lt
  rw [f_X7_fits]
  simp only [l_67, l_72, l_99, l_102, l_103, l_104, l_110, l_114, l_115, l_116, l_119, l_0, l_1, l_2, l_3, l_4, l_5, l_6, l_7, l_8, l_9, l_10, l_11, l_12, l_13, l_14, l_15, l_16, l_17, l_18, l_19, l_20, l_21, l_22, l_23, l_24, l_30, l_31, l_32, l_40, l_41, l_48, l_57, l_59, l_64, l_90, l_97, l_99, l_100, l_119, l_122, l_186, l_200, l_255, l_600, l_999, l_1488, l_1000000]
  by_cases q : c = 67
  · subst q
    have e := h0 (Or.inl rfl)
    have r : xrd (nI 0) 4 (S 16) = some (nI (x 0)) := by rw [rd_n (by decide) (by decide), e]
    rw [if_pos rfl, if_pos rfl, kc_hasCat hR, qin_n (by omega) (by omega), ob_s, r, ob_s]
    by_cases z : v < u 0 7
    · rw [nB_d z, if_neg (by decide)]
      by_cases y : v = x 0
      · rw [if_pos (by rw [y]), nB_n (by omega)]
      · rw [if_neg (fun t => y ((nI_eq (by omega) (by omega)).mp t)), nB_d ⟨z, y⟩]
    · rw [nB_n z, if_pos rfl, nB_n (by omega)]
  rw [if_neg (fun z => q ((nI_eq (by omega) (by decide)).mp z)), if_neg q]
  by_cases q : c = 72
  · subst q
    have e := h0 (Or.inr rfl)
    have r : xrd (nI 0) 4 (S 16) = some (nI (x 0)) := by rw [rd_n (by decide) (by decide), e]
    rw [if_pos rfl, if_pos rfl, kc_hasChimney hR, qin_n (by omega) (by omega), ob_s, r, ob_s]
    by_cases z : v < u 0 0
    · rw [nB_d z, if_neg (by decide)]
      by_cases y : v = x 0
      · rw [if_pos (by rw [y]), nB_n (by omega)]
      · rw [if_neg (fun t => y ((nI_eq (by omega) (by omega)).mp t)), nB_d ⟨z, y⟩]
    · rw [nB_n z, if_pos rfl, nB_n (by omega)]
  rw [if_neg (fun z => q ((nI_eq (by omega) (by decide)).mp z)), if_neg q]
  by_cases q : c = 99
  · subst q
    simp (disch := omega) only [i_eqT, if_true, kc_hasCat hR, qin_n, ob_s, xz_b]
  rw [if_neg (fun z => q ((nI_eq (by omega) (by decide)).mp z)), if_neg q]
  by_cases q : c = 102
  · subst q
    rw [if_pos rfl, if_pos rfl]
    exact rng (by omega) (by decide) (by decide)
  rw [if_neg (fun z => q ((nI_eq (by omega) (by decide)).mp z)), if_neg q]
  by_cases q : c = 103
  · subst q
    simp (disch := omega) only [i_eqT, if_true, kc_hasGutter hR, qin_n, ob_s, xz_b]
  rw [if_neg (fun z => q ((nI_eq (by omega) (by decide)).mp z)), if_neg q]
  by_cases q : c = 104
  · subst q
    simp (disch := omega) only [i_eqT, if_true, kc_hasChimney hR, qin_n, ob_s, xz_b]
  rw [if_neg (fun z => q ((nI_eq (by omega) (by decide)).mp z)), if_neg q]
  by_cases q : c = 110
  · subst q
    rw [if_pos rfl, if_pos rfl]
    exact rng (by omega) (by decide) (by decide)
  rw [if_neg (fun z => q ((nI_eq (by omega) (by decide)).mp z)), if_neg q]
  by_cases q : c = 114
  · subst q
    rw [if_pos rfl, if_pos rfl]
    exact rng (by omega) (by decide) (by decide)
  rw [if_neg (fun z => q ((nI_eq (by omega) (by decide)).mp z)), if_neg q]
  by_cases q : c = 115
  · subst q
    rw [if_pos rfl, if_pos rfl]
    exact rng (by omega) (by decide) (by decide)
  rw [if_neg (fun z => q ((nI_eq (by omega) (by decide)).mp z)), if_neg q]
  by_cases q : c = 116
  · subst q
    rw [if_pos rfl, if_pos rfl]
    exact rng (by omega) (by decide) (by decide)
  rw [if_neg (fun z => q ((nI_eq (by omega) (by decide)).mp z)), if_neg q]
  by_cases q : c = 119
  · subst q
    rw [if_pos rfl, if_pos rfl]
    by_cases z : v ≤ 9
    · rw [if_neg (nI_nlt z (by decide)), nB_d z]
    · rw [if_pos (nI_lt (by omega) (by omega)), nB_n z]
  rw [if_neg (fun z => q ((nI_eq (by omega) (by decide)).mp z)), if_neg q]
  rfl
/-! the class reads a token -/
theorem BC_cg {S' : XS} (e0 : ∀ y, y = 2 ∨ y = 3 ∨ y = 5 ∨ y = 6 ∨ y = 7 → S' 0 y = S 0 y) (e1 : S' 1 1 = S 1 1) (e12 : S' 1 2 = nI p) (e2 : S' 2 = S 2) (e3 : ∀ a, 3 ≤ a → a < 16 → S' a = S a) {q : Nat} (h : BC tx L q n d u S) : BC tx L p n d u S' := by
  obtain ⟨⟨a1, a2, a3⟩, b1, b2, b3, b4, b5, b6⟩ := h
  refine ⟨⟨by rw [e1]; exact a1, e12, fun i hi => ?_⟩, by rw [e0 2 (by omega)]; exact b1, by rw [e0 3 (by omega)]; exact b2, by rw [e0 5 (by omega)]; exact b3, by rw [e0 6 (by omega)]; exact b4, by rw [e0 7 (by omega)]; exact b5, RC_cg (fun a ha => (e3 (3 + a) (by omega) (by omega)).symm) b6⟩
  show S' 2 i = _
  rw [e2]
  exact a3 i hi
theorem kc_nx (h6 : L ≤ 600) (hB : ∀ i, tx i < 256) (hp : p ≤ L) (h : BC tx L p n d u S) : ∃ R, f_X4_next (xs 1 S) = some R ∧ DC tx L p n d u (xm 1 2 S R) ∧ ∀ a, a ≠ 1 → xm 1 2 S R a = S a := by
  obtain ⟨R, r1, r2, r3, r4, r5, r6, r7⟩ := kc_next h6 hB h.1.2.2 h.1.1 hp h.1.2.1
  have m1 : xm 1 2 S R 1 = R 0 := by funext y; rw [xm_i (by omega)]
  have m2 : xm 1 2 S R 2 = S 2 := by
    funext y
    rw [xm_i (by omega), r7 _ (by decide)]
    rfl
  have m3 : ∀ a, a ≠ 1 → xm 1 2 S R a = S a := fun a ha => by
    by_cases e : a = 2
    · rw [e]; exact m2
    · funext y; exact xm_n (by omega)
  refine ⟨R, r1, ⟨BC_cg (fun y _ => by rw [m3 0 (by decide)]) (by rw [m1, r2]; exact h.1.1.symm) (by rw [m1]; exact r3) m2 (fun a h1 h2 => m3 a (by omega)) h, by rw [m1]; exact r4, by rw [m1]; exact r5, by rw [m1]; exact r6⟩, m3⟩
theorem kc_fail (c : Nat) {o : Nat} (h4 : S 1 4 = nI o) : ∃ S', f_X7_fail S (nI c) = some S' ∧ EC c o S' := by
  refine ⟨xput (xput (xput S 0 2 (nI c)) 0 3 (nI o)) 0 5 (nI 0), ?_, ?_, ?_, ?_⟩
  · simp (disch := omega) only [f_X7_fail, xl_s, ob_s, xb_s, rd_n, wr_n, m_1, m_1b, nI_add, pk_mul, l_0, l_1, l_2, l_3, l_4, l_5, l_6, l_7, l_8, l_9, l_10, l_11, l_12, l_13, l_14, l_15, l_16, l_17, l_18, l_19, l_20, l_21, l_22, l_23, l_24, l_30, l_31, l_32, l_40, l_41, l_48, l_57, l_59, l_64, l_90, l_97, l_99, l_100, l_119, l_122, l_186, l_200, l_255, l_600, l_999, l_1488, l_1000000, xq_n, h4]
  · simp (disch := omega) only [xp_s, i_T, i_F, if_true, if_false, and_self]
  · simp (disch := omega) only [xp_s, i_T, i_F, if_true, if_false, and_self]
  · simp (disch := omega) only [xp_s, i_T, i_F, if_true, if_false, and_self]
theorem kc_expect (h6 : L ≤ 600) (hB : ∀ i, tx i < 256) (hp : p ≤ L) (h : BC tx L p n d u S) (e : Nat) (he : e ≤ 6) : (tkK tx L p = e → ∃ S', f_X7_expect S (nI e) = some (nI 1, S') ∧ DC tx L p n d u S' ∧ ∀ a, a ≠ 1 → S' a = S a) ∧ (tkK tx L p ≠ e → ∃ S', f_X7_expect S (nI e) = some (nI 0, S') ∧ EC 1 (tkS tx L p) S') := by
  obtain ⟨R, r1, r2, r3⟩ := kc_nx h6 hB hp h
  have hk := tkK_le (tx := tx) L p
  constructor
  · intro q
    refine ⟨xm 1 2 S R, ?_, r2, r3⟩
    simp (disch := omega) only [f_X7_expect, xl_s, ob_s, xb_s, rd_n, wr_n, m_1, m_1b, nI_add, pk_mul, l_0, l_1, l_2, l_3, l_4, l_5, l_6, l_7, l_8, l_9, l_10, l_11, l_12, l_13, l_14, l_15, l_16, l_17, l_18, l_19, l_20, l_21, l_22, l_23, l_24, l_30, l_31, l_32, l_40, l_41, l_48, l_57, l_59, l_64, l_90, l_97, l_99, l_100, l_119, l_122, l_186, l_200, l_255, l_600, l_999, l_1488, l_1000000, r1, len_read, r2.2.1, i_eqT]
  · intro q
    obtain ⟨S', s1, s2⟩ := kc_fail (S := xm 1 2 S R) 1 r2.2.2.1
    refine ⟨S', ?_, s2⟩
    simp (disch := omega) only [f_X7_expect, xl_s, ob_s, xb_s, rd_n, wr_n, m_1, m_1b, nI_add, pk_mul, l_0, l_1, l_2, l_3, l_4, l_5, l_6, l_7, l_8, l_9, l_10, l_11, l_12, l_13, l_14, l_15, l_16, l_17, l_18, l_19, l_20, l_21, l_22, l_23, l_24, l_30, l_31, l_32, l_40, l_41, l_48, l_57, l_59, l_64, l_90, l_97, l_99, l_100, l_119, l_122, l_186, l_200, l_255, l_600, l_999, l_1488, l_1000000, r1, len_read, r2.2.1, i_eqF, s1]
end
