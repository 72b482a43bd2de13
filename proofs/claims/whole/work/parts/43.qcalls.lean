/-! level 2: each call on both wholes: what is asked, and the changes -/
theorem z10 : (nI 1 = nI 0) = False := by decide
theorem z01 : (nI 0 = nI 1) = False := by decide
def OK (l : List (Nat × Nat)) (a : Option (Nat × Int32 × XS)) (b : Option (Int32 × XS)) : Prop := ∃ E r C' r' T', a = some (E, r, C') ∧ b = some (r', T') ∧ GI C' T' ∧ ((E = 0 ∧ T' 0 16 = nI 0 ∧ r = r') ∨ ∃ k, (E, k) ∈ l ∧ T' 0 16 = nI k)
theorem ok_r {l : List (Nat × Nat)} {a : Option (Nat × Int32 × XS)} {b : Option (Int32 × XS)} {r : Int32} {C' T' : XS} (g : GI C' T') (h : T' 0 16 = nI 0) (ha : a = some (0, r, C')) (hb : b = some (r, T')) : OK l a b := ⟨0, r, C', r, T', ha, hb, g, Or.inl ⟨rfl, h, rfl⟩⟩
theorem ok_t {l : List (Nat × Nat)} {a : Option (Nat × Int32 × XS)} {b : Option (Int32 × XS)} {C T : XS} (g : GI C T) (E k : Nat) (hl : (E, k) ∈ l) (ha : a = some (E, nI 0, C)) (hb : b = some (nI 0, xput T 0 16 (nI k))) : OK l a b := ⟨E, nI 0, C, nI 0, _, ha, hb, GI_16 _ g, Or.inr ⟨k, hl, by rw [xp_s, if_pos rfl]⟩⟩
theorem xbx_0 {r : Int32} {S : XS} {K : Int32 → XS → Option XO4} : xbx (some (0, r, S)) K = K r S := by unfold xbx; exact if_pos rfl
theorem xbx_1 {r : Int32} {S : XS} {K : Int32 → XS → Option XO4} : xbx (some (1, r, S)) K = some (1, r, S) := by unfold xbx; exact if_neg (show ¬ (1 : Nat) = 0 by decide)
theorem xbx_2 {r : Int32} {S : XS} {K : Int32 → XS → Option XO4} : xbx (some (2, r, S)) K = some (2, r, S) := by unfold xbx; exact if_neg (show ¬ (2 : Nat) = 0 by decide)
theorem xbx_3 {r : Int32} {S : XS} {K : Int32 → XS → Option XO4} : xbx (some (3, r, S)) K = some (3, r, S) := by unfold xbx; exact if_neg (show ¬ (3 : Nat) = 0 by decide)
theorem len_roof : shRoof.length = 13 := Eq.trans rfl rfl
theorem nB_f : nB false = nI 0 := rfl
theorem nB_t : nB true = nI 1 := rfl
theorem th1_0 {T : XS} : f_X9_throwsOne T (nI 0) = some (nI 0, xput T 0 16 (nI 0)) := by
  simp only [f_X9_throwsOne, ob_s, xl_s, xz_0, xz_1, z10, if_true, if_false, l_0, l_1, l_2, l_3, l_4, l_5, l_6, l_7, l_8, l_9, l_10, l_11, l_12, l_13, l_14, l_15, l_16, l_17, l_18, l_19, l_20, l_21, l_22, l_23, l_24, l_30, l_31, l_32, l_40, l_41, l_48, l_57, l_59, l_64, l_90, l_97, l_99, l_100, l_119, l_122, l_186, l_200, l_255, l_600, l_999, l_1488, l_1000000]
theorem th1_1 {T : XS} : f_X9_throwsOne T (nI 1) = some (nI 1, xput T 0 16 (nI 1)) := by
  simp only [f_X9_throwsOne, ob_s, xl_s, xz_0, xz_1, z10, if_true, if_false, l_0, l_1, l_2, l_3, l_4, l_5, l_6, l_7, l_8, l_9, l_10, l_11, l_12, l_13, l_14, l_15, l_16, l_17, l_18, l_19, l_20, l_21, l_22, l_23, l_24, l_30, l_31, l_32, l_40, l_41, l_48, l_57, l_59, l_64, l_90, l_97, l_99, l_100, l_119, l_122, l_186, l_200, l_255, l_600, l_999, l_1488, l_1000000]
theorem th2_00 {T : XS} : f_X9_throwsOne_ T (nI 0) (nI 0) = some (nI 0, xput T 0 16 (nI 0)) := by
  simp only [f_X9_throwsOne_, ob_s, xl_s, z10, if_true, if_false, l_0, l_1, l_2, l_3, l_4, l_5, l_6, l_7, l_8, l_9, l_10, l_11, l_12, l_13, l_14, l_15, l_16, l_17, l_18, l_19, l_20, l_21, l_22, l_23, l_24, l_30, l_31, l_32, l_40, l_41, l_48, l_57, l_59, l_64, l_90, l_97, l_99, l_100, l_119, l_122, l_186, l_200, l_255, l_600, l_999, l_1488, l_1000000]
theorem th2_01 {T : XS} : f_X9_throwsOne_ T (nI 0) (nI 1) = some (nI 1, xput T 0 16 (nI 2)) := by
  simp only [f_X9_throwsOne_, ob_s, xl_s, z10, if_true, if_false, l_0, l_1, l_2, l_3, l_4, l_5, l_6, l_7, l_8, l_9, l_10, l_11, l_12, l_13, l_14, l_15, l_16, l_17, l_18, l_19, l_20, l_21, l_22, l_23, l_24, l_30, l_31, l_32, l_40, l_41, l_48, l_57, l_59, l_64, l_90, l_97, l_99, l_100, l_119, l_122, l_186, l_200, l_255, l_600, l_999, l_1488, l_1000000]
theorem th2_10 {T : XS} : f_X9_throwsOne_ T (nI 1) (nI 0) = some (nI 1, xput T 0 16 (nI 1)) := by
  simp only [f_X9_throwsOne_, ob_s, xl_s, z10, if_true, if_false, l_0, l_1, l_2, l_3, l_4, l_5, l_6, l_7, l_8, l_9, l_10, l_11, l_12, l_13, l_14, l_15, l_16, l_17, l_18, l_19, l_20, l_21, l_22, l_23, l_24, l_30, l_31, l_32, l_40, l_41, l_48, l_57, l_59, l_64, l_90, l_97, l_99, l_100, l_119, l_122, l_186, l_200, l_255, l_600, l_999, l_1488, l_1000000]
theorem th2_11 {T : XS} : f_X9_throwsOne_ T (nI 1) (nI 1) = some (nI 1, xput T 0 16 (nI 1)) := by
  simp only [f_X9_throwsOne_, ob_s, xl_s, z10, if_true, if_false, l_0, l_1, l_2, l_3, l_4, l_5, l_6, l_7, l_8, l_9, l_10, l_11, l_12, l_13, l_14, l_15, l_16, l_17, l_18, l_19, l_20, l_21, l_22, l_23, l_24, l_30, l_31, l_32, l_40, l_41, l_48, l_57, l_59, l_64, l_90, l_97, l_99, l_100, l_119, l_122, l_186, l_200, l_255, l_600, l_999, l_1488, l_1000000]
theorem th3_000 {T : XS} : f_X9_throwsOne__ T (nI 0) (nI 0) (nI 0) = some (nI 0, xput T 0 16 (nI 0)) := by
  simp only [f_X9_throwsOne__, ob_s, xl_s, z10, if_true, if_false, l_0, l_1, l_2, l_3, l_4, l_5, l_6, l_7, l_8, l_9, l_10, l_11, l_12, l_13, l_14, l_15, l_16, l_17, l_18, l_19, l_20, l_21, l_22, l_23, l_24, l_30, l_31, l_32, l_40, l_41, l_48, l_57, l_59, l_64, l_90, l_97, l_99, l_100, l_119, l_122, l_186, l_200, l_255, l_600, l_999, l_1488, l_1000000]
theorem th3_001 {T : XS} : f_X9_throwsOne__ T (nI 0) (nI 0) (nI 1) = some (nI 1, xput T 0 16 (nI 3)) := by
  simp only [f_X9_throwsOne__, ob_s, xl_s, z10, if_true, if_false, l_0, l_1, l_2, l_3, l_4, l_5, l_6, l_7, l_8, l_9, l_10, l_11, l_12, l_13, l_14, l_15, l_16, l_17, l_18, l_19, l_20, l_21, l_22, l_23, l_24, l_30, l_31, l_32, l_40, l_41, l_48, l_57, l_59, l_64, l_90, l_97, l_99, l_100, l_119, l_122, l_186, l_200, l_255, l_600, l_999, l_1488, l_1000000]
theorem th3_010 {T : XS} : f_X9_throwsOne__ T (nI 0) (nI 1) (nI 0) = some (nI 1, xput T 0 16 (nI 2)) := by
  simp only [f_X9_throwsOne__, ob_s, xl_s, z10, if_true, if_false, l_0, l_1, l_2, l_3, l_4, l_5, l_6, l_7, l_8, l_9, l_10, l_11, l_12, l_13, l_14, l_15, l_16, l_17, l_18, l_19, l_20, l_21, l_22, l_23, l_24, l_30, l_31, l_32, l_40, l_41, l_48, l_57, l_59, l_64, l_90, l_97, l_99, l_100, l_119, l_122, l_186, l_200, l_255, l_600, l_999, l_1488, l_1000000]
theorem th3_011 {T : XS} : f_X9_throwsOne__ T (nI 0) (nI 1) (nI 1) = some (nI 1, xput T 0 16 (nI 2)) := by
  simp only [f_X9_throwsOne__, ob_s, xl_s, z10, if_true, if_false, l_0, l_1, l_2, l_3, l_4, l_5, l_6, l_7, l_8, l_9, l_10, l_11, l_12, l_13, l_14, l_15, l_16, l_17, l_18, l_19, l_20, l_21, l_22, l_23, l_24, l_30, l_31, l_32, l_40, l_41, l_48, l_57, l_59, l_64, l_90, l_97, l_99, l_100, l_119, l_122, l_186, l_200, l_255, l_600, l_999, l_1488, l_1000000]
theorem th3_100 {T : XS} : f_X9_throwsOne__ T (nI 1) (nI 0) (nI 0) = some (nI 1, xput T 0 16 (nI 1)) := by
  simp only [f_X9_throwsOne__, ob_s, xl_s, z10, if_true, if_false, l_0, l_1, l_2, l_3, l_4, l_5, l_6, l_7, l_8, l_9, l_10, l_11, l_12, l_13, l_14, l_15, l_16, l_17, l_18, l_19, l_20, l_21, l_22, l_23, l_24, l_30, l_31, l_32, l_40, l_41, l_48, l_57, l_59, l_64, l_90, l_97, l_99, l_100, l_119, l_122, l_186, l_200, l_255, l_600, l_999, l_1488, l_1000000]
theorem th3_101 {T : XS} : f_X9_throwsOne__ T (nI 1) (nI 0) (nI 1) = some (nI 1, xput T 0 16 (nI 1)) := by
  simp only [f_X9_throwsOne__, ob_s, xl_s, z10, if_true, if_false, l_0, l_1, l_2, l_3, l_4, l_5, l_6, l_7, l_8, l_9, l_10, l_11, l_12, l_13, l_14, l_15, l_16, l_17, l_18, l_19, l_20, l_21, l_22, l_23, l_24, l_30, l_31, l_32, l_40, l_41, l_48, l_57, l_59, l_64, l_90, l_97, l_99, l_100, l_119, l_122, l_186, l_200, l_255, l_600, l_999, l_1488, l_1000000]
theorem th3_110 {T : XS} : f_X9_throwsOne__ T (nI 1) (nI 1) (nI 0) = some (nI 1, xput T 0 16 (nI 1)) := by
  simp only [f_X9_throwsOne__, ob_s, xl_s, z10, if_true, if_false, l_0, l_1, l_2, l_3, l_4, l_5, l_6, l_7, l_8, l_9, l_10, l_11, l_12, l_13, l_14, l_15, l_16, l_17, l_18, l_19, l_20, l_21, l_22, l_23, l_24, l_30, l_31, l_32, l_40, l_41, l_48, l_57, l_59, l_64, l_90, l_97, l_99, l_100, l_119, l_122, l_186, l_200, l_255, l_600, l_999, l_1488, l_1000000]
theorem th3_111 {T : XS} : f_X9_throwsOne__ T (nI 1) (nI 1) (nI 1) = some (nI 1, xput T 0 16 (nI 1)) := by
  simp only [f_X9_throwsOne__, ob_s, xl_s, z10, if_true, if_false, l_0, l_1, l_2, l_3, l_4, l_5, l_6, l_7, l_8, l_9, l_10, l_11, l_12, l_13, l_14, l_15, l_16, l_17, l_18, l_19, l_20, l_21, l_22, l_23, l_24, l_30, l_31, l_32, l_40, l_41, l_48, l_57, l_59, l_64, l_90, l_97, l_99, l_100, l_119, l_122, l_186, l_200, l_255, l_600, l_999, l_1488, l_1000000]
def qrg (x : Int32) (lo hi : Nat) : Bool := decide (nI lo ≤ x ∧ x ≤ nI hi)
theorem qrg_t {x : Int32} {lo hi : Nat} (hlo : lo ≤ hi) (hh : hi < 2 ^ 31) (h : qrg x lo hi = true) : ∃ k, lo ≤ k ∧ k ≤ hi ∧ x = nI k := by
  obtain ⟨h1, h2⟩ := of_decide_eq_true h
  have h0 : ¬ x < 0 := fun q => by
    have h3 := Int32.le_iff_toInt_le.mp h1
    have h4 := Int32.lt_iff_toInt_lt.mp q
    rw [nI_toInt (by omega)] at h3
    rw [show (0 : Int32).toInt = 0 from by decide] at h4
    omega
  obtain ⟨k, hk, rfl⟩ := nI_of h0
  exact ⟨k, (nI_leI (by omega) hk).mp h1, (nI_leI hk hh).mp h2, rfl⟩
theorem qrg_i {k lo hi : Nat} (h1 : lo ≤ k) (h2 : k ≤ hi) (hh : hi < 2 ^ 31) : qrg (nI k) lo hi = true := decide_eq_true ⟨nI_le h1 (by omega), nI_le h2 hh⟩
theorem n_rg (C : XS) (x : Int32) (lo hi : Nat) : f_X8_needRange C x (nI lo) (nI hi) = some (if qrg x lo hi = true then 0 else 2, nI 0, C) := by
  unfold qrg
  simp only [f_X8_needRange, l_0]
  by_cases h1 : x < nI lo
  · rw [if_pos h1, decide_eq_false (fun q => Int32.not_lt.mpr q.1 h1)]; rfl
  · rw [if_neg h1]
    by_cases h2 : x ≤ nI hi
    · rw [if_pos h2, decide_eq_true ⟨Int32.not_lt.mp h1, h2⟩]; rfl
    · rw [if_neg h2, decide_eq_false (fun q => h2 q.2)]; rfl
theorem m_rg (x : Int32) (lo hi : Nat) : f_X9_in x (nI lo) (nI hi) = some (nB (qrg x lo hi)) := by
  unfold qrg
  simp only [f_X9_in, l_0, l_1]
  by_cases h1 : x < nI lo
  · rw [if_pos h1, decide_eq_false (fun q => Int32.not_lt.mpr q.1 h1)]; rfl
  · rw [if_neg h1]
    by_cases h2 : x ≤ nI hi
    · rw [if_neg (Int32.not_lt.mpr h2), decide_eq_true ⟨Int32.not_lt.mp h1, h2⟩]; rfl
    · rw [if_pos (Int32.not_le.mp h2), decide_eq_false (fun q => h2 q.2)]; rfl
section
variable {S C T : XS} {u : QU}
theorem n_chi (h : RC (xs 1 C) u) {x : Int32} (e : qin x (u 0 0) = false) : f_X8_needChimney C x = some (1, nI 0, C) := by
  simp only [f_X8_needChimney, kc_hasChimney h, ob_s, e, l_0, nBf0, if_true]
theorem y_chi (h : RC (xs 1 C) u) {x : Int32} (e : qin x (u 0 0) = true) : f_X8_needChimney C x = some (0, nI 0, C) := by
  simp only [f_X8_needChimney, kc_hasChimney h, ob_s, e, l_0, nBt0, if_false]
theorem n_gut (h : RC (xs 1 C) u) {x : Int32} (e : qin x (u 0 3) = false) : f_X8_needGutter C x = some (1, nI 0, C) := by
  simp only [f_X8_needGutter, kc_hasGutter h, ob_s, e, l_0, nBf0, if_true]
theorem y_gut (h : RC (xs 1 C) u) {x : Int32} (e : qin x (u 0 3) = true) : f_X8_needGutter C x = some (0, nI 0, C) := by
  simp only [f_X8_needGutter, kc_hasGutter h, ob_s, e, l_0, nBt0, if_false]
theorem n_cat (h : RC (xs 1 C) u) {x : Int32} (e : qin x (u 0 7) = false) : f_X8_needCat C x = some (1, nI 0, C) := by
  simp only [f_X8_needCat, kc_hasCat h, ob_s, e, l_0, nBf0, if_true]
theorem y_cat (h : RC (xs 1 C) u) {x : Int32} (e : qin x (u 0 7) = true) : f_X8_needCat C x = some (0, nI 0, C) := by
  simp only [f_X8_needCat, kc_hasCat h, ob_s, e, l_0, nBt0, if_false]
theorem n_two {x y : Int32} (e : x = y) : f_X8_needTwo C x y = some (2, nI 0, C) := by simp only [f_X8_needTwo, if_pos e, l_0]
theorem y_two {x y : Int32} (e : ¬ x = y) : f_X8_needTwo C x y = some (0, nI 0, C) := by simp only [f_X8_needTwo, if_neg e, l_0]
theorem n_ref : f_X8_refuseIf C (nI 1) = some (3, nI 0, C) := by simp only [f_X8_refuseIf, z10, if_false, l_0]
theorem y_ref : f_X8_refuseIf C (nI 0) = some (0, nI 0, C) := by simp only [f_X8_refuseIf, if_true, l_0]
theorem m_cats (hm : RM (T 1) u) (w : WF u) (x y : Int32) : f_X9_areCats T x y = some (nB (qin x (u 0 7) && qin y (u 0 7))) := by
  simp only [f_X9_areCats, km_isCat hm w, ob_s, l_0, l_1]
  cases qin x (u 0 7) <;> cases qin y (u 0 7) <;> simp only [nBt0, nBf0, if_true, if_false] <;> rfl
theorem m_sizes (x y : Int32) : f_X9_areSizes x y = some (nB (qrg x 1 9 && qrg y 1 9)) := by
  simp only [f_X9_areSizes, l_0, l_1, l_2, l_3, l_4, l_5, l_6, l_7, l_8, l_9, l_10, l_11, l_12, l_13, l_14, l_15, l_16, l_17, l_18, l_19, l_20, l_21, l_22, l_23, l_24, l_30, l_31, l_32, l_40, l_41, l_48, l_57, l_59, l_64, l_90, l_97, l_99, l_100, l_119, l_122, l_186, l_200, l_255, l_600, l_999, l_1488, l_1000000, m_rg, ob_s]
  cases qrg x 1 9 <;> cases qrg y 1 9 <;> simp only [nBt0, nBf0, if_true, if_false] <;> rfl
theorem rm16 {x : Int32} (hm : RM (T 1) u) : RM (xput T 0 16 x 1) u := by rw [xp_n (by decide)]; exact hm
theorem t16 {x : Int32} : xput T 0 16 x 0 16 = x := by rw [xp_s, if_pos rfl]
theorem r01 {x : Int32} : xput T 0 16 x 1 = T 1 := xp_n (by decide)
theorem xs_12 : xs 11 (xs 1 C) = xs 12 C := by
  funext k
  show C (1 + (11 + k)) = C (12 + k)
  rw [show 1 + (11 + k) = 12 + k by omega]
/-- a question without an exception -/
def OQ (C T : XS) (a : Option Int32) (b : Option (Int32 × XS)) : Prop := ∃ r T', a = some r ∧ b = some (r, T') ∧ GI C T' 
theorem q_chimneyCount (g : GI C T) : OQ C T (f_X8_chimneyCount C) (f_X9_chimneyCount T) := by
  have g1 := GI_16 (nI 0) g
  obtain ⟨u, hc, hm, w, hn, g5, g6, g7, g8, g9, g10⟩ := g
  have hm1 : RM (xput T 0 16 (nI 0) 1) u := rm16 hm
  have h1 : C 1 0 = nI (u 0 0) := hc.1.1
  have h2 : T 1 0 = nI (u 0 0) := hm.1
  refine ⟨nI (u 0 0), _, ?_, ?_, g1⟩
  · simp (disch := omega) only [f_X8_chimneyCount, h1, xl_s, ob_s, xb_s, rd_n, wr_n, m_1, m_1b, nI_add, pk_mul, l_0, l_1, l_2, l_3, l_4, l_5, l_6, l_7, l_8, l_9, l_10, l_11, l_12, l_13, l_14, l_15, l_16, l_17, l_18, l_19, l_20, l_21, l_22, l_23, l_24, l_30, l_31, l_32, l_40, l_41, l_48, l_57, l_59, l_64, l_90, l_97, l_99, l_100, l_119, l_122, l_186, l_200, l_255, l_600, l_999, l_1488, l_1000000]
  · simp (disch := omega) only [f_X9_chimneyCount, f_X9_told, r01, h2, xl_s, ob_s, xb_s, rd_n, wr_n, m_1, m_1b, nI_add, pk_mul, l_0, l_1, l_2, l_3, l_4, l_5, l_6, l_7, l_8, l_9, l_10, l_11, l_12, l_13, l_14, l_15, l_16, l_17, l_18, l_19, l_20, l_21, l_22, l_23, l_24, l_30, l_31, l_32, l_40, l_41, l_48, l_57, l_59, l_64, l_90, l_97, l_99, l_100, l_119, l_122, l_186, l_200, l_255, l_600, l_999, l_1488, l_1000000]
theorem q_gutterCount (g : GI C T) : OQ C T (f_X8_gutterCount C) (f_X9_gutterCount T) := by
  have g1 := GI_16 (nI 0) g
  obtain ⟨u, hc, hm, w, hn, g5, g6, g7, g8, g9, g10⟩ := g
  have hm1 : RM (xput T 0 16 (nI 0) 1) u := rm16 hm
  have h1 : C 1 3 = nI (u 0 3) := hc.1.2.1
  have h2 : T 1 1 = nI (u 0 3) := hm.2.1
  refine ⟨nI (u 0 3), _, ?_, ?_, g1⟩
  · simp (disch := omega) only [f_X8_gutterCount, h1, xl_s, ob_s, xb_s, rd_n, wr_n, m_1, m_1b, nI_add, pk_mul, l_0, l_1, l_2, l_3, l_4, l_5, l_6, l_7, l_8, l_9, l_10, l_11, l_12, l_13, l_14, l_15, l_16, l_17, l_18, l_19, l_20, l_21, l_22, l_23, l_24, l_30, l_31, l_32, l_40, l_41, l_48, l_57, l_59, l_64, l_90, l_97, l_99, l_100, l_119, l_122, l_186, l_200, l_255, l_600, l_999, l_1488, l_1000000]
  · simp (disch := omega) only [f_X9_gutterCount, f_X9_told, r01, h2, xl_s, ob_s, xb_s, rd_n, wr_n, m_1, m_1b, nI_add, pk_mul, l_0, l_1, l_2, l_3, l_4, l_5, l_6, l_7, l_8, l_9, l_10, l_11, l_12, l_13, l_14, l_15, l_16, l_17, l_18, l_19, l_20, l_21, l_22, l_23, l_24, l_30, l_31, l_32, l_40, l_41, l_48, l_57, l_59, l_64, l_90, l_97, l_99, l_100, l_119, l_122, l_186, l_200, l_255, l_600, l_999, l_1488, l_1000000]
theorem q_catCount (g : GI C T) : OQ C T (f_X8_catCount C) (f_X9_catCount T) := by
  have g1 := GI_16 (nI 0) g
  obtain ⟨u, hc, hm, w, hn, g5, g6, g7, g8, g9, g10⟩ := g
  have hm1 : RM (xput T 0 16 (nI 0) 1) u := rm16 hm
  have h1 : C 1 7 = nI (u 0 7) := hc.1.2.2.1
  have h2 : T 1 2 = nI (u 0 7) := hm.2.2.1
  refine ⟨nI (u 0 7), _, ?_, ?_, g1⟩
  · simp (disch := omega) only [f_X8_catCount, h1, xl_s, ob_s, xb_s, rd_n, wr_n, m_1, m_1b, nI_add, pk_mul, l_0, l_1, l_2, l_3, l_4, l_5, l_6, l_7, l_8, l_9, l_10, l_11, l_12, l_13, l_14, l_15, l_16, l_17, l_18, l_19, l_20, l_21, l_22, l_23, l_24, l_30, l_31, l_32, l_40, l_41, l_48, l_57, l_59, l_64, l_90, l_97, l_99, l_100, l_119, l_122, l_186, l_200, l_255, l_600, l_999, l_1488, l_1000000]
  · simp (disch := omega) only [f_X9_catCount, f_X9_told, r01, h2, xl_s, ob_s, xb_s, rd_n, wr_n, m_1, m_1b, nI_add, pk_mul, l_0, l_1, l_2, l_3, l_4, l_5, l_6, l_7, l_8, l_9, l_10, l_11, l_12, l_13, l_14, l_15, l_16, l_17, l_18, l_19, l_20, l_21, l_22, l_23, l_24, l_30, l_31, l_32, l_40, l_41, l_48, l_57, l_59, l_64, l_90, l_97, l_99, l_100, l_119, l_122, l_186, l_200, l_255, l_600, l_999, l_1488, l_1000000]
theorem q_night (g : GI C T) : OQ C T (f_X8_night C) (f_X9_night T) := by
  have g1 := GI_16 (nI 0) g
  obtain ⟨u, hc, hm, w, hn, g5, g6, g7, g8, g9, g10⟩ := g
  have hm1 : RM (xput T 0 16 (nI 0) 1) u := rm16 hm
  have h1 : C 1 13 = nI (u 0 13) := hc.1.2.2.2.1
  have h2 : T 1 3 = nI (u 0 13) := hm.2.2.2.1
  refine ⟨nI (u 0 13), _, ?_, ?_, g1⟩
  · simp (disch := omega) only [f_X8_night, h1, xl_s, ob_s, xb_s, rd_n, wr_n, m_1, m_1b, nI_add, pk_mul, l_0, l_1, l_2, l_3, l_4, l_5, l_6, l_7, l_8, l_9, l_10, l_11, l_12, l_13, l_14, l_15, l_16, l_17, l_18, l_19, l_20, l_21, l_22, l_23, l_24, l_30, l_31, l_32, l_40, l_41, l_48, l_57, l_59, l_64, l_90, l_97, l_99, l_100, l_119, l_122, l_186, l_200, l_255, l_600, l_999, l_1488, l_1000000]
  · simp (disch := omega) only [f_X9_night, f_X9_told, r01, h2, xl_s, ob_s, xb_s, rd_n, wr_n, m_1, m_1b, nI_add, pk_mul, l_0, l_1, l_2, l_3, l_4, l_5, l_6, l_7, l_8, l_9, l_10, l_11, l_12, l_13, l_14, l_15, l_16, l_17, l_18, l_19, l_20, l_21, l_22, l_23, l_24, l_30, l_31, l_32, l_40, l_41, l_48, l_57, l_59, l_64, l_90, l_97, l_99, l_100, l_119, l_122, l_186, l_200, l_255, l_600, l_999, l_1488, l_1000000]
theorem q_moonPhase (g : GI C T) : OQ C T (f_X8_moonPhase C) (f_X9_moonPhase T) := by
  have g1 := GI_16 (nI 0) g
  obtain ⟨u, hc, hm, w, hn, g5, g6, g7, g8, g9, g10⟩ := g
  have hm1 : RM (xput T 0 16 (nI 0) 1) u := rm16 hm
  have h1 : C 1 13 = nI (u 0 13) := hc.1.2.2.2.1
  have h2 : T 1 3 = nI (u 0 13) := hm.2.2.2.1
  refine ⟨nI (u 0 13 % 8), _, ?_, ?_, g1⟩
  · simp (disch := omega) only [f_X8_moonPhase, h1, pk_rem, xl_s, ob_s, xb_s, rd_n, wr_n, m_1, m_1b, nI_add, pk_mul, l_0, l_1, l_2, l_3, l_4, l_5, l_6, l_7, l_8, l_9, l_10, l_11, l_12, l_13, l_14, l_15, l_16, l_17, l_18, l_19, l_20, l_21, l_22, l_23, l_24, l_30, l_31, l_32, l_40, l_41, l_48, l_57, l_59, l_64, l_90, l_97, l_99, l_100, l_119, l_122, l_186, l_200, l_255, l_600, l_999, l_1488, l_1000000]
  · simp (disch := omega) only [f_X9_moonPhase, f_X9_told, r01, h2, pk_rem, xl_s, ob_s, xb_s, rd_n, wr_n, m_1, m_1b, nI_add, pk_mul, l_0, l_1, l_2, l_3, l_4, l_5, l_6, l_7, l_8, l_9, l_10, l_11, l_12, l_13, l_14, l_15, l_16, l_17, l_18, l_19, l_20, l_21, l_22, l_23, l_24, l_30, l_31, l_32, l_40, l_41, l_48, l_57, l_59, l_64, l_90, l_97, l_99, l_100, l_119, l_122, l_186, l_200, l_255, l_600, l_999, l_1488, l_1000000]
theorem q_warmestFree (g : GI C T) : OQ C T (f_X8_warmestFree C) (f_X9_warmestFree T) := by
  have g1 := GI_16 (nI 0) g
  obtain ⟨u, hc, hm, w, hn, g5, g6, g7, g8, g9, g10⟩ := g
  have hm1 : RM (xput T 0 16 (nI 0) 1) u := rm16 hm
  refine ⟨oI (qwarm u (u 0 0)), _, ?_, ?_, g1⟩
  · simp (disch := omega) only [f_X8_warmestFree, kc_warm hc w, xl_s, ob_s, xb_s, rd_n, wr_n, m_1, m_1b, nI_add, pk_mul, l_0, l_1, l_2, l_3, l_4, l_5, l_6, l_7, l_8, l_9, l_10, l_11, l_12, l_13, l_14, l_15, l_16, l_17, l_18, l_19, l_20, l_21, l_22, l_23, l_24, l_30, l_31, l_32, l_40, l_41, l_48, l_57, l_59, l_64, l_90, l_97, l_99, l_100, l_119, l_122, l_186, l_200, l_255, l_600, l_999, l_1488, l_1000000]
  · simp (disch := omega) only [f_X9_warmestFree, km_warm hm1 w, xl_s, ob_s, xb_s, rd_n, wr_n, m_1, m_1b, nI_add, pk_mul, l_0, l_1, l_2, l_3, l_4, l_5, l_6, l_7, l_8, l_9, l_10, l_11, l_12, l_13, l_14, l_15, l_16, l_17, l_18, l_19, l_20, l_21, l_22, l_23, l_24, l_30, l_31, l_32, l_40, l_41, l_48, l_57, l_59, l_64, l_90, l_97, l_99, l_100, l_119, l_122, l_186, l_200, l_255, l_600, l_999, l_1488, l_1000000]
theorem q_largestChoir (g : GI C T) : OQ C T (f_X8_largestChoir C) (f_X9_largestChoir T) := by
  have g1 := GI_16 (nI 0) g
  obtain ⟨u, hc, hm, w, hn, g5, g6, g7, g8, g9, g10⟩ := g
  have hm1 : RM (xput T 0 16 (nI 0) 1) u := rm16 hm
  refine ⟨nI (qgr u (u 0 7)), _, ?_, ?_, g1⟩
  · simp (disch := omega) only [f_X8_largestChoir, kc_main hc w, xl_s, ob_s, xb_s, rd_n, wr_n, m_1, m_1b, nI_add, pk_mul, l_0, l_1, l_2, l_3, l_4, l_5, l_6, l_7, l_8, l_9, l_10, l_11, l_12, l_13, l_14, l_15, l_16, l_17, l_18, l_19, l_20, l_21, l_22, l_23, l_24, l_30, l_31, l_32, l_40, l_41, l_48, l_57, l_59, l_64, l_90, l_97, l_99, l_100, l_119, l_122, l_186, l_200, l_255, l_600, l_999, l_1488, l_1000000]
  · simp (disch := omega) only [f_X9_largestChoir, km_greatest hm1 w, xl_s, ob_s, xb_s, rd_n, wr_n, m_1, m_1b, nI_add, pk_mul, l_0, l_1, l_2, l_3, l_4, l_5, l_6, l_7, l_8, l_9, l_10, l_11, l_12, l_13, l_14, l_15, l_16, l_17, l_18, l_19, l_20, l_21, l_22, l_23, l_24, l_30, l_31, l_32, l_40, l_41, l_48, l_57, l_59, l_64, l_90, l_97, l_99, l_100, l_119, l_122, l_186, l_200, l_255, l_600, l_999, l_1488, l_1000000]
theorem q_totalFish (g : GI C T) : OQ C T (f_X8_totalFish C) (f_X9_totalFish T) := by
  have g1 := GI_16 (nI 0) g
  obtain ⟨u, hc, hm, w, hn, g5, g6, g7, g8, g9, g10⟩ := g
  have hm1 : RM (xput T 0 16 (nI 0) 1) u := rm16 hm
  refine ⟨nI (qall u), _, ?_, ?_, g1⟩
  · simp (disch := omega) only [f_X8_totalFish, kc_all hc w, xl_s, ob_s, xb_s, rd_n, wr_n, m_1, m_1b, nI_add, pk_mul, l_0, l_1, l_2, l_3, l_4, l_5, l_6, l_7, l_8, l_9, l_10, l_11, l_12, l_13, l_14, l_15, l_16, l_17, l_18, l_19, l_20, l_21, l_22, l_23, l_24, l_30, l_31, l_32, l_40, l_41, l_48, l_57, l_59, l_64, l_90, l_97, l_99, l_100, l_119, l_122, l_186, l_200, l_255, l_600, l_999, l_1488, l_1000000]
  · simp (disch := omega) only [f_X9_totalFish, km_all hm1 w, xl_s, ob_s, xb_s, rd_n, wr_n, m_1, m_1b, nI_add, pk_mul, l_0, l_1, l_2, l_3, l_4, l_5, l_6, l_7, l_8, l_9, l_10, l_11, l_12, l_13, l_14, l_15, l_16, l_17, l_18, l_19, l_20, l_21, l_22, l_23, l_24, l_30, l_31, l_32, l_40, l_41, l_48, l_57, l_59, l_64, l_90, l_97, l_99, l_100, l_119, l_122, l_186, l_200, l_255, l_600, l_999, l_1488, l_1000000]
theorem q_choirCount (g : GI C T) : OQ C T (f_X8_choirCount C) (f_X9_choirCount T) := by
  have g1 := GI_16 (nI 0) g
  obtain ⟨u, hc, hm, w, hn, g5, g6, g7, g8, g9, g10⟩ := g
  have hm1 : RM (xput T 0 16 (nI 0) 1) u := rm16 hm
  have e1 := kc_count hc w
  have e2 : True := trivial
  refine ⟨nI (qcn u (u 0 7)), _, ?_, ?_, g1⟩
  · exact e1
  · simp (disch := omega) only [f_X9_choirCount, km_count hm1 w, xl_s, ob_s, xb_s, rd_n, wr_n, m_1, m_1b, nI_add, pk_mul, l_0, l_1, l_2, l_3, l_4, l_5, l_6, l_7, l_8, l_9, l_10, l_11, l_12, l_13, l_14, l_15, l_16, l_17, l_18, l_19, l_20, l_21, l_22, l_23, l_24, l_30, l_31, l_32, l_40, l_41, l_48, l_57, l_59, l_64, l_90, l_97, l_99, l_100, l_119, l_122, l_186, l_200, l_255, l_600, l_999, l_1488, l_1000000]
theorem q_richestCat (g : GI C T) : OQ C T (f_X8_richestCat C) (f_X9_richestCat T) := by
  have g1 := GI_16 (nI 0) g
  obtain ⟨u, hc, hm, w, hn, g5, g6, g7, g8, g9, g10⟩ := g
  have hm1 : RM (xput T 0 16 (nI 0) 1) u := rm16 hm
  have e1 := kc_rich hc w
  refine ⟨oI (qrich u (u 0 7)), _, ?_, ?_, g1⟩
  · exact e1
  · simp (disch := omega) only [f_X9_richestCat, km_rich hm1 w, xl_s, ob_s, xb_s, rd_n, wr_n, m_1, m_1b, nI_add, pk_mul, l_0, l_1, l_2, l_3, l_4, l_5, l_6, l_7, l_8, l_9, l_10, l_11, l_12, l_13, l_14, l_15, l_16, l_17, l_18, l_19, l_20, l_21, l_22, l_23, l_24, l_30, l_31, l_32, l_40, l_41, l_48, l_57, l_59, l_64, l_90, l_97, l_99, l_100, l_119, l_122, l_186, l_200, l_255, l_600, l_999, l_1488, l_1000000]
theorem q_nightsToFullMoon (g : GI C T) : OQ C T (f_X8_nightsToFullMoon C) (f_X9_nightsToFullMoon T) := by
  have g1 := GI_16 (nI 0) g
  obtain ⟨u, hc, hm, w, hn, g5, g6, g7, g8, g9, g10⟩ := g
  have hm1 : RM (xput T 0 16 (nI 0) 1) u := rm16 hm
  have e1 := kc_moon hc w
  refine ⟨nI (qfm (u 0 13)), _, ?_, ?_, g1⟩
  · exact e1
  · simp (disch := omega) only [f_X9_nightsToFullMoon, km_moon hm1 w, xl_s, ob_s, xb_s, rd_n, wr_n, m_1, m_1b, nI_add, pk_mul, l_0, l_1, l_2, l_3, l_4, l_5, l_6, l_7, l_8, l_9, l_10, l_11, l_12, l_13, l_14, l_15, l_16, l_17, l_18, l_19, l_20, l_21, l_22, l_23, l_24, l_30, l_31, l_32, l_40, l_41, l_48, l_57, l_59, l_64, l_90, l_97, l_99, l_100, l_119, l_122, l_186, l_200, l_255, l_600, l_999, l_1488, l_1000000]
theorem q_undoCount (g : GI C T) : OQ C T (f_X8_undoCount C) (f_X9_undoCount T) := by
  have g1 := GI_16 (nI 0) g
  obtain ⟨u, hc, hm, w, hn, g5, g6, g7, g8, g9, g10⟩ := g
  have hm1 : RM (xput T 0 16 (nI 0) 1) u := rm16 hm
  obtain ⟨h, o, h8, o8, p1, p2, p3, p4⟩ := g6
  have e1 : C 27 2 = C 27 2 := rfl
  have e2 : T 0 5 = C 27 2 := by rw [p1, p3]
  refine ⟨C 27 2, _, ?_, ?_, g1⟩
  · simp (disch := omega) only [f_X8_undoCount]
  · simp (disch := omega) only [f_X9_undoCount, xp_s, i_F, e2, xl_s, ob_s, xb_s, rd_n, wr_n, m_1, m_1b, nI_add, pk_mul, l_0, l_1, l_2, l_3, l_4, l_5, l_6, l_7, l_8, l_9, l_10, l_11, l_12, l_13, l_14, l_15, l_16, l_17, l_18, l_19, l_20, l_21, l_22, l_23, l_24, l_30, l_31, l_32, l_40, l_41, l_48, l_57, l_59, l_64, l_90, l_97, l_99, l_100, l_119, l_122, l_186, l_200, l_255, l_600, l_999, l_1488, l_1000000, if_true, if_false, and_self]
theorem q_scriptErrorKind (g : GI C T) : OQ C T (f_X8_scriptErrorKind C) (f_X9_scriptErrorKind T) := by
  have g1 := GI_16 (nI 0) g
  obtain ⟨u, hc, hm, w, hn, g5, g6, g7, g8, g9, g10⟩ := g
  have hm1 : RM (xput T 0 16 (nI 0) 1) u := rm16 hm
  refine ⟨C 133 2, _, ?_, ?_, g1⟩
  · simp (disch := omega) only [f_X8_scriptErrorKind]
  · simp (disch := omega) only [f_X9_scriptErrorKind, xp_s, i_F, g9, xl_s, ob_s, xb_s, rd_n, wr_n, m_1, m_1b, nI_add, pk_mul, l_0, l_1, l_2, l_3, l_4, l_5, l_6, l_7, l_8, l_9, l_10, l_11, l_12, l_13, l_14, l_15, l_16, l_17, l_18, l_19, l_20, l_21, l_22, l_23, l_24, l_30, l_31, l_32, l_40, l_41, l_48, l_57, l_59, l_64, l_90, l_97, l_99, l_100, l_119, l_122, l_186, l_200, l_255, l_600, l_999, l_1488, l_1000000, if_true, if_false, and_self]
theorem q_scriptErrorOffset (g : GI C T) : OQ C T (f_X8_scriptErrorOffset C) (f_X9_scriptErrorOffset T) := by
  have g1 := GI_16 (nI 0) g
  obtain ⟨u, hc, hm, w, hn, g5, g6, g7, g8, g9, g10⟩ := g
  have hm1 : RM (xput T 0 16 (nI 0) 1) u := rm16 hm
  refine ⟨C 133 3, _, ?_, ?_, g1⟩
  · simp (disch := omega) only [f_X8_scriptErrorOffset]
  · simp (disch := omega) only [f_X9_scriptErrorOffset, xp_s, i_F, g10, xl_s, ob_s, xb_s, rd_n, wr_n, m_1, m_1b, nI_add, pk_mul, l_0, l_1, l_2, l_3, l_4, l_5, l_6, l_7, l_8, l_9, l_10, l_11, l_12, l_13, l_14, l_15, l_16, l_17, l_18, l_19, l_20, l_21, l_22, l_23, l_24, l_30, l_31, l_32, l_40, l_41, l_48, l_57, l_59, l_64, l_90, l_97, l_99, l_100, l_119, l_122, l_186, l_200, l_255, l_600, l_999, l_1488, l_1000000, if_true, if_false, and_self]
theorem q_violations (g : GI C T) : OQ C T (f_X8_violations C) (f_X9_violations T) := by
  have g1 := GI_16 (nI 0) g
  obtain ⟨u, hc, hm, w, hn, g5, g6, g7, g8, g9, g10⟩ := g
  have hm1 : RM (xput T 0 16 (nI 0) 1) u := rm16 hm
  have e1 : xput T 0 16 (nI 0) 1 2 = nI (u 0 7) := hm1.2.2.1
  have e2 : xput T 0 16 (nI 0) 1 8 = nI (u 20 0) := hm1.2.2.2.2.2.2.2.2.1
  have e3 : xput T 0 16 (nI 0) 1 9 = nI (u 20 1) := hm1.2.2.2.2.2.2.2.2.2.1
  refine ⟨qabs (qgap u) + nI (fb_ct (fun k => decide (1 < qshare u k)) (u 0 0)) + nI 0, _, ?_, ?_, g1⟩
  · simp (disch := omega) only [f_X8_violations, kc_mismatch hc w, kc_shared hc w, kc_broken hc w, xl_s, ob_s, xb_s, rd_n, wr_n, m_1, m_1b, nI_add, pk_mul, l_0, l_1, l_2, l_3, l_4, l_5, l_6, l_7, l_8, l_9, l_10, l_11, l_12, l_13, l_14, l_15, l_16, l_17, l_18, l_19, l_20, l_21, l_22, l_23, l_24, l_30, l_31, l_32, l_40, l_41, l_48, l_57, l_59, l_64, l_90, l_97, l_99, l_100, l_119, l_122, l_186, l_200, l_255, l_600, l_999, l_1488, l_1000000]
  · simp (disch := omega) only [f_X9_violations, km_all hm1 w, e1, e2, e3, xl_s, ob_s, rd_n, l_0, l_1, l_2, l_3, l_4, l_5, l_6, l_7, l_8, l_9, l_10, l_11, l_12, l_13, l_14, l_15, l_16, l_17, l_18, l_19, l_20, l_21, l_22, l_23, l_24, l_30, l_31, l_32, l_40, l_41, l_48, l_57, l_59, l_64, l_90, l_97, l_99, l_100, l_119, l_122, l_186, l_200, l_255, l_600, l_999, l_1488, l_1000000]
    rw [gap_m, show nI 0 = (0 : Int32) from rfl, Int32.add_zero, ← show nI 0 = (0 : Int32) from rfl]
    by_cases q : nI 0 ≤ qgap u
    · rw [if_pos q, show qabs (qgap u) = qgap u from if_pos q]
      exact km_viol1 hm1 w (qgap u) (qgap u) (km_viol2 hm1 w _ (qgap u) rfl)
    · rw [if_neg q, show qabs (qgap u) = -qgap u from if_neg q]
      exact km_viol1 hm1 w (-qgap u) (qgap u) (km_viol2 hm1 w _ (qgap u) rfl)
theorem q_isKittenWaiting (g : GI C T) : OQ C T (f_X8_isKittenWaiting C) (f_X9_isKittenWaiting T) := by
  have g1 := GI_16 (nI 0) g
  obtain ⟨u, hc, hm, w, hn, g5, g6, g7, g8, g9, g10⟩ := g
  have hm1 : RM (xput T 0 16 (nI 0) 1) u := rm16 hm
  have h1 : C 12 0 = nI (if u 11 0 = 0 then 0 else 1) := hc.2.2.2.2.2.2.2.2.2.2.2.1
  have h2 : nI (if u 11 0 = 0 then 0 else 1) = nB (decide (u 11 0 ≠ 0)) := by
    by_cases q : u 11 0 = 0
    · rw [if_pos q, decide_eq_false (fun z => z q)]; rfl
    · rw [if_neg q, decide_eq_true q]; rfl
  refine ⟨nB (decide (u 11 0 ≠ 0)), _, ?_, ?_, g1⟩
  · simp (disch := omega) only [f_X8_isKittenWaiting, h1, h2, xz_b]
  · simp (disch := omega) only [f_X9_isKittenWaiting, km_waits hm1 w, xz_b, xl_s, ob_s, xb_s, rd_n, wr_n, m_1, m_1b, nI_add, pk_mul, l_0, l_1, l_2, l_3, l_4, l_5, l_6, l_7, l_8, l_9, l_10, l_11, l_12, l_13, l_14, l_15, l_16, l_17, l_18, l_19, l_20, l_21, l_22, l_23, l_24, l_30, l_31, l_32, l_40, l_41, l_48, l_57, l_59, l_64, l_90, l_97, l_99, l_100, l_119, l_122, l_186, l_200, l_255, l_600, l_999, l_1488, l_1000000]
theorem q_votesFor (g : GI C T) : OQ C T (f_X8_votesFor C) (f_X9_votesFor T) := by
  have g1 := GI_16 (nI 0) g
  obtain ⟨u, hc, hm, w, hn, g5, g6, g7, g8, g9, g10⟩ := g
  have hm1 : RM (xput T 0 16 (nI 0) 1) u := rm16 hm
  have h1 : f_X3_votes (xs 12 C) (nI 1) = some (nI (qc (u 12 1))) := by
    have e := kc_votes hc (v := 1) (by decide)
    rw [qb_yes w, xs_12] at e
    exact e
  have h2 : xput T 0 16 (nI 0) 1 7 = nI (u 12 1) := hm1.2.2.2.2.2.2.2.1
  have h3 := bi_n (u 12 1) (Nat.lt_trans (m12 w).2 (by decide))
  refine ⟨nI (qc (u 12 1)), _, ?_, ?_, g1⟩
  · simp (disch := omega) only [f_X8_votesFor, h1, xl_s, ob_s, xb_s, rd_n, wr_n, m_1, m_1b, nI_add, pk_mul, l_0, l_1, l_2, l_3, l_4, l_5, l_6, l_7, l_8, l_9, l_10, l_11, l_12, l_13, l_14, l_15, l_16, l_17, l_18, l_19, l_20, l_21, l_22, l_23, l_24, l_30, l_31, l_32, l_40, l_41, l_48, l_57, l_59, l_64, l_90, l_97, l_99, l_100, l_119, l_122, l_186, l_200, l_255, l_600, l_999, l_1488, l_1000000]
  · simp (disch := omega) only [f_X9_votesFor, h2, h3, xl_s, ob_s, xb_s, rd_n, wr_n, m_1, m_1b, nI_add, pk_mul, l_0, l_1, l_2, l_3, l_4, l_5, l_6, l_7, l_8, l_9, l_10, l_11, l_12, l_13, l_14, l_15, l_16, l_17, l_18, l_19, l_20, l_21, l_22, l_23, l_24, l_30, l_31, l_32, l_40, l_41, l_48, l_57, l_59, l_64, l_90, l_97, l_99, l_100, l_119, l_122, l_186, l_200, l_255, l_600, l_999, l_1488, l_1000000]
theorem q_votesAgainst (g : GI C T) : OQ C T (f_X8_votesAgainst C) (f_X9_votesAgainst T) := by
  have g1 := GI_16 (nI 0) g
  obtain ⟨u, hc, hm, w, hn, g5, g6, g7, g8, g9, g10⟩ := g
  have hm1 : RM (xput T 0 16 (nI 0) 1) u := rm16 hm
  have hle : qc (u 12 1) ≤ qc (u 12 0) := by have h1 := qb_yes w; have h2 := qb_all w; omega
  have h1 : f_X3_votes (xs 12 C) (nI 2) = some (nI (qc (u 12 0) - qc (u 12 1))) := by
    have e := kc_votes hc (v := 2) (by decide)
    have h1 := qb_yes w
    have h2 := qb_all w
    rw [show fb_ct (fun c => decide (qb u c = 2)) 8 = qc (u 12 0) - qc (u 12 1) by omega, xs_12] at e
    exact e
  have h2 : xput T 0 16 (nI 0) 1 7 = nI (u 12 1) := hm1.2.2.2.2.2.2.2.1
  have h3 := bi_n (u 12 1) (Nat.lt_trans (m12 w).2 (by decide))
  have h4 : xput T 0 16 (nI 0) 1 6 = nI (u 12 0) := hm1.2.2.2.2.2.2.1
  have h5 := bi_n (u 12 0) (Nat.lt_trans (m12 w).1 (by decide))
  refine ⟨nI (qc (u 12 0) - qc (u 12 1)), _, ?_, ?_, g1⟩
  · simp (disch := omega) only [f_X8_votesAgainst, h1, xl_s, ob_s, xb_s, rd_n, wr_n, m_1, m_1b, nI_add, pk_mul, l_0, l_1, l_2, l_3, l_4, l_5, l_6, l_7, l_8, l_9, l_10, l_11, l_12, l_13, l_14, l_15, l_16, l_17, l_18, l_19, l_20, l_21, l_22, l_23, l_24, l_30, l_31, l_32, l_40, l_41, l_48, l_57, l_59, l_64, l_90, l_97, l_99, l_100, l_119, l_122, l_186, l_200, l_255, l_600, l_999, l_1488, l_1000000]
  · simp (disch := omega) only [f_X9_votesAgainst, h2, h3, h4, h5, pk_sub, xl_s, ob_s, xb_s, rd_n, wr_n, m_1, m_1b, nI_add, pk_mul, l_0, l_1, l_2, l_3, l_4, l_5, l_6, l_7, l_8, l_9, l_10, l_11, l_12, l_13, l_14, l_15, l_16, l_17, l_18, l_19, l_20, l_21, l_22, l_23, l_24, l_30, l_31, l_32, l_40, l_41, l_48, l_57, l_59, l_64, l_90, l_97, l_99, l_100, l_119, l_122, l_186, l_200, l_255, l_600, l_999, l_1488, l_1000000]
theorem q_warmth (g : GI C T) (x : Int32) : OK [(1, 1)] (f_X8_warmth C x) (f_X9_warmth T x) := by
  have g1 := GI_16 (nI 0) g
  have g0 := g
  obtain ⟨u, hc, hm, w, hn, -⟩ := g
  have hm1 : RM (xput T 0 16 (nI 0) 1) u := rm16 hm
  have hx := km_isChimney hm w x
  have b0 : u 0 0 ≤ 10 ∧ u 0 3 ≤ 20 ∧ u 0 7 ≤ 8 := by obtain ⟨hB, w0, w3, w7, wN, wk, wg, wc, wd, wo, wv⟩ := w; exact ⟨w0, w3, w7⟩
  cases e : qin x (u 0 0)
  · rw [e] at hx
    exact ok_t g0 1 1 (by decide) (by simp only [f_X8_warmth, n_chi hc e, xbx_0, xbx_1, xbx_2, xbx_3, th1_0, th1_1, th2_00, th2_01, th2_10, th2_11, th3_000, th3_001, th3_010, th3_011, th3_100, th3_101, th3_110, th3_111, ob_s, xl_s, xb_s, nBt0, nBf0, z10, z01, if_true, if_false, Bool.and_true, Bool.true_and, Bool.and_false, Bool.false_and, m_1, m_1b, l_0, l_1, l_2, l_3, l_4, l_5, l_6, l_7, l_8, l_9, l_10, l_11, l_12, l_13, l_14, l_15, l_16, l_17, l_18, l_19, l_20, l_21, l_22, l_23, l_24, l_30, l_31, l_32, l_40, l_41, l_48, l_57, l_59, l_64, l_90, l_97, l_99, l_100, l_119, l_122, l_186, l_200, l_255, l_600, l_999, l_1488, l_1000000]) (by simp only [f_X9_warmth, hx, xbx_0, xbx_1, xbx_2, xbx_3, th1_0, th1_1, th2_00, th2_01, th2_10, th2_11, th3_000, th3_001, th3_010, th3_011, th3_100, th3_101, th3_110, th3_111, ob_s, xl_s, xb_s, nBt0, nBf0, z10, z01, if_true, if_false, Bool.and_true, Bool.true_and, Bool.and_false, Bool.false_and, m_1, m_1b, l_0, l_1, l_2, l_3, l_4, l_5, l_6, l_7, l_8, l_9, l_10, l_11, l_12, l_13, l_14, l_15, l_16, l_17, l_18, l_19, l_20, l_21, l_22, l_23, l_24, l_30, l_31, l_32, l_40, l_41, l_48, l_57, l_59, l_64, l_90, l_97, l_99, l_100, l_119, l_122, l_186, l_200, l_255, l_600, l_999, l_1488, l_1000000])
  · rw [e] at hx
    have ey := y_chi hc e
    obtain ⟨k, hk, rfl⟩ := qin_t (by omega) e
    have h1 : C 2 k = nI (u 1 k) := hc.2.1 k hk
    have h2 : T 1 (10 + k) = nI (u 1 k) := by have h := hm; obtain ⟨m0, m1, m2, m3, m4, m5, m6, m7, m8, m9, n1, n2, n3, n4, n5, n6, n7, n8, n9, nT⟩ := h; exact n1 k (by omega)
    refine ok_r (r := nI (u 1 k)) g1 t16 ?_ ?_
    · simp (disch := omega) only [f_X8_warmth, ey, h1, rd_n, xbx_0, xbx_1, xbx_2, xbx_3, th1_0, th1_1, th2_00, th2_01, th2_10, th2_11, th3_000, th3_001, th3_010, th3_011, th3_100, th3_101, th3_110, th3_111, ob_s, xl_s, xb_s, nBt0, nBf0, z10, z01, if_true, if_false, Bool.and_true, Bool.true_and, Bool.and_false, Bool.false_and, m_1, m_1b, l_0, l_1, l_2, l_3, l_4, l_5, l_6, l_7, l_8, l_9, l_10, l_11, l_12, l_13, l_14, l_15, l_16, l_17, l_18, l_19, l_20, l_21, l_22, l_23, l_24, l_30, l_31, l_32, l_40, l_41, l_48, l_57, l_59, l_64, l_90, l_97, l_99, l_100, l_119, l_122, l_186, l_200, l_255, l_600, l_999, l_1488, l_1000000]
    · simp (disch := omega) only [f_X9_warmth, hx, r01, h2, rd_n, nI_add, xbx_0, xbx_1, xbx_2, xbx_3, th1_0, th1_1, th2_00, th2_01, th2_10, th2_11, th3_000, th3_001, th3_010, th3_011, th3_100, th3_101, th3_110, th3_111, ob_s, xl_s, xb_s, nBt0, nBf0, z10, z01, if_true, if_false, Bool.and_true, Bool.true_and, Bool.and_false, Bool.false_and, m_1, m_1b, l_0, l_1, l_2, l_3, l_4, l_5, l_6, l_7, l_8, l_9, l_10, l_11, l_12, l_13, l_14, l_15, l_16, l_17, l_18, l_19, l_20, l_21, l_22, l_23, l_24, l_30, l_31, l_32, l_40, l_41, l_48, l_57, l_59, l_64, l_90, l_97, l_99, l_100, l_119, l_122, l_186, l_200, l_255, l_600, l_999, l_1488, l_1000000]
theorem q_ownerOf (g : GI C T) (x : Int32) : OK [(1, 1)] (f_X8_ownerOf C x) (f_X9_ownerOf T x) := by
  have g1 := GI_16 (nI 0) g
  have g0 := g
  obtain ⟨u, hc, hm, w, hn, -⟩ := g
  have hm1 : RM (xput T 0 16 (nI 0) 1) u := rm16 hm
  have hx := km_isChimney hm w x
  have b0 : u 0 0 ≤ 10 ∧ u 0 3 ≤ 20 ∧ u 0 7 ≤ 8 := by obtain ⟨hB, w0, w3, w7, wN, wk, wg, wc, wd, wo, wv⟩ := w; exact ⟨w0, w3, w7⟩
  cases e : qin x (u 0 0)
  · rw [e] at hx
    exact ok_t g0 1 1 (by decide) (by simp only [f_X8_ownerOf, n_chi hc e, xbx_0, xbx_1, xbx_2, xbx_3, th1_0, th1_1, th2_00, th2_01, th2_10, th2_11, th3_000, th3_001, th3_010, th3_011, th3_100, th3_101, th3_110, th3_111, ob_s, xl_s, xb_s, nBt0, nBf0, z10, z01, if_true, if_false, Bool.and_true, Bool.true_and, Bool.and_false, Bool.false_and, m_1, m_1b, l_0, l_1, l_2, l_3, l_4, l_5, l_6, l_7, l_8, l_9, l_10, l_11, l_12, l_13, l_14, l_15, l_16, l_17, l_18, l_19, l_20, l_21, l_22, l_23, l_24, l_30, l_31, l_32, l_40, l_41, l_48, l_57, l_59, l_64, l_90, l_97, l_99, l_100, l_119, l_122, l_186, l_200, l_255, l_600, l_999, l_1488, l_1000000]) (by simp only [f_X9_ownerOf, hx, xbx_0, xbx_1, xbx_2, xbx_3, th1_0, th1_1, th2_00, th2_01, th2_10, th2_11, th3_000, th3_001, th3_010, th3_011, th3_100, th3_101, th3_110, th3_111, ob_s, xl_s, xb_s, nBt0, nBf0, z10, z01, if_true, if_false, Bool.and_true, Bool.true_and, Bool.and_false, Bool.false_and, m_1, m_1b, l_0, l_1, l_2, l_3, l_4, l_5, l_6, l_7, l_8, l_9, l_10, l_11, l_12, l_13, l_14, l_15, l_16, l_17, l_18, l_19, l_20, l_21, l_22, l_23, l_24, l_30, l_31, l_32, l_40, l_41, l_48, l_57, l_59, l_64, l_90, l_97, l_99, l_100, l_119, l_122, l_186, l_200, l_255, l_600, l_999, l_1488, l_1000000])
  · rw [e] at hx
    have ey := y_chi hc e
    obtain ⟨k, hk, rfl⟩ := qin_t (by omega) e
    have h1 : C 3 k = oI (u 2 k) := hc.2.2.1 k hk
    have h2 := km_owner hm1 (k := k) (by omega)
    refine ok_r (r := oI (u 2 k)) g1 t16 ?_ ?_
    · simp (disch := omega) only [f_X8_ownerOf, ey, h1, rd_n, xbx_0, xbx_1, xbx_2, xbx_3, th1_0, th1_1, th2_00, th2_01, th2_10, th2_11, th3_000, th3_001, th3_010, th3_011, th3_100, th3_101, th3_110, th3_111, ob_s, xl_s, xb_s, nBt0, nBf0, z10, z01, if_true, if_false, Bool.and_true, Bool.true_and, Bool.and_false, Bool.false_and, m_1, m_1b, l_0, l_1, l_2, l_3, l_4, l_5, l_6, l_7, l_8, l_9, l_10, l_11, l_12, l_13, l_14, l_15, l_16, l_17, l_18, l_19, l_20, l_21, l_22, l_23, l_24, l_30, l_31, l_32, l_40, l_41, l_48, l_57, l_59, l_64, l_90, l_97, l_99, l_100, l_119, l_122, l_186, l_200, l_255, l_600, l_999, l_1488, l_1000000]
    · simp (disch := omega) only [f_X9_ownerOf, hx, h2, rd_n, nI_add, xbx_0, xbx_1, xbx_2, xbx_3, th1_0, th1_1, th2_00, th2_01, th2_10, th2_11, th3_000, th3_001, th3_010, th3_011, th3_100, th3_101, th3_110, th3_111, ob_s, xl_s, xb_s, nBt0, nBf0, z10, z01, if_true, if_false, Bool.and_true, Bool.true_and, Bool.and_false, Bool.false_and, m_1, m_1b, l_0, l_1, l_2, l_3, l_4, l_5, l_6, l_7, l_8, l_9, l_10, l_11, l_12, l_13, l_14, l_15, l_16, l_17, l_18, l_19, l_20, l_21, l_22, l_23, l_24, l_30, l_31, l_32, l_40, l_41, l_48, l_57, l_59, l_64, l_90, l_97, l_99, l_100, l_119, l_122, l_186, l_200, l_255, l_600, l_999, l_1488, l_1000000]
theorem q_catOn (g : GI C T) (x : Int32) : OK [(1, 1)] (f_X8_catOn C x) (f_X9_catOn T x) := by
  have g1 := GI_16 (nI 0) g
  have g0 := g
  obtain ⟨u, hc, hm, w, hn, -⟩ := g
  have hm1 : RM (xput T 0 16 (nI 0) 1) u := rm16 hm
  have hx := km_isChimney hm w x
  have b0 : u 0 0 ≤ 10 ∧ u 0 3 ≤ 20 ∧ u 0 7 ≤ 8 := by obtain ⟨hB, w0, w3, w7, wN, wk, wg, wc, wd, wo, wv⟩ := w; exact ⟨w0, w3, w7⟩
  cases e : qin x (u 0 0)
  · rw [e] at hx
    exact ok_t g0 1 1 (by decide) (by simp only [f_X8_catOn, n_chi hc e, xbx_0, xbx_1, xbx_2, xbx_3, th1_0, th1_1, th2_00, th2_01, th2_10, th2_11, th3_000, th3_001, th3_010, th3_011, th3_100, th3_101, th3_110, th3_111, ob_s, xl_s, xb_s, nBt0, nBf0, z10, z01, if_true, if_false, Bool.and_true, Bool.true_and, Bool.and_false, Bool.false_and, m_1, m_1b, l_0, l_1, l_2, l_3, l_4, l_5, l_6, l_7, l_8, l_9, l_10, l_11, l_12, l_13, l_14, l_15, l_16, l_17, l_18, l_19, l_20, l_21, l_22, l_23, l_24, l_30, l_31, l_32, l_40, l_41, l_48, l_57, l_59, l_64, l_90, l_97, l_99, l_100, l_119, l_122, l_186, l_200, l_255, l_600, l_999, l_1488, l_1000000]) (by simp only [f_X9_catOn, hx, xbx_0, xbx_1, xbx_2, xbx_3, th1_0, th1_1, th2_00, th2_01, th2_10, th2_11, th3_000, th3_001, th3_010, th3_011, th3_100, th3_101, th3_110, th3_111, ob_s, xl_s, xb_s, nBt0, nBf0, z10, z01, if_true, if_false, Bool.and_true, Bool.true_and, Bool.and_false, Bool.false_and, m_1, m_1b, l_0, l_1, l_2, l_3, l_4, l_5, l_6, l_7, l_8, l_9, l_10, l_11, l_12, l_13, l_14, l_15, l_16, l_17, l_18, l_19, l_20, l_21, l_22, l_23, l_24, l_30, l_31, l_32, l_40, l_41, l_48, l_57, l_59, l_64, l_90, l_97, l_99, l_100, l_119, l_122, l_186, l_200, l_255, l_600, l_999, l_1488, l_1000000])
  · rw [e] at hx
    have ey := y_chi hc e
    obtain ⟨k, hk, rfl⟩ := qin_t (by omega) e
    have h1 := kc_sitter hc w (k := k) (by omega)
    have h2 := km_sitter hm1 w (k := k) (by omega)
    refine ok_r (r := oI (qsit u k)) g1 t16 ?_ ?_
    · simp (disch := omega) only [f_X8_catOn, ey, h1, rd_n, xbx_0, xbx_1, xbx_2, xbx_3, th1_0, th1_1, th2_00, th2_01, th2_10, th2_11, th3_000, th3_001, th3_010, th3_011, th3_100, th3_101, th3_110, th3_111, ob_s, xl_s, xb_s, nBt0, nBf0, z10, z01, if_true, if_false, Bool.and_true, Bool.true_and, Bool.and_false, Bool.false_and, m_1, m_1b, l_0, l_1, l_2, l_3, l_4, l_5, l_6, l_7, l_8, l_9, l_10, l_11, l_12, l_13, l_14, l_15, l_16, l_17, l_18, l_19, l_20, l_21, l_22, l_23, l_24, l_30, l_31, l_32, l_40, l_41, l_48, l_57, l_59, l_64, l_90, l_97, l_99, l_100, l_119, l_122, l_186, l_200, l_255, l_600, l_999, l_1488, l_1000000]
    · simp (disch := omega) only [f_X9_catOn, hx, h2, rd_n, nI_add, xbx_0, xbx_1, xbx_2, xbx_3, th1_0, th1_1, th2_00, th2_01, th2_10, th2_11, th3_000, th3_001, th3_010, th3_011, th3_100, th3_101, th3_110, th3_111, ob_s, xl_s, xb_s, nBt0, nBf0, z10, z01, if_true, if_false, Bool.and_true, Bool.true_and, Bool.and_false, Bool.false_and, m_1, m_1b, l_0, l_1, l_2, l_3, l_4, l_5, l_6, l_7, l_8, l_9, l_10, l_11, l_12, l_13, l_14, l_15, l_16, l_17, l_18, l_19, l_20, l_21, l_22, l_23, l_24, l_30, l_31, l_32, l_40, l_41, l_48, l_57, l_59, l_64, l_90, l_97, l_99, l_100, l_119, l_122, l_186, l_200, l_255, l_600, l_999, l_1488, l_1000000]
theorem q_gutterEnds (g : GI C T) (x : Int32) : OK [(1, 1)] (f_X8_gutterEnds C x) (f_X9_gutterEnds T x) := by
  have g1 := GI_16 (nI 0) g
  have g0 := g
  obtain ⟨u, hc, hm, w, hn, -⟩ := g
  have hm1 : RM (xput T 0 16 (nI 0) 1) u := rm16 hm
  have hx := km_isGutter hm w x
  have b0 : u 0 0 ≤ 10 ∧ u 0 3 ≤ 20 ∧ u 0 7 ≤ 8 := by obtain ⟨hB, w0, w3, w7, wN, wk, wg, wc, wd, wo, wv⟩ := w; exact ⟨w0, w3, w7⟩
  cases e : qin x (u 0 3)
  · rw [e] at hx
    exact ok_t g0 1 1 (by decide) (by simp only [f_X8_gutterEnds, n_gut hc e, xbx_0, xbx_1, xbx_2, xbx_3, th1_0, th1_1, th2_00, th2_01, th2_10, th2_11, th3_000, th3_001, th3_010, th3_011, th3_100, th3_101, th3_110, th3_111, ob_s, xl_s, xb_s, nBt0, nBf0, z10, z01, if_true, if_false, Bool.and_true, Bool.true_and, Bool.and_false, Bool.false_and, m_1, m_1b, l_0, l_1, l_2, l_3, l_4, l_5, l_6, l_7, l_8, l_9, l_10, l_11, l_12, l_13, l_14, l_15, l_16, l_17, l_18, l_19, l_20, l_21, l_22, l_23, l_24, l_30, l_31, l_32, l_40, l_41, l_48, l_57, l_59, l_64, l_90, l_97, l_99, l_100, l_119, l_122, l_186, l_200, l_255, l_600, l_999, l_1488, l_1000000]) (by simp only [f_X9_gutterEnds, hx, xbx_0, xbx_1, xbx_2, xbx_3, th1_0, th1_1, th2_00, th2_01, th2_10, th2_11, th3_000, th3_001, th3_010, th3_011, th3_100, th3_101, th3_110, th3_111, ob_s, xl_s, xb_s, nBt0, nBf0, z10, z01, if_true, if_false, Bool.and_true, Bool.true_and, Bool.and_false, Bool.false_and, m_1, m_1b, l_0, l_1, l_2, l_3, l_4, l_5, l_6, l_7, l_8, l_9, l_10, l_11, l_12, l_13, l_14, l_15, l_16, l_17, l_18, l_19, l_20, l_21, l_22, l_23, l_24, l_30, l_31, l_32, l_40, l_41, l_48, l_57, l_59, l_64, l_90, l_97, l_99, l_100, l_119, l_122, l_186, l_200, l_255, l_600, l_999, l_1488, l_1000000])
  · rw [e] at hx
    have ey := y_gut hc e
    obtain ⟨k, hk, rfl⟩ := qin_t (by omega) e
    have h1 : C 4 k = nI (u 3 k) := hc.2.2.2.1 k hk
    have h2 : C 5 k = nI (u 4 k) := hc.2.2.2.2.1 k hk
    have h3 : C 6 k = nI (u 5 k) := hc.2.2.2.2.2.1 k hk
    have hg : u 3 k < 31 ∧ u 4 k < 31 := by obtain ⟨hB, w0, w3, w7, wN, wk, wg, wc, wd, wo, wv⟩ := w; have := wg k hk; omega
    have h4 : xput T 0 16 (nI 0) 1 (30 + 3 * k + 0) = nI (u 3 k) := by have h := hm1; obtain ⟨m0, m1, m2, m3, m4, m5, m6, m7, m8, m9, n1, n2, n3, n4, n5, n6, n7, n8, n9, nT⟩ := h; exact n3 k (by omega)
    have h5 : xput T 0 16 (nI 0) 1 (30 + 3 * k + 1) = nI (u 4 k) := by have h := hm1; obtain ⟨m0, m1, m2, m3, m4, m5, m6, m7, m8, m9, n1, n2, n3, n4, n5, n6, n7, n8, n9, nT⟩ := h; exact n4 k (by omega)
    have h6 : xput T 0 16 (nI 0) 1 (30 + 3 * k + 2) = nI (u 5 k) := by have h := hm1; obtain ⟨m0, m1, m2, m3, m4, m5, m6, m7, m8, m9, n1, n2, n3, n4, n5, n6, n7, n8, n9, nT⟩ := h; exact n5 k (by omega)
    refine ok_r (r := nI (2 ^ u 3 k ||| 2 ^ u 4 k)) g1 t16 ?_ ?_
    · simp (disch := omega) only [f_X8_gutterEnds, ey, h1, h2, sh_n, fa_or, rd_n, xbx_0, xbx_1, xbx_2, xbx_3, th1_0, th1_1, th2_00, th2_01, th2_10, th2_11, th3_000, th3_001, th3_010, th3_011, th3_100, th3_101, th3_110, th3_111, ob_s, xl_s, xb_s, nBt0, nBf0, z10, z01, if_true, if_false, Bool.and_true, Bool.true_and, Bool.and_false, Bool.false_and, m_1, m_1b, l_0, l_1, l_2, l_3, l_4, l_5, l_6, l_7, l_8, l_9, l_10, l_11, l_12, l_13, l_14, l_15, l_16, l_17, l_18, l_19, l_20, l_21, l_22, l_23, l_24, l_30, l_31, l_32, l_40, l_41, l_48, l_57, l_59, l_64, l_90, l_97, l_99, l_100, l_119, l_122, l_186, l_200, l_255, l_600, l_999, l_1488, l_1000000]
    · simp (disch := omega) only [f_X9_gutterEnds, hx, km_gutter, h4, h5, sh_n, fa_or, rd_n, nI_add, xbx_0, xbx_1, xbx_2, xbx_3, th1_0, th1_1, th2_00, th2_01, th2_10, th2_11, th3_000, th3_001, th3_010, th3_011, th3_100, th3_101, th3_110, th3_111, ob_s, xl_s, xb_s, nBt0, nBf0, z10, z01, if_true, if_false, Bool.and_true, Bool.true_and, Bool.and_false, Bool.false_and, m_1, m_1b, l_0, l_1, l_2, l_3, l_4, l_5, l_6, l_7, l_8, l_9, l_10, l_11, l_12, l_13, l_14, l_15, l_16, l_17, l_18, l_19, l_20, l_21, l_22, l_23, l_24, l_30, l_31, l_32, l_40, l_41, l_48, l_57, l_59, l_64, l_90, l_97, l_99, l_100, l_119, l_122, l_186, l_200, l_255, l_600, l_999, l_1488, l_1000000]
theorem q_width (g : GI C T) (x : Int32) : OK [(1, 1)] (f_X8_width C x) (f_X9_width T x) := by
  have g1 := GI_16 (nI 0) g
  have g0 := g
  obtain ⟨u, hc, hm, w, hn, -⟩ := g
  have hm1 : RM (xput T 0 16 (nI 0) 1) u := rm16 hm
  have hx := km_isGutter hm w x
  have b0 : u 0 0 ≤ 10 ∧ u 0 3 ≤ 20 ∧ u 0 7 ≤ 8 := by obtain ⟨hB, w0, w3, w7, wN, wk, wg, wc, wd, wo, wv⟩ := w; exact ⟨w0, w3, w7⟩
  cases e : qin x (u 0 3)
  · rw [e] at hx
    exact ok_t g0 1 1 (by decide) (by simp only [f_X8_width, n_gut hc e, xbx_0, xbx_1, xbx_2, xbx_3, th1_0, th1_1, th2_00, th2_01, th2_10, th2_11, th3_000, th3_001, th3_010, th3_011, th3_100, th3_101, th3_110, th3_111, ob_s, xl_s, xb_s, nBt0, nBf0, z10, z01, if_true, if_false, Bool.and_true, Bool.true_and, Bool.and_false, Bool.false_and, m_1, m_1b, l_0, l_1, l_2, l_3, l_4, l_5, l_6, l_7, l_8, l_9, l_10, l_11, l_12, l_13, l_14, l_15, l_16, l_17, l_18, l_19, l_20, l_21, l_22, l_23, l_24, l_30, l_31, l_32, l_40, l_41, l_48, l_57, l_59, l_64, l_90, l_97, l_99, l_100, l_119, l_122, l_186, l_200, l_255, l_600, l_999, l_1488, l_1000000]) (by simp only [f_X9_width, hx, xbx_0, xbx_1, xbx_2, xbx_3, th1_0, th1_1, th2_00, th2_01, th2_10, th2_11, th3_000, th3_001, th3_010, th3_011, th3_100, th3_101, th3_110, th3_111, ob_s, xl_s, xb_s, nBt0, nBf0, z10, z01, if_true, if_false, Bool.and_true, Bool.true_and, Bool.and_false, Bool.false_and, m_1, m_1b, l_0, l_1, l_2, l_3, l_4, l_5, l_6, l_7, l_8, l_9, l_10, l_11, l_12, l_13, l_14, l_15, l_16, l_17, l_18, l_19, l_20, l_21, l_22, l_23, l_24, l_30, l_31, l_32, l_40, l_41, l_48, l_57, l_59, l_64, l_90, l_97, l_99, l_100, l_119, l_122, l_186, l_200, l_255, l_600, l_999, l_1488, l_1000000])
  · rw [e] at hx
    have ey := y_gut hc e
    obtain ⟨k, hk, rfl⟩ := qin_t (by omega) e
    have h1 : C 4 k = nI (u 3 k) := hc.2.2.2.1 k hk
    have h2 : C 5 k = nI (u 4 k) := hc.2.2.2.2.1 k hk
    have h3 : C 6 k = nI (u 5 k) := hc.2.2.2.2.2.1 k hk
    have hg : u 3 k < 31 ∧ u 4 k < 31 := by obtain ⟨hB, w0, w3, w7, wN, wk, wg, wc, wd, wo, wv⟩ := w; have := wg k hk; omega
    have h4 : xput T 0 16 (nI 0) 1 (30 + 3 * k + 0) = nI (u 3 k) := by have h := hm1; obtain ⟨m0, m1, m2, m3, m4, m5, m6, m7, m8, m9, n1, n2, n3, n4, n5, n6, n7, n8, n9, nT⟩ := h; exact n3 k (by omega)
    have h5 : xput T 0 16 (nI 0) 1 (30 + 3 * k + 1) = nI (u 4 k) := by have h := hm1; obtain ⟨m0, m1, m2, m3, m4, m5, m6, m7, m8, m9, n1, n2, n3, n4, n5, n6, n7, n8, n9, nT⟩ := h; exact n4 k (by omega)
    have h6 : xput T 0 16 (nI 0) 1 (30 + 3 * k + 2) = nI (u 5 k) := by have h := hm1; obtain ⟨m0, m1, m2, m3, m4, m5, m6, m7, m8, m9, n1, n2, n3, n4, n5, n6, n7, n8, n9, nT⟩ := h; exact n5 k (by omega)
    refine ok_r (r := nI (u 5 k)) g1 t16 ?_ ?_
    · simp (disch := omega) only [f_X8_width, ey, h3, rd_n, xbx_0, xbx_1, xbx_2, xbx_3, th1_0, th1_1, th2_00, th2_01, th2_10, th2_11, th3_000, th3_001, th3_010, th3_011, th3_100, th3_101, th3_110, th3_111, ob_s, xl_s, xb_s, nBt0, nBf0, z10, z01, if_true, if_false, Bool.and_true, Bool.true_and, Bool.and_false, Bool.false_and, m_1, m_1b, l_0, l_1, l_2, l_3, l_4, l_5, l_6, l_7, l_8, l_9, l_10, l_11, l_12, l_13, l_14, l_15, l_16, l_17, l_18, l_19, l_20, l_21, l_22, l_23, l_24, l_30, l_31, l_32, l_40, l_41, l_48, l_57, l_59, l_64, l_90, l_97, l_99, l_100, l_119, l_122, l_186, l_200, l_255, l_600, l_999, l_1488, l_1000000]
    · simp (disch := omega) only [f_X9_width, hx, km_gutter, h6, rd_n, nI_add, xbx_0, xbx_1, xbx_2, xbx_3, th1_0, th1_1, th2_00, th2_01, th2_10, th2_11, th3_000, th3_001, th3_010, th3_011, th3_100, th3_101, th3_110, th3_111, ob_s, xl_s, xb_s, nBt0, nBf0, z10, z01, if_true, if_false, Bool.and_true, Bool.true_and, Bool.and_false, Bool.false_and, m_1, m_1b, l_0, l_1, l_2, l_3, l_4, l_5, l_6, l_7, l_8, l_9, l_10, l_11, l_12, l_13, l_14, l_15, l_16, l_17, l_18, l_19, l_20, l_21, l_22, l_23, l_24, l_30, l_31, l_32, l_40, l_41, l_48, l_57, l_59, l_64, l_90, l_97, l_99, l_100, l_119, l_122, l_186, l_200, l_255, l_600, l_999, l_1488, l_1000000]
theorem q_girth (g : GI C T) (x : Int32) : OK [(1, 1)] (f_X8_girth C x) (f_X9_girth T x) := by
  have g1 := GI_16 (nI 0) g
  have g0 := g
  obtain ⟨u, hc, hm, w, hn, -⟩ := g
  have hm1 : RM (xput T 0 16 (nI 0) 1) u := rm16 hm
  have hx := km_isCat hm w x
  have b0 : u 0 0 ≤ 10 ∧ u 0 3 ≤ 20 ∧ u 0 7 ≤ 8 := by obtain ⟨hB, w0, w3, w7, wN, wk, wg, wc, wd, wo, wv⟩ := w; exact ⟨w0, w3, w7⟩
  cases e : qin x (u 0 7)
  · rw [e] at hx
    exact ok_t g0 1 1 (by decide) (by simp only [f_X8_girth, n_cat hc e, xbx_0, xbx_1, xbx_2, xbx_3, th1_0, th1_1, th2_00, th2_01, th2_10, th2_11, th3_000, th3_001, th3_010, th3_011, th3_100, th3_101, th3_110, th3_111, ob_s, xl_s, xb_s, nBt0, nBf0, z10, z01, if_true, if_false, Bool.and_true, Bool.true_and, Bool.and_false, Bool.false_and, m_1, m_1b, l_0, l_1, l_2, l_3, l_4, l_5, l_6, l_7, l_8, l_9, l_10, l_11, l_12, l_13, l_14, l_15, l_16, l_17, l_18, l_19, l_20, l_21, l_22, l_23, l_24, l_30, l_31, l_32, l_40, l_41, l_48, l_57, l_59, l_64, l_90, l_97, l_99, l_100, l_119, l_122, l_186, l_200, l_255, l_600, l_999, l_1488, l_1000000]) (by simp only [f_X9_girth, f_X9_catTold, hx, xbx_0, xbx_1, xbx_2, xbx_3, th1_0, th1_1, th2_00, th2_01, th2_10, th2_11, th3_000, th3_001, th3_010, th3_011, th3_100, th3_101, th3_110, th3_111, ob_s, xl_s, xb_s, nBt0, nBf0, z10, z01, if_true, if_false, Bool.and_true, Bool.true_and, Bool.and_false, Bool.false_and, m_1, m_1b, l_0, l_1, l_2, l_3, l_4, l_5, l_6, l_7, l_8, l_9, l_10, l_11, l_12, l_13, l_14, l_15, l_16, l_17, l_18, l_19, l_20, l_21, l_22, l_23, l_24, l_30, l_31, l_32, l_40, l_41, l_48, l_57, l_59, l_64, l_90, l_97, l_99, l_100, l_119, l_122, l_186, l_200, l_255, l_600, l_999, l_1488, l_1000000])
  · rw [e] at hx
    have ey := y_cat hc e
    obtain ⟨k, hk, rfl⟩ := qin_t (by omega) e
    have h1 : C 7 k = nI (u 6 k) := hc.2.2.2.2.2.2.1 k hk
    have h2 : C 9 k = nI (u 8 k) := hc.2.2.2.2.2.2.2.2.1 k hk
    have h3 : C 10 k = nI (u 9 k) := hc.2.2.2.2.2.2.2.2.2.1 k hk
    have h4 : xput T 0 16 (nI 0) 1 (90 + 4 * k + 0) = nI (u 6 k) := by have h := hm1; obtain ⟨m0, m1, m2, m3, m4, m5, m6, m7, m8, m9, n1, n2, n3, n4, n5, n6, n7, n8, n9, nT⟩ := h; exact n6 k (by omega)
    have h5 : xput T 0 16 (nI 0) 1 (90 + 4 * k + 2) = nI (u 8 k) := by have h := hm1; obtain ⟨m0, m1, m2, m3, m4, m5, m6, m7, m8, m9, n1, n2, n3, n4, n5, n6, n7, n8, n9, nT⟩ := h; exact n8 k (by omega)
    have h6 : xput T 0 16 (nI 0) 1 (90 + 4 * k + 3) = nI (u 9 k) := by have h := hm1; obtain ⟨m0, m1, m2, m3, m4, m5, m6, m7, m8, m9, n1, n2, n3, n4, n5, n6, n7, n8, n9, nT⟩ := h; exact n9 k (by omega)
    refine ok_r (r := nI (u 6 k)) g1 t16 ?_ ?_
    · simp (disch := omega) only [f_X8_girth, ey, h1, rd_n, xbx_0, xbx_1, xbx_2, xbx_3, th1_0, th1_1, th2_00, th2_01, th2_10, th2_11, th3_000, th3_001, th3_010, th3_011, th3_100, th3_101, th3_110, th3_111, ob_s, xl_s, xb_s, nBt0, nBf0, z10, z01, if_true, if_false, Bool.and_true, Bool.true_and, Bool.and_false, Bool.false_and, m_1, m_1b, l_0, l_1, l_2, l_3, l_4, l_5, l_6, l_7, l_8, l_9, l_10, l_11, l_12, l_13, l_14, l_15, l_16, l_17, l_18, l_19, l_20, l_21, l_22, l_23, l_24, l_30, l_31, l_32, l_40, l_41, l_48, l_57, l_59, l_64, l_90, l_97, l_99, l_100, l_119, l_122, l_186, l_200, l_255, l_600, l_999, l_1488, l_1000000]
    · simp (disch := omega) only [f_X9_girth, f_X9_catTold, hx, km_of, h4, rd_n, nI_add, xbx_0, xbx_1, xbx_2, xbx_3, th1_0, th1_1, th2_00, th2_01, th2_10, th2_11, th3_000, th3_001, th3_010, th3_011, th3_100, th3_101, th3_110, th3_111, ob_s, xl_s, xb_s, nBt0, nBf0, z10, z01, if_true, if_false, Bool.and_true, Bool.true_and, Bool.and_false, Bool.false_and, m_1, m_1b, l_0, l_1, l_2, l_3, l_4, l_5, l_6, l_7, l_8, l_9, l_10, l_11, l_12, l_13, l_14, l_15, l_16, l_17, l_18, l_19, l_20, l_21, l_22, l_23, l_24, l_30, l_31, l_32, l_40, l_41, l_48, l_57, l_59, l_64, l_90, l_97, l_99, l_100, l_119, l_122, l_186, l_200, l_255, l_600, l_999, l_1488, l_1000000]
theorem q_fish (g : GI C T) (x : Int32) : OK [(1, 1)] (f_X8_fish C x) (f_X9_fish T x) := by
  have g1 := GI_16 (nI 0) g
  have g0 := g
  obtain ⟨u, hc, hm, w, hn, -⟩ := g
  have hm1 : RM (xput T 0 16 (nI 0) 1) u := rm16 hm
  have hx := km_isCat hm w x
  have b0 : u 0 0 ≤ 10 ∧ u 0 3 ≤ 20 ∧ u 0 7 ≤ 8 := by obtain ⟨hB, w0, w3, w7, wN, wk, wg, wc, wd, wo, wv⟩ := w; exact ⟨w0, w3, w7⟩
  cases e : qin x (u 0 7)
  · rw [e] at hx
    exact ok_t g0 1 1 (by decide) (by simp only [f_X8_fish, n_cat hc e, xbx_0, xbx_1, xbx_2, xbx_3, th1_0, th1_1, th2_00, th2_01, th2_10, th2_11, th3_000, th3_001, th3_010, th3_011, th3_100, th3_101, th3_110, th3_111, ob_s, xl_s, xb_s, nBt0, nBf0, z10, z01, if_true, if_false, Bool.and_true, Bool.true_and, Bool.and_false, Bool.false_and, m_1, m_1b, l_0, l_1, l_2, l_3, l_4, l_5, l_6, l_7, l_8, l_9, l_10, l_11, l_12, l_13, l_14, l_15, l_16, l_17, l_18, l_19, l_20, l_21, l_22, l_23, l_24, l_30, l_31, l_32, l_40, l_41, l_48, l_57, l_59, l_64, l_90, l_97, l_99, l_100, l_119, l_122, l_186, l_200, l_255, l_600, l_999, l_1488, l_1000000]) (by simp only [f_X9_fish, f_X9_catTold, hx, xbx_0, xbx_1, xbx_2, xbx_3, th1_0, th1_1, th2_00, th2_01, th2_10, th2_11, th3_000, th3_001, th3_010, th3_011, th3_100, th3_101, th3_110, th3_111, ob_s, xl_s, xb_s, nBt0, nBf0, z10, z01, if_true, if_false, Bool.and_true, Bool.true_and, Bool.and_false, Bool.false_and, m_1, m_1b, l_0, l_1, l_2, l_3, l_4, l_5, l_6, l_7, l_8, l_9, l_10, l_11, l_12, l_13, l_14, l_15, l_16, l_17, l_18, l_19, l_20, l_21, l_22, l_23, l_24, l_30, l_31, l_32, l_40, l_41, l_48, l_57, l_59, l_64, l_90, l_97, l_99, l_100, l_119, l_122, l_186, l_200, l_255, l_600, l_999, l_1488, l_1000000])
  · rw [e] at hx
    have ey := y_cat hc e
    obtain ⟨k, hk, rfl⟩ := qin_t (by omega) e
    have h1 : C 7 k = nI (u 6 k) := hc.2.2.2.2.2.2.1 k hk
    have h2 : C 9 k = nI (u 8 k) := hc.2.2.2.2.2.2.2.2.1 k hk
    have h3 : C 10 k = nI (u 9 k) := hc.2.2.2.2.2.2.2.2.2.1 k hk
    have h4 : xput T 0 16 (nI 0) 1 (90 + 4 * k + 0) = nI (u 6 k) := by have h := hm1; obtain ⟨m0, m1, m2, m3, m4, m5, m6, m7, m8, m9, n1, n2, n3, n4, n5, n6, n7, n8, n9, nT⟩ := h; exact n6 k (by omega)
    have h5 : xput T 0 16 (nI 0) 1 (90 + 4 * k + 2) = nI (u 8 k) := by have h := hm1; obtain ⟨m0, m1, m2, m3, m4, m5, m6, m7, m8, m9, n1, n2, n3, n4, n5, n6, n7, n8, n9, nT⟩ := h; exact n8 k (by omega)
    have h6 : xput T 0 16 (nI 0) 1 (90 + 4 * k + 3) = nI (u 9 k) := by have h := hm1; obtain ⟨m0, m1, m2, m3, m4, m5, m6, m7, m8, m9, n1, n2, n3, n4, n5, n6, n7, n8, n9, nT⟩ := h; exact n9 k (by omega)
    refine ok_r (r := nI (u 8 k)) g1 t16 ?_ ?_
    · simp (disch := omega) only [f_X8_fish, ey, h2, rd_n, xbx_0, xbx_1, xbx_2, xbx_3, th1_0, th1_1, th2_00, th2_01, th2_10, th2_11, th3_000, th3_001, th3_010, th3_011, th3_100, th3_101, th3_110, th3_111, ob_s, xl_s, xb_s, nBt0, nBf0, z10, z01, if_true, if_false, Bool.and_true, Bool.true_and, Bool.and_false, Bool.false_and, m_1, m_1b, l_0, l_1, l_2, l_3, l_4, l_5, l_6, l_7, l_8, l_9, l_10, l_11, l_12, l_13, l_14, l_15, l_16, l_17, l_18, l_19, l_20, l_21, l_22, l_23, l_24, l_30, l_31, l_32, l_40, l_41, l_48, l_57, l_59, l_64, l_90, l_97, l_99, l_100, l_119, l_122, l_186, l_200, l_255, l_600, l_999, l_1488, l_1000000]
    · simp (disch := omega) only [f_X9_fish, f_X9_catTold, hx, km_of, h5, rd_n, nI_add, xbx_0, xbx_1, xbx_2, xbx_3, th1_0, th1_1, th2_00, th2_01, th2_10, th2_11, th3_000, th3_001, th3_010, th3_011, th3_100, th3_101, th3_110, th3_111, ob_s, xl_s, xb_s, nBt0, nBf0, z10, z01, if_true, if_false, Bool.and_true, Bool.true_and, Bool.and_false, Bool.false_and, m_1, m_1b, l_0, l_1, l_2, l_3, l_4, l_5, l_6, l_7, l_8, l_9, l_10, l_11, l_12, l_13, l_14, l_15, l_16, l_17, l_18, l_19, l_20, l_21, l_22, l_23, l_24, l_30, l_31, l_32, l_40, l_41, l_48, l_57, l_59, l_64, l_90, l_97, l_99, l_100, l_119, l_122, l_186, l_200, l_255, l_600, l_999, l_1488, l_1000000]
theorem q_chimneyOf (g : GI C T) (x : Int32) : OK [(1, 1)] (f_X8_chimneyOf C x) (f_X9_chimneyOf T x) := by
  have g1 := GI_16 (nI 0) g
  have g0 := g
  obtain ⟨u, hc, hm, w, hn, -⟩ := g
  have hm1 : RM (xput T 0 16 (nI 0) 1) u := rm16 hm
  have hx := km_isCat hm w x
  have b0 : u 0 0 ≤ 10 ∧ u 0 3 ≤ 20 ∧ u 0 7 ≤ 8 := by obtain ⟨hB, w0, w3, w7, wN, wk, wg, wc, wd, wo, wv⟩ := w; exact ⟨w0, w3, w7⟩
  cases e : qin x (u 0 7)
  · rw [e] at hx
    exact ok_t g0 1 1 (by decide) (by simp only [f_X8_chimneyOf, n_cat hc e, xbx_0, xbx_1, xbx_2, xbx_3, th1_0, th1_1, th2_00, th2_01, th2_10, th2_11, th3_000, th3_001, th3_010, th3_011, th3_100, th3_101, th3_110, th3_111, ob_s, xl_s, xb_s, nBt0, nBf0, z10, z01, if_true, if_false, Bool.and_true, Bool.true_and, Bool.and_false, Bool.false_and, m_1, m_1b, l_0, l_1, l_2, l_3, l_4, l_5, l_6, l_7, l_8, l_9, l_10, l_11, l_12, l_13, l_14, l_15, l_16, l_17, l_18, l_19, l_20, l_21, l_22, l_23, l_24, l_30, l_31, l_32, l_40, l_41, l_48, l_57, l_59, l_64, l_90, l_97, l_99, l_100, l_119, l_122, l_186, l_200, l_255, l_600, l_999, l_1488, l_1000000]) (by simp only [f_X9_chimneyOf, f_X9_catTold, hx, xbx_0, xbx_1, xbx_2, xbx_3, th1_0, th1_1, th2_00, th2_01, th2_10, th2_11, th3_000, th3_001, th3_010, th3_011, th3_100, th3_101, th3_110, th3_111, ob_s, xl_s, xb_s, nBt0, nBf0, z10, z01, if_true, if_false, Bool.and_true, Bool.true_and, Bool.and_false, Bool.false_and, m_1, m_1b, l_0, l_1, l_2, l_3, l_4, l_5, l_6, l_7, l_8, l_9, l_10, l_11, l_12, l_13, l_14, l_15, l_16, l_17, l_18, l_19, l_20, l_21, l_22, l_23, l_24, l_30, l_31, l_32, l_40, l_41, l_48, l_57, l_59, l_64, l_90, l_97, l_99, l_100, l_119, l_122, l_186, l_200, l_255, l_600, l_999, l_1488, l_1000000])
  · rw [e] at hx
    have ey := y_cat hc e
    obtain ⟨k, hk, rfl⟩ := qin_t (by omega) e
    have h1 : C 7 k = nI (u 6 k) := hc.2.2.2.2.2.2.1 k hk
    have h2 : C 9 k = nI (u 8 k) := hc.2.2.2.2.2.2.2.2.1 k hk
    have h3 : C 10 k = nI (u 9 k) := hc.2.2.2.2.2.2.2.2.2.1 k hk
    have h4 : xput T 0 16 (nI 0) 1 (90 + 4 * k + 0) = nI (u 6 k) := by have h := hm1; obtain ⟨m0, m1, m2, m3, m4, m5, m6, m7, m8, m9, n1, n2, n3, n4, n5, n6, n7, n8, n9, nT⟩ := h; exact n6 k (by omega)
    have h5 : xput T 0 16 (nI 0) 1 (90 + 4 * k + 2) = nI (u 8 k) := by have h := hm1; obtain ⟨m0, m1, m2, m3, m4, m5, m6, m7, m8, m9, n1, n2, n3, n4, n5, n6, n7, n8, n9, nT⟩ := h; exact n8 k (by omega)
    have h6 : xput T 0 16 (nI 0) 1 (90 + 4 * k + 3) = nI (u 9 k) := by have h := hm1; obtain ⟨m0, m1, m2, m3, m4, m5, m6, m7, m8, m9, n1, n2, n3, n4, n5, n6, n7, n8, n9, nT⟩ := h; exact n9 k (by omega)
    refine ok_r (r := nI (u 9 k)) g1 t16 ?_ ?_
    · simp (disch := omega) only [f_X8_chimneyOf, ey, h3, rd_n, xbx_0, xbx_1, xbx_2, xbx_3, th1_0, th1_1, th2_00, th2_01, th2_10, th2_11, th3_000, th3_001, th3_010, th3_011, th3_100, th3_101, th3_110, th3_111, ob_s, xl_s, xb_s, nBt0, nBf0, z10, z01, if_true, if_false, Bool.and_true, Bool.true_and, Bool.and_false, Bool.false_and, m_1, m_1b, l_0, l_1, l_2, l_3, l_4, l_5, l_6, l_7, l_8, l_9, l_10, l_11, l_12, l_13, l_14, l_15, l_16, l_17, l_18, l_19, l_20, l_21, l_22, l_23, l_24, l_30, l_31, l_32, l_40, l_41, l_48, l_57, l_59, l_64, l_90, l_97, l_99, l_100, l_119, l_122, l_186, l_200, l_255, l_600, l_999, l_1488, l_1000000]
    · simp (disch := omega) only [f_X9_chimneyOf, f_X9_catTold, hx, km_of, h6, rd_n, nI_add, xbx_0, xbx_1, xbx_2, xbx_3, th1_0, th1_1, th2_00, th2_01, th2_10, th2_11, th3_000, th3_001, th3_010, th3_011, th3_100, th3_101, th3_110, th3_111, ob_s, xl_s, xb_s, nBt0, nBf0, z10, z01, if_true, if_false, Bool.and_true, Bool.true_and, Bool.and_false, Bool.false_and, m_1, m_1b, l_0, l_1, l_2, l_3, l_4, l_5, l_6, l_7, l_8, l_9, l_10, l_11, l_12, l_13, l_14, l_15, l_16, l_17, l_18, l_19, l_20, l_21, l_22, l_23, l_24, l_30, l_31, l_32, l_40, l_41, l_48, l_57, l_59, l_64, l_90, l_97, l_99, l_100, l_119, l_122, l_186, l_200, l_255, l_600, l_999, l_1488, l_1000000]
theorem q_power (g : GI C T) (x : Int32) : OK [(1, 1)] (f_X8_power C x) (f_X9_power T x) := by
  have g1 := GI_16 (nI 0) g
  have g0 := g
  obtain ⟨u, hc, hm, w, hn, -⟩ := g
  have hm1 : RM (xput T 0 16 (nI 0) 1) u := rm16 hm
  have hx := km_isCat hm w x
  have b0 : u 0 0 ≤ 10 ∧ u 0 3 ≤ 20 ∧ u 0 7 ≤ 8 := by obtain ⟨hB, w0, w3, w7, wN, wk, wg, wc, wd, wo, wv⟩ := w; exact ⟨w0, w3, w7⟩
  cases e : qin x (u 0 7)
  · rw [e] at hx
    exact ok_t g0 1 1 (by decide) (by simp only [f_X8_power, n_cat hc e, xbx_0, xbx_1, xbx_2, xbx_3, th1_0, th1_1, th2_00, th2_01, th2_10, th2_11, th3_000, th3_001, th3_010, th3_011, th3_100, th3_101, th3_110, th3_111, ob_s, xl_s, xb_s, nBt0, nBf0, z10, z01, if_true, if_false, Bool.and_true, Bool.true_and, Bool.and_false, Bool.false_and, m_1, m_1b, l_0, l_1, l_2, l_3, l_4, l_5, l_6, l_7, l_8, l_9, l_10, l_11, l_12, l_13, l_14, l_15, l_16, l_17, l_18, l_19, l_20, l_21, l_22, l_23, l_24, l_30, l_31, l_32, l_40, l_41, l_48, l_57, l_59, l_64, l_90, l_97, l_99, l_100, l_119, l_122, l_186, l_200, l_255, l_600, l_999, l_1488, l_1000000]) (by simp only [f_X9_power, hx, xbx_0, xbx_1, xbx_2, xbx_3, th1_0, th1_1, th2_00, th2_01, th2_10, th2_11, th3_000, th3_001, th3_010, th3_011, th3_100, th3_101, th3_110, th3_111, ob_s, xl_s, xb_s, nBt0, nBf0, z10, z01, if_true, if_false, Bool.and_true, Bool.true_and, Bool.and_false, Bool.false_and, m_1, m_1b, l_0, l_1, l_2, l_3, l_4, l_5, l_6, l_7, l_8, l_9, l_10, l_11, l_12, l_13, l_14, l_15, l_16, l_17, l_18, l_19, l_20, l_21, l_22, l_23, l_24, l_30, l_31, l_32, l_40, l_41, l_48, l_57, l_59, l_64, l_90, l_97, l_99, l_100, l_119, l_122, l_186, l_200, l_255, l_600, l_999, l_1488, l_1000000])
  · rw [e] at hx
    have ey := y_cat hc e
    obtain ⟨k, hk, rfl⟩ := qin_t (by omega) e
    have h1 := kc_might hc w hk
    have h2 := km_power hm1 w hk
    refine ok_r (r := nI (qpow u k)) g1 t16 ?_ ?_
    · simp (disch := omega) only [f_X8_power, ey, h1, rd_n, xbx_0, xbx_1, xbx_2, xbx_3, th1_0, th1_1, th2_00, th2_01, th2_10, th2_11, th3_000, th3_001, th3_010, th3_011, th3_100, th3_101, th3_110, th3_111, ob_s, xl_s, xb_s, nBt0, nBf0, z10, z01, if_true, if_false, Bool.and_true, Bool.true_and, Bool.and_false, Bool.false_and, m_1, m_1b, l_0, l_1, l_2, l_3, l_4, l_5, l_6, l_7, l_8, l_9, l_10, l_11, l_12, l_13, l_14, l_15, l_16, l_17, l_18, l_19, l_20, l_21, l_22, l_23, l_24, l_30, l_31, l_32, l_40, l_41, l_48, l_57, l_59, l_64, l_90, l_97, l_99, l_100, l_119, l_122, l_186, l_200, l_255, l_600, l_999, l_1488, l_1000000]
    · simp (disch := omega) only [f_X9_power, hx, h2, rd_n, nI_add, xbx_0, xbx_1, xbx_2, xbx_3, th1_0, th1_1, th2_00, th2_01, th2_10, th2_11, th3_000, th3_001, th3_010, th3_011, th3_100, th3_101, th3_110, th3_111, ob_s, xl_s, xb_s, nBt0, nBf0, z10, z01, if_true, if_false, Bool.and_true, Bool.true_and, Bool.and_false, Bool.false_and, m_1, m_1b, l_0, l_1, l_2, l_3, l_4, l_5, l_6, l_7, l_8, l_9, l_10, l_11, l_12, l_13, l_14, l_15, l_16, l_17, l_18, l_19, l_20, l_21, l_22, l_23, l_24, l_30, l_31, l_32, l_40, l_41, l_48, l_57, l_59, l_64, l_90, l_97, l_99, l_100, l_119, l_122, l_186, l_200, l_255, l_600, l_999, l_1488, l_1000000]
theorem q_ownedChimneys (g : GI C T) (x : Int32) : OK [(1, 1)] (f_X8_ownedChimneys C x) (f_X9_ownedChimneys T x) := by
  have g1 := GI_16 (nI 0) g
  have g0 := g
  obtain ⟨u, hc, hm, w, hn, -⟩ := g
  have hm1 : RM (xput T 0 16 (nI 0) 1) u := rm16 hm
  have hx := km_isCat hm w x
  have b0 : u 0 0 ≤ 10 ∧ u 0 3 ≤ 20 ∧ u 0 7 ≤ 8 := by obtain ⟨hB, w0, w3, w7, wN, wk, wg, wc, wd, wo, wv⟩ := w; exact ⟨w0, w3, w7⟩
  cases e : qin x (u 0 7)
  · rw [e] at hx
    exact ok_t g0 1 1 (by decide) (by simp only [f_X8_ownedChimneys, n_cat hc e, xbx_0, xbx_1, xbx_2, xbx_3, th1_0, th1_1, th2_00, th2_01, th2_10, th2_11, th3_000, th3_001, th3_010, th3_011, th3_100, th3_101, th3_110, th3_111, ob_s, xl_s, xb_s, nBt0, nBf0, z10, z01, if_true, if_false, Bool.and_true, Bool.true_and, Bool.and_false, Bool.false_and, m_1, m_1b, l_0, l_1, l_2, l_3, l_4, l_5, l_6, l_7, l_8, l_9, l_10, l_11, l_12, l_13, l_14, l_15, l_16, l_17, l_18, l_19, l_20, l_21, l_22, l_23, l_24, l_30, l_31, l_32, l_40, l_41, l_48, l_57, l_59, l_64, l_90, l_97, l_99, l_100, l_119, l_122, l_186, l_200, l_255, l_600, l_999, l_1488, l_1000000]) (by simp only [f_X9_ownedChimneys, hx, xbx_0, xbx_1, xbx_2, xbx_3, th1_0, th1_1, th2_00, th2_01, th2_10, th2_11, th3_000, th3_001, th3_010, th3_011, th3_100, th3_101, th3_110, th3_111, ob_s, xl_s, xb_s, nBt0, nBf0, z10, z01, if_true, if_false, Bool.and_true, Bool.true_and, Bool.and_false, Bool.false_and, m_1, m_1b, l_0, l_1, l_2, l_3, l_4, l_5, l_6, l_7, l_8, l_9, l_10, l_11, l_12, l_13, l_14, l_15, l_16, l_17, l_18, l_19, l_20, l_21, l_22, l_23, l_24, l_30, l_31, l_32, l_40, l_41, l_48, l_57, l_59, l_64, l_90, l_97, l_99, l_100, l_119, l_122, l_186, l_200, l_255, l_600, l_999, l_1488, l_1000000])
  · rw [e] at hx
    have ey := y_cat hc e
    obtain ⟨k, hk, rfl⟩ := qin_t (by omega) e
    have h1 := kc_estate hc w (c := k) (by omega)
    refine ok_r (r := nI (qest u k)) g1 t16 ?_ ?_
    · simp (disch := omega) only [f_X8_ownedChimneys, ey, h1, rd_n, xbx_0, xbx_1, xbx_2, xbx_3, th1_0, th1_1, th2_00, th2_01, th2_10, th2_11, th3_000, th3_001, th3_010, th3_011, th3_100, th3_101, th3_110, th3_111, ob_s, xl_s, xb_s, nBt0, nBf0, z10, z01, if_true, if_false, Bool.and_true, Bool.true_and, Bool.and_false, Bool.false_and, m_1, m_1b, l_0, l_1, l_2, l_3, l_4, l_5, l_6, l_7, l_8, l_9, l_10, l_11, l_12, l_13, l_14, l_15, l_16, l_17, l_18, l_19, l_20, l_21, l_22, l_23, l_24, l_30, l_31, l_32, l_40, l_41, l_48, l_57, l_59, l_64, l_90, l_97, l_99, l_100, l_119, l_122, l_186, l_200, l_255, l_600, l_999, l_1488, l_1000000]
    · simp (disch := omega) only [f_X9_ownedChimneys, hx, km_estate hm1 w (show k < 8 by omega), rd_n, nI_add, xbx_0, xbx_1, xbx_2, xbx_3, th1_0, th1_1, th2_00, th2_01, th2_10, th2_11, th3_000, th3_001, th3_010, th3_011, th3_100, th3_101, th3_110, th3_111, ob_s, xl_s, xb_s, nBt0, nBf0, z10, z01, if_true, if_false, Bool.and_true, Bool.true_and, Bool.and_false, Bool.false_and, m_1, m_1b, l_0, l_1, l_2, l_3, l_4, l_5, l_6, l_7, l_8, l_9, l_10, l_11, l_12, l_13, l_14, l_15, l_16, l_17, l_18, l_19, l_20, l_21, l_22, l_23, l_24, l_30, l_31, l_32, l_40, l_41, l_48, l_57, l_59, l_64, l_90, l_97, l_99, l_100, l_119, l_122, l_186, l_200, l_255, l_600, l_999, l_1488, l_1000000]
theorem q_whyNoClaim (g : GI C T) (x : Int32) : OK [(1, 1)] (f_X8_whyNoClaim C x) (f_X9_whyNoClaim T x) := by
  have g1 := GI_16 (nI 0) g
  have g0 := g
  obtain ⟨u, hc, hm, w, hn, -⟩ := g
  have hm1 : RM (xput T 0 16 (nI 0) 1) u := rm16 hm
  have hx := km_isCat hm w x
  have b0 : u 0 0 ≤ 10 ∧ u 0 3 ≤ 20 ∧ u 0 7 ≤ 8 := by obtain ⟨hB, w0, w3, w7, wN, wk, wg, wc, wd, wo, wv⟩ := w; exact ⟨w0, w3, w7⟩
  cases e : qin x (u 0 7)
  · rw [e] at hx
    exact ok_t g0 1 1 (by decide) (by simp only [f_X8_whyNoClaim, n_cat hc e, xbx_0, xbx_1, xbx_2, xbx_3, th1_0, th1_1, th2_00, th2_01, th2_10, th2_11, th3_000, th3_001, th3_010, th3_011, th3_100, th3_101, th3_110, th3_111, ob_s, xl_s, xb_s, nBt0, nBf0, z10, z01, if_true, if_false, Bool.and_true, Bool.true_and, Bool.and_false, Bool.false_and, m_1, m_1b, l_0, l_1, l_2, l_3, l_4, l_5, l_6, l_7, l_8, l_9, l_10, l_11, l_12, l_13, l_14, l_15, l_16, l_17, l_18, l_19, l_20, l_21, l_22, l_23, l_24, l_30, l_31, l_32, l_40, l_41, l_48, l_57, l_59, l_64, l_90, l_97, l_99, l_100, l_119, l_122, l_186, l_200, l_255, l_600, l_999, l_1488, l_1000000]) (by simp only [f_X9_whyNoClaim, hx, xbx_0, xbx_1, xbx_2, xbx_3, th1_0, th1_1, th2_00, th2_01, th2_10, th2_11, th3_000, th3_001, th3_010, th3_011, th3_100, th3_101, th3_110, th3_111, ob_s, xl_s, xb_s, nBt0, nBf0, z10, z01, if_true, if_false, Bool.and_true, Bool.true_and, Bool.and_false, Bool.false_and, m_1, m_1b, l_0, l_1, l_2, l_3, l_4, l_5, l_6, l_7, l_8, l_9, l_10, l_11, l_12, l_13, l_14, l_15, l_16, l_17, l_18, l_19, l_20, l_21, l_22, l_23, l_24, l_30, l_31, l_32, l_40, l_41, l_48, l_57, l_59, l_64, l_90, l_97, l_99, l_100, l_119, l_122, l_186, l_200, l_255, l_600, l_999, l_1488, l_1000000])
  · rw [e] at hx
    have ey := y_cat hc e
    obtain ⟨k, hk, rfl⟩ := qin_t (by omega) e
    have h1 := kc_claim hc w hk
    have h2 := km_claim hm1 w hk
    refine ok_r (r := nI (qclaim u k)) g1 t16 ?_ ?_
    · simp (disch := omega) only [f_X8_whyNoClaim, ey, h1, rd_n, xbx_0, xbx_1, xbx_2, xbx_3, th1_0, th1_1, th2_00, th2_01, th2_10, th2_11, th3_000, th3_001, th3_010, th3_011, th3_100, th3_101, th3_110, th3_111, ob_s, xl_s, xb_s, nBt0, nBf0, z10, z01, if_true, if_false, Bool.and_true, Bool.true_and, Bool.and_false, Bool.false_and, m_1, m_1b, l_0, l_1, l_2, l_3, l_4, l_5, l_6, l_7, l_8, l_9, l_10, l_11, l_12, l_13, l_14, l_15, l_16, l_17, l_18, l_19, l_20, l_21, l_22, l_23, l_24, l_30, l_31, l_32, l_40, l_41, l_48, l_57, l_59, l_64, l_90, l_97, l_99, l_100, l_119, l_122, l_186, l_200, l_255, l_600, l_999, l_1488, l_1000000]
    · simp (disch := omega) only [f_X9_whyNoClaim, hx, h2, rd_n, nI_add, xbx_0, xbx_1, xbx_2, xbx_3, th1_0, th1_1, th2_00, th2_01, th2_10, th2_11, th3_000, th3_001, th3_010, th3_011, th3_100, th3_101, th3_110, th3_111, ob_s, xl_s, xb_s, nBt0, nBf0, z10, z01, if_true, if_false, Bool.and_true, Bool.true_and, Bool.and_false, Bool.false_and, m_1, m_1b, l_0, l_1, l_2, l_3, l_4, l_5, l_6, l_7, l_8, l_9, l_10, l_11, l_12, l_13, l_14, l_15, l_16, l_17, l_18, l_19, l_20, l_21, l_22, l_23, l_24, l_30, l_31, l_32, l_40, l_41, l_48, l_57, l_59, l_64, l_90, l_97, l_99, l_100, l_119, l_122, l_186, l_200, l_255, l_600, l_999, l_1488, l_1000000]
theorem q_openGutters (g : GI C T) (x : Int32) : OK [(1, 1)] (f_X8_openGutters C x) (f_X9_openGutters T x) := by
  have g1 := GI_16 (nI 0) g
  have g0 := g
  obtain ⟨u, hc, hm, w, hn, -⟩ := g
  have hm1 : RM (xput T 0 16 (nI 0) 1) u := rm16 hm
  have hx := km_isCat hm w x
  have b0 : u 0 0 ≤ 10 ∧ u 0 3 ≤ 20 ∧ u 0 7 ≤ 8 := by obtain ⟨hB, w0, w3, w7, wN, wk, wg, wc, wd, wo, wv⟩ := w; exact ⟨w0, w3, w7⟩
  cases e : qin x (u 0 7)
  · rw [e] at hx
    exact ok_t g0 1 1 (by decide) (by simp only [f_X8_openGutters, n_cat hc e, xbx_0, xbx_1, xbx_2, xbx_3, th1_0, th1_1, th2_00, th2_01, th2_10, th2_11, th3_000, th3_001, th3_010, th3_011, th3_100, th3_101, th3_110, th3_111, ob_s, xl_s, xb_s, nBt0, nBf0, z10, z01, if_true, if_false, Bool.and_true, Bool.true_and, Bool.and_false, Bool.false_and, m_1, m_1b, l_0, l_1, l_2, l_3, l_4, l_5, l_6, l_7, l_8, l_9, l_10, l_11, l_12, l_13, l_14, l_15, l_16, l_17, l_18, l_19, l_20, l_21, l_22, l_23, l_24, l_30, l_31, l_32, l_40, l_41, l_48, l_57, l_59, l_64, l_90, l_97, l_99, l_100, l_119, l_122, l_186, l_200, l_255, l_600, l_999, l_1488, l_1000000]) (by simp only [f_X9_openGutters, hx, xbx_0, xbx_1, xbx_2, xbx_3, th1_0, th1_1, th2_00, th2_01, th2_10, th2_11, th3_000, th3_001, th3_010, th3_011, th3_100, th3_101, th3_110, th3_111, ob_s, xl_s, xb_s, nBt0, nBf0, z10, z01, if_true, if_false, Bool.and_true, Bool.true_and, Bool.and_false, Bool.false_and, m_1, m_1b, l_0, l_1, l_2, l_3, l_4, l_5, l_6, l_7, l_8, l_9, l_10, l_11, l_12, l_13, l_14, l_15, l_16, l_17, l_18, l_19, l_20, l_21, l_22, l_23, l_24, l_30, l_31, l_32, l_40, l_41, l_48, l_57, l_59, l_64, l_90, l_97, l_99, l_100, l_119, l_122, l_186, l_200, l_255, l_600, l_999, l_1488, l_1000000])
  · rw [e] at hx
    have ey := y_cat hc e
    obtain ⟨k, hk, rfl⟩ := qin_t (by omega) e
    refine ok_r (r := nI (qopen u k)) g1 t16 ?_ ?_
    · simp (disch := omega) only [f_X8_openGutters, ey, kc_open hc w hk, rd_n, xbx_0, xbx_1, xbx_2, xbx_3, th1_0, th1_1, th2_00, th2_01, th2_10, th2_11, th3_000, th3_001, th3_010, th3_011, th3_100, th3_101, th3_110, th3_111, ob_s, xl_s, xb_s, nBt0, nBf0, z10, z01, if_true, if_false, Bool.and_true, Bool.true_and, Bool.and_false, Bool.false_and, m_1, m_1b, l_0, l_1, l_2, l_3, l_4, l_5, l_6, l_7, l_8, l_9, l_10, l_11, l_12, l_13, l_14, l_15, l_16, l_17, l_18, l_19, l_20, l_21, l_22, l_23, l_24, l_30, l_31, l_32, l_40, l_41, l_48, l_57, l_59, l_64, l_90, l_97, l_99, l_100, l_119, l_122, l_186, l_200, l_255, l_600, l_999, l_1488, l_1000000]
    · simp (disch := omega) only [f_X9_openGutters, hx, km_open hm1 w hk, rd_n, nI_add, xbx_0, xbx_1, xbx_2, xbx_3, th1_0, th1_1, th2_00, th2_01, th2_10, th2_11, th3_000, th3_001, th3_010, th3_011, th3_100, th3_101, th3_110, th3_111, ob_s, xl_s, xb_s, nBt0, nBf0, z10, z01, if_true, if_false, Bool.and_true, Bool.true_and, Bool.and_false, Bool.false_and, m_1, m_1b, l_0, l_1, l_2, l_3, l_4, l_5, l_6, l_7, l_8, l_9, l_10, l_11, l_12, l_13, l_14, l_15, l_16, l_17, l_18, l_19, l_20, l_21, l_22, l_23, l_24, l_30, l_31, l_32, l_40, l_41, l_48, l_57, l_59, l_64, l_90, l_97, l_99, l_100, l_119, l_122, l_186, l_200, l_255, l_600, l_999, l_1488, l_1000000]
theorem q_preyOf (g : GI C T) (x : Int32) : OK [(1, 1)] (f_X8_preyOf C x) (f_X9_preyOf T x) := by
  have g1 := GI_16 (nI 0) g
  have g0 := g
  obtain ⟨u, hc, hm, w, hn, -⟩ := g
  have hm1 : RM (xput T 0 16 (nI 0) 1) u := rm16 hm
  have hx := km_isCat hm w x
  have b0 : u 0 0 ≤ 10 ∧ u 0 3 ≤ 20 ∧ u 0 7 ≤ 8 := by obtain ⟨hB, w0, w3, w7, wN, wk, wg, wc, wd, wo, wv⟩ := w; exact ⟨w0, w3, w7⟩
  cases e : qin x (u 0 7)
  · rw [e] at hx
    exact ok_t g0 1 1 (by decide) (by simp only [f_X8_preyOf, n_cat hc e, xbx_0, xbx_1, xbx_2, xbx_3, th1_0, th1_1, th2_00, th2_01, th2_10, th2_11, th3_000, th3_001, th3_010, th3_011, th3_100, th3_101, th3_110, th3_111, ob_s, xl_s, xb_s, nBt0, nBf0, z10, z01, if_true, if_false, Bool.and_true, Bool.true_and, Bool.and_false, Bool.false_and, m_1, m_1b, l_0, l_1, l_2, l_3, l_4, l_5, l_6, l_7, l_8, l_9, l_10, l_11, l_12, l_13, l_14, l_15, l_16, l_17, l_18, l_19, l_20, l_21, l_22, l_23, l_24, l_30, l_31, l_32, l_40, l_41, l_48, l_57, l_59, l_64, l_90, l_97, l_99, l_100, l_119, l_122, l_186, l_200, l_255, l_600, l_999, l_1488, l_1000000]) (by simp only [f_X9_preyOf, hx, xbx_0, xbx_1, xbx_2, xbx_3, th1_0, th1_1, th2_00, th2_01, th2_10, th2_11, th3_000, th3_001, th3_010, th3_011, th3_100, th3_101, th3_110, th3_111, ob_s, xl_s, xb_s, nBt0, nBf0, z10, z01, if_true, if_false, Bool.and_true, Bool.true_and, Bool.and_false, Bool.false_and, m_1, m_1b, l_0, l_1, l_2, l_3, l_4, l_5, l_6, l_7, l_8, l_9, l_10, l_11, l_12, l_13, l_14, l_15, l_16, l_17, l_18, l_19, l_20, l_21, l_22, l_23, l_24, l_30, l_31, l_32, l_40, l_41, l_48, l_57, l_59, l_64, l_90, l_97, l_99, l_100, l_119, l_122, l_186, l_200, l_255, l_600, l_999, l_1488, l_1000000])
  · rw [e] at hx
    have ey := y_cat hc e
    obtain ⟨k, hk, rfl⟩ := qin_t (by omega) e
    refine ok_r (r := nI (qprey u k)) g1 t16 ?_ ?_
    · simp (disch := omega) only [f_X8_preyOf, ey, kc_prey hc w hk, rd_n, xbx_0, xbx_1, xbx_2, xbx_3, th1_0, th1_1, th2_00, th2_01, th2_10, th2_11, th3_000, th3_001, th3_010, th3_011, th3_100, th3_101, th3_110, th3_111, ob_s, xl_s, xb_s, nBt0, nBf0, z10, z01, if_true, if_false, Bool.and_true, Bool.true_and, Bool.and_false, Bool.false_and, m_1, m_1b, l_0, l_1, l_2, l_3, l_4, l_5, l_6, l_7, l_8, l_9, l_10, l_11, l_12, l_13, l_14, l_15, l_16, l_17, l_18, l_19, l_20, l_21, l_22, l_23, l_24, l_30, l_31, l_32, l_40, l_41, l_48, l_57, l_59, l_64, l_90, l_97, l_99, l_100, l_119, l_122, l_186, l_200, l_255, l_600, l_999, l_1488, l_1000000]
    · simp (disch := omega) only [f_X9_preyOf, hx, km_prey hm1 w hk, rd_n, nI_add, xbx_0, xbx_1, xbx_2, xbx_3, th1_0, th1_1, th2_00, th2_01, th2_10, th2_11, th3_000, th3_001, th3_010, th3_011, th3_100, th3_101, th3_110, th3_111, ob_s, xl_s, xb_s, nBt0, nBf0, z10, z01, if_true, if_false, Bool.and_true, Bool.true_and, Bool.and_false, Bool.false_and, m_1, m_1b, l_0, l_1, l_2, l_3, l_4, l_5, l_6, l_7, l_8, l_9, l_10, l_11, l_12, l_13, l_14, l_15, l_16, l_17, l_18, l_19, l_20, l_21, l_22, l_23, l_24, l_30, l_31, l_32, l_40, l_41, l_48, l_57, l_59, l_64, l_90, l_97, l_99, l_100, l_119, l_122, l_186, l_200, l_255, l_600, l_999, l_1488, l_1000000]
theorem q_choirOf (g : GI C T) (x : Int32) : OK [(1, 1)] (f_X8_choirOf C x) (f_X9_choirOf T x) := by
  have g1 := GI_16 (nI 0) g
  have g0 := g
  obtain ⟨u, hc, hm, w, hn, -⟩ := g
  have hm1 : RM (xput T 0 16 (nI 0) 1) u := rm16 hm
  have hx := km_isCat hm w x
  have b0 : u 0 0 ≤ 10 ∧ u 0 3 ≤ 20 ∧ u 0 7 ≤ 8 := by obtain ⟨hB, w0, w3, w7, wN, wk, wg, wc, wd, wo, wv⟩ := w; exact ⟨w0, w3, w7⟩
  cases e : qin x (u 0 7)
  · rw [e] at hx
    exact ok_t g0 1 1 (by decide) (by simp only [f_X8_choirOf, n_cat hc e, xbx_0, xbx_1, xbx_2, xbx_3, th1_0, th1_1, th2_00, th2_01, th2_10, th2_11, th3_000, th3_001, th3_010, th3_011, th3_100, th3_101, th3_110, th3_111, ob_s, xl_s, xb_s, nBt0, nBf0, z10, z01, if_true, if_false, Bool.and_true, Bool.true_and, Bool.and_false, Bool.false_and, m_1, m_1b, l_0, l_1, l_2, l_3, l_4, l_5, l_6, l_7, l_8, l_9, l_10, l_11, l_12, l_13, l_14, l_15, l_16, l_17, l_18, l_19, l_20, l_21, l_22, l_23, l_24, l_30, l_31, l_32, l_40, l_41, l_48, l_57, l_59, l_64, l_90, l_97, l_99, l_100, l_119, l_122, l_186, l_200, l_255, l_600, l_999, l_1488, l_1000000]) (by simp only [f_X9_choirOf, hx, xbx_0, xbx_1, xbx_2, xbx_3, th1_0, th1_1, th2_00, th2_01, th2_10, th2_11, th3_000, th3_001, th3_010, th3_011, th3_100, th3_101, th3_110, th3_111, ob_s, xl_s, xb_s, nBt0, nBf0, z10, z01, if_true, if_false, Bool.and_true, Bool.true_and, Bool.and_false, Bool.false_and, m_1, m_1b, l_0, l_1, l_2, l_3, l_4, l_5, l_6, l_7, l_8, l_9, l_10, l_11, l_12, l_13, l_14, l_15, l_16, l_17, l_18, l_19, l_20, l_21, l_22, l_23, l_24, l_30, l_31, l_32, l_40, l_41, l_48, l_57, l_59, l_64, l_90, l_97, l_99, l_100, l_119, l_122, l_186, l_200, l_255, l_600, l_999, l_1488, l_1000000])
  · rw [e] at hx
    have ey := y_cat hc e
    obtain ⟨k, hk, rfl⟩ := qin_t (by omega) e
    have h1 := kc_choir hc w hk
    have h2 := km_choir hm1 w hk
    refine ok_r (r := nI (qch u k)) g1 t16 ?_ ?_
    · simp (disch := omega) only [f_X8_choirOf, ey, h1, rd_n, xbx_0, xbx_1, xbx_2, xbx_3, th1_0, th1_1, th2_00, th2_01, th2_10, th2_11, th3_000, th3_001, th3_010, th3_011, th3_100, th3_101, th3_110, th3_111, ob_s, xl_s, xb_s, nBt0, nBf0, z10, z01, if_true, if_false, Bool.and_true, Bool.true_and, Bool.and_false, Bool.false_and, m_1, m_1b, l_0, l_1, l_2, l_3, l_4, l_5, l_6, l_7, l_8, l_9, l_10, l_11, l_12, l_13, l_14, l_15, l_16, l_17, l_18, l_19, l_20, l_21, l_22, l_23, l_24, l_30, l_31, l_32, l_40, l_41, l_48, l_57, l_59, l_64, l_90, l_97, l_99, l_100, l_119, l_122, l_186, l_200, l_255, l_600, l_999, l_1488, l_1000000]
    · simp (disch := omega) only [f_X9_choirOf, hx, h2, rd_n, nI_add, xbx_0, xbx_1, xbx_2, xbx_3, th1_0, th1_1, th2_00, th2_01, th2_10, th2_11, th3_000, th3_001, th3_010, th3_011, th3_100, th3_101, th3_110, th3_111, ob_s, xl_s, xb_s, nBt0, nBf0, z10, z01, if_true, if_false, Bool.and_true, Bool.true_and, Bool.and_false, Bool.false_and, m_1, m_1b, l_0, l_1, l_2, l_3, l_4, l_5, l_6, l_7, l_8, l_9, l_10, l_11, l_12, l_13, l_14, l_15, l_16, l_17, l_18, l_19, l_20, l_21, l_22, l_23, l_24, l_30, l_31, l_32, l_40, l_41, l_48, l_57, l_59, l_64, l_90, l_97, l_99, l_100, l_119, l_122, l_186, l_200, l_255, l_600, l_999, l_1488, l_1000000]
theorem q_hasVoted (g : GI C T) (x : Int32) : OK [(1, 1)] (f_X8_hasVoted C x) (f_X9_hasVoted T x) := by
  have g1 := GI_16 (nI 0) g
  have g0 := g
  obtain ⟨u, hc, hm, w, hn, -⟩ := g
  have hm1 : RM (xput T 0 16 (nI 0) 1) u := rm16 hm
  have hx := km_isCat hm w x
  have b0 : u 0 0 ≤ 10 ∧ u 0 3 ≤ 20 ∧ u 0 7 ≤ 8 := by obtain ⟨hB, w0, w3, w7, wN, wk, wg, wc, wd, wo, wv⟩ := w; exact ⟨w0, w3, w7⟩
  cases e : qin x (u 0 7)
  · rw [e] at hx
    exact ok_t g0 1 1 (by decide) (by simp only [f_X8_hasVoted, n_cat hc e, xbx_0, xbx_1, xbx_2, xbx_3, th1_0, th1_1, th2_00, th2_01, th2_10, th2_11, th3_000, th3_001, th3_010, th3_011, th3_100, th3_101, th3_110, th3_111, ob_s, xl_s, xb_s, nBt0, nBf0, z10, z01, if_true, if_false, Bool.and_true, Bool.true_and, Bool.and_false, Bool.false_and, m_1, m_1b, l_0, l_1, l_2, l_3, l_4, l_5, l_6, l_7, l_8, l_9, l_10, l_11, l_12, l_13, l_14, l_15, l_16, l_17, l_18, l_19, l_20, l_21, l_22, l_23, l_24, l_30, l_31, l_32, l_40, l_41, l_48, l_57, l_59, l_64, l_90, l_97, l_99, l_100, l_119, l_122, l_186, l_200, l_255, l_600, l_999, l_1488, l_1000000]) (by simp only [f_X9_hasVoted, hx, xbx_0, xbx_1, xbx_2, xbx_3, th1_0, th1_1, th2_00, th2_01, th2_10, th2_11, th3_000, th3_001, th3_010, th3_011, th3_100, th3_101, th3_110, th3_111, ob_s, xl_s, xb_s, nBt0, nBf0, z10, z01, if_true, if_false, Bool.and_true, Bool.true_and, Bool.and_false, Bool.false_and, m_1, m_1b, l_0, l_1, l_2, l_3, l_4, l_5, l_6, l_7, l_8, l_9, l_10, l_11, l_12, l_13, l_14, l_15, l_16, l_17, l_18, l_19, l_20, l_21, l_22, l_23, l_24, l_30, l_31, l_32, l_40, l_41, l_48, l_57, l_59, l_64, l_90, l_97, l_99, l_100, l_119, l_122, l_186, l_200, l_255, l_600, l_999, l_1488, l_1000000])
  · rw [e] at hx
    have ey := y_cat hc e
    obtain ⟨k, hk, rfl⟩ := qin_t (by omega) e
    have h1 : C 13 k = nI (qb u k) := hc.2.2.2.2.2.2.2.2.2.2.2.2.2 k (by omega)
    have h2 : T 1 6 = nI (u 12 0) := hm.2.2.2.2.2.2.1
    have h12 := (m12 w).1
    have h3 : (nI (qb u k) = nI 0) = ((u 12 0).testBit k = false) := propext (by
      unfold qb
      cases (u 12 0).testBit k
      · exact ⟨fun _ => rfl, fun _ => rfl⟩
      · cases (u 12 1).testBit k <;> exact ⟨fun q => by revert q; decide, fun q => by cases q⟩)
    refine ok_r (r := nB ((u 12 0).testBit k)) g1 t16 ?_ ?_
    · simp (disch := omega) only [f_X8_hasVoted, ey, h1, h3, rd_n, xbx_0, xbx_1, xbx_2, xbx_3, th1_0, th1_1, th2_00, th2_01, th2_10, th2_11, th3_000, th3_001, th3_010, th3_011, th3_100, th3_101, th3_110, th3_111, ob_s, xl_s, xb_s, nBt0, nBf0, z10, z01, if_true, if_false, Bool.and_true, Bool.true_and, Bool.and_false, Bool.false_and, m_1, m_1b, l_0, l_1, l_2, l_3, l_4, l_5, l_6, l_7, l_8, l_9, l_10, l_11, l_12, l_13, l_14, l_15, l_16, l_17, l_18, l_19, l_20, l_21, l_22, l_23, l_24, l_30, l_31, l_32, l_40, l_41, l_48, l_57, l_59, l_64, l_90, l_97, l_99, l_100, l_119, l_122, l_186, l_200, l_255, l_600, l_999, l_1488, l_1000000]
      cases (u 12 0).testBit k
      · rw [if_pos (show false = false from rfl)]; rfl
      · rw [if_neg (show ¬ true = false by decide)]; rfl
    · simp (disch := omega) only [f_X9_hasVoted, hx, r01, h2, bt_n, bt_1, rd_n, nI_add, xbx_0, xbx_1, xbx_2, xbx_3, th1_0, th1_1, th2_00, th2_01, th2_10, th2_11, th3_000, th3_001, th3_010, th3_011, th3_100, th3_101, th3_110, th3_111, ob_s, xl_s, xb_s, nBt0, nBf0, z10, z01, if_true, if_false, Bool.and_true, Bool.true_and, Bool.and_false, Bool.false_and, m_1, m_1b, l_0, l_1, l_2, l_3, l_4, l_5, l_6, l_7, l_8, l_9, l_10, l_11, l_12, l_13, l_14, l_15, l_16, l_17, l_18, l_19, l_20, l_21, l_22, l_23, l_24, l_30, l_31, l_32, l_40, l_41, l_48, l_57, l_59, l_64, l_90, l_97, l_99, l_100, l_119, l_122, l_186, l_200, l_255, l_600, l_999, l_1488, l_1000000]
      cases (u 12 0).testBit k
      · rw [if_neg (show ¬ false = true by decide)]; rfl
      · rw [if_pos (show true = true from rfl)]; rfl
theorem q_reachable (g : GI C T) (x : Int32) : OK [(1, 1)] (f_X8_reachable C x) (f_X9_reachable T x) := by
  have g1 := GI_16 (nI 0) g
  have g0 := g
  obtain ⟨u, hc, hm, w, hn, -⟩ := g
  have hm1 : RM (xput T 0 16 (nI 0) 1) u := rm16 hm
  have hx := km_isCat hm w x
  have b0 : u 0 0 ≤ 10 ∧ u 0 3 ≤ 20 ∧ u 0 7 ≤ 8 := by obtain ⟨hB, w0, w3, w7, wN, wk, wg, wc, wd, wo, wv⟩ := w; exact ⟨w0, w3, w7⟩
  cases e : qin x (u 0 7)
  · rw [e] at hx
    exact ok_t g0 1 1 (by decide) (by simp only [f_X8_reachable, n_cat hc e, xbx_0, xbx_1, xbx_2, xbx_3, th1_0, th1_1, th2_00, th2_01, th2_10, th2_11, th3_000, th3_001, th3_010, th3_011, th3_100, th3_101, th3_110, th3_111, ob_s, xl_s, xb_s, nBt0, nBf0, z10, z01, if_true, if_false, Bool.and_true, Bool.true_and, Bool.and_false, Bool.false_and, m_1, m_1b, l_0, l_1, l_2, l_3, l_4, l_5, l_6, l_7, l_8, l_9, l_10, l_11, l_12, l_13, l_14, l_15, l_16, l_17, l_18, l_19, l_20, l_21, l_22, l_23, l_24, l_30, l_31, l_32, l_40, l_41, l_48, l_57, l_59, l_64, l_90, l_97, l_99, l_100, l_119, l_122, l_186, l_200, l_255, l_600, l_999, l_1488, l_1000000]) (by simp only [f_X9_reachable, hx, xbx_0, xbx_1, xbx_2, xbx_3, th1_0, th1_1, th2_00, th2_01, th2_10, th2_11, th3_000, th3_001, th3_010, th3_011, th3_100, th3_101, th3_110, th3_111, ob_s, xl_s, xb_s, nBt0, nBf0, z10, z01, if_true, if_false, Bool.and_true, Bool.true_and, Bool.and_false, Bool.false_and, m_1, m_1b, l_0, l_1, l_2, l_3, l_4, l_5, l_6, l_7, l_8, l_9, l_10, l_11, l_12, l_13, l_14, l_15, l_16, l_17, l_18, l_19, l_20, l_21, l_22, l_23, l_24, l_30, l_31, l_32, l_40, l_41, l_48, l_57, l_59, l_64, l_90, l_97, l_99, l_100, l_119, l_122, l_186, l_200, l_255, l_600, l_999, l_1488, l_1000000])
  · rw [e] at hx
    have ey := y_cat hc e
    obtain ⟨k, hk, rfl⟩ := qin_t (by omega) e
    have h1 := kc_walkable hc w hk (st := 10) (by decide)
    obtain ⟨T1, e1, e2, e3⟩ := km_walks hm1 w hk
    have hm2 : RM (T1 1) u := by rw [e2 1 (by decide)]; exact hm1
    have g2 : GI C T1 := GI_T (fun x _ _ _ => by rw [e2 0 (by decide)]) (fun a ha => by rw [e2 a (by omega)]) g1
    have t17 : T1 0 16 = nI 0 := by rw [e2 0 (by decide)]; exact t16
    refine ok_r (r := nI (qwk u k 10)) g2 t17 ?_ ?_
    · simp (disch := omega) only [f_X8_reachable, ey, h1, rd_n, xbx_0, xbx_1, xbx_2, xbx_3, th1_0, th1_1, th2_00, th2_01, th2_10, th2_11, th3_000, th3_001, th3_010, th3_011, th3_100, th3_101, th3_110, th3_111, ob_s, xl_s, xb_s, nBt0, nBf0, z10, z01, if_true, if_false, Bool.and_true, Bool.true_and, Bool.and_false, Bool.false_and, m_1, m_1b, l_0, l_1, l_2, l_3, l_4, l_5, l_6, l_7, l_8, l_9, l_10, l_11, l_12, l_13, l_14, l_15, l_16, l_17, l_18, l_19, l_20, l_21, l_22, l_23, l_24, l_30, l_31, l_32, l_40, l_41, l_48, l_57, l_59, l_64, l_90, l_97, l_99, l_100, l_119, l_122, l_186, l_200, l_255, l_600, l_999, l_1488, l_1000000]
    · simp (disch := omega) only [f_X9_reachable, hx, e1, km_reach (T := T1) hm2 w hk e3, rd_n, nI_add, xbx_0, xbx_1, xbx_2, xbx_3, th1_0, th1_1, th2_00, th2_01, th2_10, th2_11, th3_000, th3_001, th3_010, th3_011, th3_100, th3_101, th3_110, th3_111, ob_s, xl_s, xb_s, nBt0, nBf0, z10, z01, if_true, if_false, Bool.and_true, Bool.true_and, Bool.and_false, Bool.false_and, m_1, m_1b, l_0, l_1, l_2, l_3, l_4, l_5, l_6, l_7, l_8, l_9, l_10, l_11, l_12, l_13, l_14, l_15, l_16, l_17, l_18, l_19, l_20, l_21, l_22, l_23, l_24, l_30, l_31, l_32, l_40, l_41, l_48, l_57, l_59, l_64, l_90, l_97, l_99, l_100, l_119, l_122, l_186, l_200, l_255, l_600, l_999, l_1488, l_1000000]
theorem q_truceNights (g : GI C T) (x y : Int32) : OK [(1, 1), (2, 2)] (f_X8_truceNights C x y) (f_X9_truceNights T x y) := by
  have g1 := GI_16 (nI 0) g
  have g0 := g
  obtain ⟨u, hc, hm, w, hn, -⟩ := g
  have hm1 : RM (xput T 0 16 (nI 0) 1) u := rm16 hm
  have hx := km_isCat hm w x
  have hy := km_isCat hm w y
  have ha := m_cats hm w x y
  have b0 : u 0 0 ≤ 10 ∧ u 0 3 ≤ 20 ∧ u 0 7 ≤ 8 := by obtain ⟨hB, w0, w3, w7, wN, wk, wg, wc, wd, wo, wv⟩ := w; exact ⟨w0, w3, w7⟩
  cases e : qin x (u 0 7)
  · rw [e] at hx ha
    exact ok_t g0 1 1 (by decide) (by simp only [f_X8_truceNights, n_cat hc e, xbx_0, xbx_1, xbx_2, xbx_3, th1_0, th1_1, th2_00, th2_01, th2_10, th2_11, th3_000, th3_001, th3_010, th3_011, th3_100, th3_101, th3_110, th3_111, ob_s, xl_s, xb_s, nBt0, nBf0, z10, z01, if_true, if_false, Bool.and_true, Bool.true_and, Bool.and_false, Bool.false_and, m_1, m_1b, l_0, l_1, l_2, l_3, l_4, l_5, l_6, l_7, l_8, l_9, l_10, l_11, l_12, l_13, l_14, l_15, l_16, l_17, l_18, l_19, l_20, l_21, l_22, l_23, l_24, l_30, l_31, l_32, l_40, l_41, l_48, l_57, l_59, l_64, l_90, l_97, l_99, l_100, l_119, l_122, l_186, l_200, l_255, l_600, l_999, l_1488, l_1000000]) (by
      by_cases z : x = y
      · simp only [f_X9_truceNights, ha, if_pos z, xbx_0, xbx_1, xbx_2, xbx_3, th1_0, th1_1, th2_00, th2_01, th2_10, th2_11, th3_000, th3_001, th3_010, th3_011, th3_100, th3_101, th3_110, th3_111, ob_s, xl_s, xb_s, nBt0, nBf0, z10, z01, if_true, if_false, Bool.and_true, Bool.true_and, Bool.and_false, Bool.false_and, m_1, m_1b, l_0, l_1, l_2, l_3, l_4, l_5, l_6, l_7, l_8, l_9, l_10, l_11, l_12, l_13, l_14, l_15, l_16, l_17, l_18, l_19, l_20, l_21, l_22, l_23, l_24, l_30, l_31, l_32, l_40, l_41, l_48, l_57, l_59, l_64, l_90, l_97, l_99, l_100, l_119, l_122, l_186, l_200, l_255, l_600, l_999, l_1488, l_1000000]
      · simp only [f_X9_truceNights, ha, if_neg z, xbx_0, xbx_1, xbx_2, xbx_3, th1_0, th1_1, th2_00, th2_01, th2_10, th2_11, th3_000, th3_001, th3_010, th3_011, th3_100, th3_101, th3_110, th3_111, ob_s, xl_s, xb_s, nBt0, nBf0, z10, z01, if_true, if_false, Bool.and_true, Bool.true_and, Bool.and_false, Bool.false_and, m_1, m_1b, l_0, l_1, l_2, l_3, l_4, l_5, l_6, l_7, l_8, l_9, l_10, l_11, l_12, l_13, l_14, l_15, l_16, l_17, l_18, l_19, l_20, l_21, l_22, l_23, l_24, l_30, l_31, l_32, l_40, l_41, l_48, l_57, l_59, l_64, l_90, l_97, l_99, l_100, l_119, l_122, l_186, l_200, l_255, l_600, l_999, l_1488, l_1000000])
  · cases f : qin y (u 0 7)
    · rw [e] at hx ha
      rw [f] at hy ha
      exact ok_t g0 1 1 (by decide) (by simp only [f_X8_truceNights, y_cat hc e, n_cat hc f, xbx_0, xbx_1, xbx_2, xbx_3, th1_0, th1_1, th2_00, th2_01, th2_10, th2_11, th3_000, th3_001, th3_010, th3_011, th3_100, th3_101, th3_110, th3_111, ob_s, xl_s, xb_s, nBt0, nBf0, z10, z01, if_true, if_false, Bool.and_true, Bool.true_and, Bool.and_false, Bool.false_and, m_1, m_1b, l_0, l_1, l_2, l_3, l_4, l_5, l_6, l_7, l_8, l_9, l_10, l_11, l_12, l_13, l_14, l_15, l_16, l_17, l_18, l_19, l_20, l_21, l_22, l_23, l_24, l_30, l_31, l_32, l_40, l_41, l_48, l_57, l_59, l_64, l_90, l_97, l_99, l_100, l_119, l_122, l_186, l_200, l_255, l_600, l_999, l_1488, l_1000000]) (by
        by_cases z : x = y
        · simp only [f_X9_truceNights, ha, if_pos z, xbx_0, xbx_1, xbx_2, xbx_3, th1_0, th1_1, th2_00, th2_01, th2_10, th2_11, th3_000, th3_001, th3_010, th3_011, th3_100, th3_101, th3_110, th3_111, ob_s, xl_s, xb_s, nBt0, nBf0, z10, z01, if_true, if_false, Bool.and_true, Bool.true_and, Bool.and_false, Bool.false_and, m_1, m_1b, l_0, l_1, l_2, l_3, l_4, l_5, l_6, l_7, l_8, l_9, l_10, l_11, l_12, l_13, l_14, l_15, l_16, l_17, l_18, l_19, l_20, l_21, l_22, l_23, l_24, l_30, l_31, l_32, l_40, l_41, l_48, l_57, l_59, l_64, l_90, l_97, l_99, l_100, l_119, l_122, l_186, l_200, l_255, l_600, l_999, l_1488, l_1000000]
        · simp only [f_X9_truceNights, ha, if_neg z, xbx_0, xbx_1, xbx_2, xbx_3, th1_0, th1_1, th2_00, th2_01, th2_10, th2_11, th3_000, th3_001, th3_010, th3_011, th3_100, th3_101, th3_110, th3_111, ob_s, xl_s, xb_s, nBt0, nBf0, z10, z01, if_true, if_false, Bool.and_true, Bool.true_and, Bool.and_false, Bool.false_and, m_1, m_1b, l_0, l_1, l_2, l_3, l_4, l_5, l_6, l_7, l_8, l_9, l_10, l_11, l_12, l_13, l_14, l_15, l_16, l_17, l_18, l_19, l_20, l_21, l_22, l_23, l_24, l_30, l_31, l_32, l_40, l_41, l_48, l_57, l_59, l_64, l_90, l_97, l_99, l_100, l_119, l_122, l_186, l_200, l_255, l_600, l_999, l_1488, l_1000000])
    · rw [e] at hx ha
      rw [f] at hy ha
      have ex := y_cat hc e
      have ey := y_cat hc f
      by_cases z : x = y
      · exact ok_t g0 2 2 (by decide) (by simp only [f_X8_truceNights, ex, ey, n_two z, xbx_0, xbx_1, xbx_2, xbx_3, th1_0, th1_1, th2_00, th2_01, th2_10, th2_11, th3_000, th3_001, th3_010, th3_011, th3_100, th3_101, th3_110, th3_111, ob_s, xl_s, xb_s, nBt0, nBf0, z10, z01, if_true, if_false, Bool.and_true, Bool.true_and, Bool.and_false, Bool.false_and, m_1, m_1b, l_0, l_1, l_2, l_3, l_4, l_5, l_6, l_7, l_8, l_9, l_10, l_11, l_12, l_13, l_14, l_15, l_16, l_17, l_18, l_19, l_20, l_21, l_22, l_23, l_24, l_30, l_31, l_32, l_40, l_41, l_48, l_57, l_59, l_64, l_90, l_97, l_99, l_100, l_119, l_122, l_186, l_200, l_255, l_600, l_999, l_1488, l_1000000]) (by simp only [f_X9_truceNights, ha, if_pos z, xbx_0, xbx_1, xbx_2, xbx_3, th1_0, th1_1, th2_00, th2_01, th2_10, th2_11, th3_000, th3_001, th3_010, th3_011, th3_100, th3_101, th3_110, th3_111, ob_s, xl_s, xb_s, nBt0, nBf0, z10, z01, if_true, if_false, Bool.and_true, Bool.true_and, Bool.and_false, Bool.false_and, m_1, m_1b, l_0, l_1, l_2, l_3, l_4, l_5, l_6, l_7, l_8, l_9, l_10, l_11, l_12, l_13, l_14, l_15, l_16, l_17, l_18, l_19, l_20, l_21, l_22, l_23, l_24, l_30, l_31, l_32, l_40, l_41, l_48, l_57, l_59, l_64, l_90, l_97, l_99, l_100, l_119, l_122, l_186, l_200, l_255, l_600, l_999, l_1488, l_1000000])
      · have ez := y_two (C := C) z
        have iz : (x = y) = False := propext ⟨z, False.elim⟩
        obtain ⟨a, ha9, rfl⟩ := qin_t (by omega) e
        obtain ⟨b, hb9, rfl⟩ := qin_t (by omega) f
        have hab : a ≠ b := fun q => z (by rw [q])
        have h1 := kc_truce hc w (a := a) (b := b) (by omega) (by omega)
        have h2 := km_truce hm1 w (a := a) (b := b) (by omega) (by omega)
        refine ok_r (r := nI (qtl u a b)) g1 t16 ?_ ?_
        · simp (disch := omega) only [f_X8_truceNights, ex, ey, ez, h1, rd_n, xbx_0, xbx_1, xbx_2, xbx_3, th1_0, th1_1, th2_00, th2_01, th2_10, th2_11, th3_000, th3_001, th3_010, th3_011, th3_100, th3_101, th3_110, th3_111, ob_s, xl_s, xb_s, nBt0, nBf0, z10, z01, if_true, if_false, Bool.and_true, Bool.true_and, Bool.and_false, Bool.false_and, m_1, m_1b, l_0, l_1, l_2, l_3, l_4, l_5, l_6, l_7, l_8, l_9, l_10, l_11, l_12, l_13, l_14, l_15, l_16, l_17, l_18, l_19, l_20, l_21, l_22, l_23, l_24, l_30, l_31, l_32, l_40, l_41, l_48, l_57, l_59, l_64, l_90, l_97, l_99, l_100, l_119, l_122, l_186, l_200, l_255, l_600, l_999, l_1488, l_1000000]
        · simp (disch := omega) only [f_X9_truceNights, ha, iz, h2, rd_n, xbx_0, xbx_1, xbx_2, xbx_3, th1_0, th1_1, th2_00, th2_01, th2_10, th2_11, th3_000, th3_001, th3_010, th3_011, th3_100, th3_101, th3_110, th3_111, ob_s, xl_s, xb_s, nBt0, nBf0, z10, z01, if_true, if_false, Bool.and_true, Bool.true_and, Bool.and_false, Bool.false_and, m_1, m_1b, l_0, l_1, l_2, l_3, l_4, l_5, l_6, l_7, l_8, l_9, l_10, l_11, l_12, l_13, l_14, l_15, l_16, l_17, l_18, l_19, l_20, l_21, l_22, l_23, l_24, l_30, l_31, l_32, l_40, l_41, l_48, l_57, l_59, l_64, l_90, l_97, l_99, l_100, l_119, l_122, l_186, l_200, l_255, l_600, l_999, l_1488, l_1000000]
theorem q_whyNoChase (g : GI C T) (x y : Int32) : OK [(1, 1), (2, 2)] (f_X8_whyNoChase C x y) (f_X9_whyNoChase T x y) := by
  have g1 := GI_16 (nI 0) g
  have g0 := g
  obtain ⟨u, hc, hm, w, hn, -⟩ := g
  have hm1 : RM (xput T 0 16 (nI 0) 1) u := rm16 hm
  have hx := km_isCat hm w x
  have hy := km_isCat hm w y
  have ha := m_cats hm w x y
  have b0 : u 0 0 ≤ 10 ∧ u 0 3 ≤ 20 ∧ u 0 7 ≤ 8 := by obtain ⟨hB, w0, w3, w7, wN, wk, wg, wc, wd, wo, wv⟩ := w; exact ⟨w0, w3, w7⟩
  cases e : qin x (u 0 7)
  · rw [e] at hx ha
    exact ok_t g0 1 1 (by decide) (by simp only [f_X8_whyNoChase, n_cat hc e, xbx_0, xbx_1, xbx_2, xbx_3, th1_0, th1_1, th2_00, th2_01, th2_10, th2_11, th3_000, th3_001, th3_010, th3_011, th3_100, th3_101, th3_110, th3_111, ob_s, xl_s, xb_s, nBt0, nBf0, z10, z01, if_true, if_false, Bool.and_true, Bool.true_and, Bool.and_false, Bool.false_and, m_1, m_1b, l_0, l_1, l_2, l_3, l_4, l_5, l_6, l_7, l_8, l_9, l_10, l_11, l_12, l_13, l_14, l_15, l_16, l_17, l_18, l_19, l_20, l_21, l_22, l_23, l_24, l_30, l_31, l_32, l_40, l_41, l_48, l_57, l_59, l_64, l_90, l_97, l_99, l_100, l_119, l_122, l_186, l_200, l_255, l_600, l_999, l_1488, l_1000000]) (by
      by_cases z : x = y
      · simp only [f_X9_whyNoChase, ha, if_pos z, xbx_0, xbx_1, xbx_2, xbx_3, th1_0, th1_1, th2_00, th2_01, th2_10, th2_11, th3_000, th3_001, th3_010, th3_011, th3_100, th3_101, th3_110, th3_111, ob_s, xl_s, xb_s, nBt0, nBf0, z10, z01, if_true, if_false, Bool.and_true, Bool.true_and, Bool.and_false, Bool.false_and, m_1, m_1b, l_0, l_1, l_2, l_3, l_4, l_5, l_6, l_7, l_8, l_9, l_10, l_11, l_12, l_13, l_14, l_15, l_16, l_17, l_18, l_19, l_20, l_21, l_22, l_23, l_24, l_30, l_31, l_32, l_40, l_41, l_48, l_57, l_59, l_64, l_90, l_97, l_99, l_100, l_119, l_122, l_186, l_200, l_255, l_600, l_999, l_1488, l_1000000]
      · simp only [f_X9_whyNoChase, ha, if_neg z, xbx_0, xbx_1, xbx_2, xbx_3, th1_0, th1_1, th2_00, th2_01, th2_10, th2_11, th3_000, th3_001, th3_010, th3_011, th3_100, th3_101, th3_110, th3_111, ob_s, xl_s, xb_s, nBt0, nBf0, z10, z01, if_true, if_false, Bool.and_true, Bool.true_and, Bool.and_false, Bool.false_and, m_1, m_1b, l_0, l_1, l_2, l_3, l_4, l_5, l_6, l_7, l_8, l_9, l_10, l_11, l_12, l_13, l_14, l_15, l_16, l_17, l_18, l_19, l_20, l_21, l_22, l_23, l_24, l_30, l_31, l_32, l_40, l_41, l_48, l_57, l_59, l_64, l_90, l_97, l_99, l_100, l_119, l_122, l_186, l_200, l_255, l_600, l_999, l_1488, l_1000000])
  · cases f : qin y (u 0 7)
    · rw [e] at hx ha
      rw [f] at hy ha
      exact ok_t g0 1 1 (by decide) (by simp only [f_X8_whyNoChase, y_cat hc e, n_cat hc f, xbx_0, xbx_1, xbx_2, xbx_3, th1_0, th1_1, th2_00, th2_01, th2_10, th2_11, th3_000, th3_001, th3_010, th3_011, th3_100, th3_101, th3_110, th3_111, ob_s, xl_s, xb_s, nBt0, nBf0, z10, z01, if_true, if_false, Bool.and_true, Bool.true_and, Bool.and_false, Bool.false_and, m_1, m_1b, l_0, l_1, l_2, l_3, l_4, l_5, l_6, l_7, l_8, l_9, l_10, l_11, l_12, l_13, l_14, l_15, l_16, l_17, l_18, l_19, l_20, l_21, l_22, l_23, l_24, l_30, l_31, l_32, l_40, l_41, l_48, l_57, l_59, l_64, l_90, l_97, l_99, l_100, l_119, l_122, l_186, l_200, l_255, l_600, l_999, l_1488, l_1000000]) (by
        by_cases z : x = y
        · simp only [f_X9_whyNoChase, ha, if_pos z, xbx_0, xbx_1, xbx_2, xbx_3, th1_0, th1_1, th2_00, th2_01, th2_10, th2_11, th3_000, th3_001, th3_010, th3_011, th3_100, th3_101, th3_110, th3_111, ob_s, xl_s, xb_s, nBt0, nBf0, z10, z01, if_true, if_false, Bool.and_true, Bool.true_and, Bool.and_false, Bool.false_and, m_1, m_1b, l_0, l_1, l_2, l_3, l_4, l_5, l_6, l_7, l_8, l_9, l_10, l_11, l_12, l_13, l_14, l_15, l_16, l_17, l_18, l_19, l_20, l_21, l_22, l_23, l_24, l_30, l_31, l_32, l_40, l_41, l_48, l_57, l_59, l_64, l_90, l_97, l_99, l_100, l_119, l_122, l_186, l_200, l_255, l_600, l_999, l_1488, l_1000000]
        · simp only [f_X9_whyNoChase, ha, if_neg z, xbx_0, xbx_1, xbx_2, xbx_3, th1_0, th1_1, th2_00, th2_01, th2_10, th2_11, th3_000, th3_001, th3_010, th3_011, th3_100, th3_101, th3_110, th3_111, ob_s, xl_s, xb_s, nBt0, nBf0, z10, z01, if_true, if_false, Bool.and_true, Bool.true_and, Bool.and_false, Bool.false_and, m_1, m_1b, l_0, l_1, l_2, l_3, l_4, l_5, l_6, l_7, l_8, l_9, l_10, l_11, l_12, l_13, l_14, l_15, l_16, l_17, l_18, l_19, l_20, l_21, l_22, l_23, l_24, l_30, l_31, l_32, l_40, l_41, l_48, l_57, l_59, l_64, l_90, l_97, l_99, l_100, l_119, l_122, l_186, l_200, l_255, l_600, l_999, l_1488, l_1000000])
    · rw [e] at hx ha
      rw [f] at hy ha
      have ex := y_cat hc e
      have ey := y_cat hc f
      by_cases z : x = y
      · exact ok_t g0 2 2 (by decide) (by simp only [f_X8_whyNoChase, ex, ey, n_two z, xbx_0, xbx_1, xbx_2, xbx_3, th1_0, th1_1, th2_00, th2_01, th2_10, th2_11, th3_000, th3_001, th3_010, th3_011, th3_100, th3_101, th3_110, th3_111, ob_s, xl_s, xb_s, nBt0, nBf0, z10, z01, if_true, if_false, Bool.and_true, Bool.true_and, Bool.and_false, Bool.false_and, m_1, m_1b, l_0, l_1, l_2, l_3, l_4, l_5, l_6, l_7, l_8, l_9, l_10, l_11, l_12, l_13, l_14, l_15, l_16, l_17, l_18, l_19, l_20, l_21, l_22, l_23, l_24, l_30, l_31, l_32, l_40, l_41, l_48, l_57, l_59, l_64, l_90, l_97, l_99, l_100, l_119, l_122, l_186, l_200, l_255, l_600, l_999, l_1488, l_1000000]) (by simp only [f_X9_whyNoChase, ha, if_pos z, xbx_0, xbx_1, xbx_2, xbx_3, th1_0, th1_1, th2_00, th2_01, th2_10, th2_11, th3_000, th3_001, th3_010, th3_011, th3_100, th3_101, th3_110, th3_111, ob_s, xl_s, xb_s, nBt0, nBf0, z10, z01, if_true, if_false, Bool.and_true, Bool.true_and, Bool.and_false, Bool.false_and, m_1, m_1b, l_0, l_1, l_2, l_3, l_4, l_5, l_6, l_7, l_8, l_9, l_10, l_11, l_12, l_13, l_14, l_15, l_16, l_17, l_18, l_19, l_20, l_21, l_22, l_23, l_24, l_30, l_31, l_32, l_40, l_41, l_48, l_57, l_59, l_64, l_90, l_97, l_99, l_100, l_119, l_122, l_186, l_200, l_255, l_600, l_999, l_1488, l_1000000])
      · have ez := y_two (C := C) z
        have iz : (x = y) = False := propext ⟨z, False.elim⟩
        obtain ⟨a, ha9, rfl⟩ := qin_t (by omega) e
        obtain ⟨b, hb9, rfl⟩ := qin_t (by omega) f
        have hab : a ≠ b := fun q => z (by rw [q])
        have h1 := kc_chase hc w ha9 hb9 hab
        have h2 := km_chase hm1 w ha9 hb9
        refine ok_r (r := nI (qchase u a b)) g1 t16 ?_ ?_
        · simp (disch := omega) only [f_X8_whyNoChase, ex, ey, ez, h1, rd_n, xbx_0, xbx_1, xbx_2, xbx_3, th1_0, th1_1, th2_00, th2_01, th2_10, th2_11, th3_000, th3_001, th3_010, th3_011, th3_100, th3_101, th3_110, th3_111, ob_s, xl_s, xb_s, nBt0, nBf0, z10, z01, if_true, if_false, Bool.and_true, Bool.true_and, Bool.and_false, Bool.false_and, m_1, m_1b, l_0, l_1, l_2, l_3, l_4, l_5, l_6, l_7, l_8, l_9, l_10, l_11, l_12, l_13, l_14, l_15, l_16, l_17, l_18, l_19, l_20, l_21, l_22, l_23, l_24, l_30, l_31, l_32, l_40, l_41, l_48, l_57, l_59, l_64, l_90, l_97, l_99, l_100, l_119, l_122, l_186, l_200, l_255, l_600, l_999, l_1488, l_1000000]
        · simp (disch := omega) only [f_X9_whyNoChase, ha, iz, h2, rd_n, xbx_0, xbx_1, xbx_2, xbx_3, th1_0, th1_1, th2_00, th2_01, th2_10, th2_11, th3_000, th3_001, th3_010, th3_011, th3_100, th3_101, th3_110, th3_111, ob_s, xl_s, xb_s, nBt0, nBf0, z10, z01, if_true, if_false, Bool.and_true, Bool.true_and, Bool.and_false, Bool.false_and, m_1, m_1b, l_0, l_1, l_2, l_3, l_4, l_5, l_6, l_7, l_8, l_9, l_10, l_11, l_12, l_13, l_14, l_15, l_16, l_17, l_18, l_19, l_20, l_21, l_22, l_23, l_24, l_30, l_31, l_32, l_40, l_41, l_48, l_57, l_59, l_64, l_90, l_97, l_99, l_100, l_119, l_122, l_186, l_200, l_255, l_600, l_999, l_1488, l_1000000]
theorem q_whyNoStep (g : GI C T) (x y : Int32) : OK [(1, 1)] (f_X8_whyNoStep C x y) (f_X9_whyNoStep T x y) := by
  have g1 := GI_16 (nI 0) g
  have g0 := g
  obtain ⟨u, hc, hm, w, hn, -⟩ := g
  have hm1 : RM (xput T 0 16 (nI 0) 1) u := rm16 hm
  have hx := km_isCat hm w x
  have hy := km_isGutter hm w y
  have b0 : u 0 0 ≤ 10 ∧ u 0 3 ≤ 20 ∧ u 0 7 ≤ 8 := by obtain ⟨hB, w0, w3, w7, wN, wk, wg, wc, wd, wo, wv⟩ := w; exact ⟨w0, w3, w7⟩
  cases e : qin x (u 0 7)
  · rw [e] at hx
    exact ok_t g0 1 1 (by decide) (by simp only [f_X8_whyNoStep, n_cat hc e, xbx_0, xbx_1, xbx_2, xbx_3, th1_0, th1_1, th2_00, th2_01, th2_10, th2_11, th3_000, th3_001, th3_010, th3_011, th3_100, th3_101, th3_110, th3_111, ob_s, xl_s, xb_s, nBt0, nBf0, z10, z01, if_true, if_false, Bool.and_true, Bool.true_and, Bool.and_false, Bool.false_and, m_1, m_1b, l_0, l_1, l_2, l_3, l_4, l_5, l_6, l_7, l_8, l_9, l_10, l_11, l_12, l_13, l_14, l_15, l_16, l_17, l_18, l_19, l_20, l_21, l_22, l_23, l_24, l_30, l_31, l_32, l_40, l_41, l_48, l_57, l_59, l_64, l_90, l_97, l_99, l_100, l_119, l_122, l_186, l_200, l_255, l_600, l_999, l_1488, l_1000000]) (by simp only [f_X9_whyNoStep, hx, hy, xbx_0, xbx_1, xbx_2, xbx_3, th1_0, th1_1, th2_00, th2_01, th2_10, th2_11, th3_000, th3_001, th3_010, th3_011, th3_100, th3_101, th3_110, th3_111, ob_s, xl_s, xb_s, nBt0, nBf0, z10, z01, if_true, if_false, Bool.and_true, Bool.true_and, Bool.and_false, Bool.false_and, m_1, m_1b, l_0, l_1, l_2, l_3, l_4, l_5, l_6, l_7, l_8, l_9, l_10, l_11, l_12, l_13, l_14, l_15, l_16, l_17, l_18, l_19, l_20, l_21, l_22, l_23, l_24, l_30, l_31, l_32, l_40, l_41, l_48, l_57, l_59, l_64, l_90, l_97, l_99, l_100, l_119, l_122, l_186, l_200, l_255, l_600, l_999, l_1488, l_1000000])
  · cases f : qin y (u 0 3)
    · rw [e] at hx
      rw [f] at hy
      exact ok_t g0 1 1 (by decide) (by simp only [f_X8_whyNoStep, y_cat hc e, n_gut hc f, xbx_0, xbx_1, xbx_2, xbx_3, th1_0, th1_1, th2_00, th2_01, th2_10, th2_11, th3_000, th3_001, th3_010, th3_011, th3_100, th3_101, th3_110, th3_111, ob_s, xl_s, xb_s, nBt0, nBf0, z10, z01, if_true, if_false, Bool.and_true, Bool.true_and, Bool.and_false, Bool.false_and, m_1, m_1b, l_0, l_1, l_2, l_3, l_4, l_5, l_6, l_7, l_8, l_9, l_10, l_11, l_12, l_13, l_14, l_15, l_16, l_17, l_18, l_19, l_20, l_21, l_22, l_23, l_24, l_30, l_31, l_32, l_40, l_41, l_48, l_57, l_59, l_64, l_90, l_97, l_99, l_100, l_119, l_122, l_186, l_200, l_255, l_600, l_999, l_1488, l_1000000]) (by simp only [f_X9_whyNoStep, hx, hy, xbx_0, xbx_1, xbx_2, xbx_3, th1_0, th1_1, th2_00, th2_01, th2_10, th2_11, th3_000, th3_001, th3_010, th3_011, th3_100, th3_101, th3_110, th3_111, ob_s, xl_s, xb_s, nBt0, nBf0, z10, z01, if_true, if_false, Bool.and_true, Bool.true_and, Bool.and_false, Bool.false_and, m_1, m_1b, l_0, l_1, l_2, l_3, l_4, l_5, l_6, l_7, l_8, l_9, l_10, l_11, l_12, l_13, l_14, l_15, l_16, l_17, l_18, l_19, l_20, l_21, l_22, l_23, l_24, l_30, l_31, l_32, l_40, l_41, l_48, l_57, l_59, l_64, l_90, l_97, l_99, l_100, l_119, l_122, l_186, l_200, l_255, l_600, l_999, l_1488, l_1000000])
    · rw [e] at hx
      rw [f] at hy
      have ex := y_cat hc e
      have ey := y_gut hc f
      obtain ⟨a, ha9, rfl⟩ := qin_t (by omega) e
      obtain ⟨b, hb9, rfl⟩ := qin_t (by omega) f
      have h1 := kc_step hc w ha9 hb9
      have h2 := km_step hm1 w ha9 hb9
      refine ok_r (r := nI (qstep u a b)) g1 t16 ?_ ?_
      · simp (disch := omega) only [f_X8_whyNoStep, ex, ey, h1, rd_n, xbx_0, xbx_1, xbx_2, xbx_3, th1_0, th1_1, th2_00, th2_01, th2_10, th2_11, th3_000, th3_001, th3_010, th3_011, th3_100, th3_101, th3_110, th3_111, ob_s, xl_s, xb_s, nBt0, nBf0, z10, z01, if_true, if_false, Bool.and_true, Bool.true_and, Bool.and_false, Bool.false_and, m_1, m_1b, l_0, l_1, l_2, l_3, l_4, l_5, l_6, l_7, l_8, l_9, l_10, l_11, l_12, l_13, l_14, l_15, l_16, l_17, l_18, l_19, l_20, l_21, l_22, l_23, l_24, l_30, l_31, l_32, l_40, l_41, l_48, l_57, l_59, l_64, l_90, l_97, l_99, l_100, l_119, l_122, l_186, l_200, l_255, l_600, l_999, l_1488, l_1000000]
      · simp (disch := omega) only [f_X9_whyNoStep, hx, hy, h2, rd_n, xbx_0, xbx_1, xbx_2, xbx_3, th1_0, th1_1, th2_00, th2_01, th2_10, th2_11, th3_000, th3_001, th3_010, th3_011, th3_100, th3_101, th3_110, th3_111, ob_s, xl_s, xb_s, nBt0, nBf0, z10, z01, if_true, if_false, Bool.and_true, Bool.true_and, Bool.and_false, Bool.false_and, m_1, m_1b, l_0, l_1, l_2, l_3, l_4, l_5, l_6, l_7, l_8, l_9, l_10, l_11, l_12, l_13, l_14, l_15, l_16, l_17, l_18, l_19, l_20, l_21, l_22, l_23, l_24, l_30, l_31, l_32, l_40, l_41, l_48, l_57, l_59, l_64, l_90, l_97, l_99, l_100, l_119, l_122, l_186, l_200, l_255, l_600, l_999, l_1488, l_1000000]
theorem q_widestWay (g : GI C T) (x y : Int32) : OK [(1, 1)] (f_X8_widestWay C x y) (f_X9_widestWay T x y) := by
  have g1 := GI_16 (nI 0) g
  have g0 := g
  obtain ⟨u, hc, hm, w, hn, -⟩ := g
  have hm1 : RM (xput T 0 16 (nI 0) 1) u := rm16 hm
  have hx := km_isChimney hm w x
  have hy := km_isChimney hm w y
  have b0 : u 0 0 ≤ 10 ∧ u 0 3 ≤ 20 ∧ u 0 7 ≤ 8 := by obtain ⟨hB, w0, w3, w7, wN, wk, wg, wc, wd, wo, wv⟩ := w; exact ⟨w0, w3, w7⟩
  cases e : qin x (u 0 0)
  · rw [e] at hx
    exact ok_t g0 1 1 (by decide) (by simp only [f_X8_widestWay, n_chi hc e, xbx_0, xbx_1, xbx_2, xbx_3, th1_0, th1_1, th2_00, th2_01, th2_10, th2_11, th3_000, th3_001, th3_010, th3_011, th3_100, th3_101, th3_110, th3_111, ob_s, xl_s, xb_s, nBt0, nBf0, z10, z01, if_true, if_false, Bool.and_true, Bool.true_and, Bool.and_false, Bool.false_and, m_1, m_1b, l_0, l_1, l_2, l_3, l_4, l_5, l_6, l_7, l_8, l_9, l_10, l_11, l_12, l_13, l_14, l_15, l_16, l_17, l_18, l_19, l_20, l_21, l_22, l_23, l_24, l_30, l_31, l_32, l_40, l_41, l_48, l_57, l_59, l_64, l_90, l_97, l_99, l_100, l_119, l_122, l_186, l_200, l_255, l_600, l_999, l_1488, l_1000000]) (by simp only [f_X9_widestWay, hx, hy, xbx_0, xbx_1, xbx_2, xbx_3, th1_0, th1_1, th2_00, th2_01, th2_10, th2_11, th3_000, th3_001, th3_010, th3_011, th3_100, th3_101, th3_110, th3_111, ob_s, xl_s, xb_s, nBt0, nBf0, z10, z01, if_true, if_false, Bool.and_true, Bool.true_and, Bool.and_false, Bool.false_and, m_1, m_1b, l_0, l_1, l_2, l_3, l_4, l_5, l_6, l_7, l_8, l_9, l_10, l_11, l_12, l_13, l_14, l_15, l_16, l_17, l_18, l_19, l_20, l_21, l_22, l_23, l_24, l_30, l_31, l_32, l_40, l_41, l_48, l_57, l_59, l_64, l_90, l_97, l_99, l_100, l_119, l_122, l_186, l_200, l_255, l_600, l_999, l_1488, l_1000000])
  · cases f : qin y (u 0 0)
    · rw [e] at hx
      rw [f] at hy
      exact ok_t g0 1 1 (by decide) (by simp only [f_X8_widestWay, y_chi hc e, n_chi hc f, xbx_0, xbx_1, xbx_2, xbx_3, th1_0, th1_1, th2_00, th2_01, th2_10, th2_11, th3_000, th3_001, th3_010, th3_011, th3_100, th3_101, th3_110, th3_111, ob_s, xl_s, xb_s, nBt0, nBf0, z10, z01, if_true, if_false, Bool.and_true, Bool.true_and, Bool.and_false, Bool.false_and, m_1, m_1b, l_0, l_1, l_2, l_3, l_4, l_5, l_6, l_7, l_8, l_9, l_10, l_11, l_12, l_13, l_14, l_15, l_16, l_17, l_18, l_19, l_20, l_21, l_22, l_23, l_24, l_30, l_31, l_32, l_40, l_41, l_48, l_57, l_59, l_64, l_90, l_97, l_99, l_100, l_119, l_122, l_186, l_200, l_255, l_600, l_999, l_1488, l_1000000]) (by simp only [f_X9_widestWay, hx, hy, xbx_0, xbx_1, xbx_2, xbx_3, th1_0, th1_1, th2_00, th2_01, th2_10, th2_11, th3_000, th3_001, th3_010, th3_011, th3_100, th3_101, th3_110, th3_111, ob_s, xl_s, xb_s, nBt0, nBf0, z10, z01, if_true, if_false, Bool.and_true, Bool.true_and, Bool.and_false, Bool.false_and, m_1, m_1b, l_0, l_1, l_2, l_3, l_4, l_5, l_6, l_7, l_8, l_9, l_10, l_11, l_12, l_13, l_14, l_15, l_16, l_17, l_18, l_19, l_20, l_21, l_22, l_23, l_24, l_30, l_31, l_32, l_40, l_41, l_48, l_57, l_59, l_64, l_90, l_97, l_99, l_100, l_119, l_122, l_186, l_200, l_255, l_600, l_999, l_1488, l_1000000])
    · rw [e] at hx
      rw [f] at hy
      have ex := y_chi hc e
      have ey := y_chi hc f
      obtain ⟨a, ha9, rfl⟩ := qin_t (by omega) e
      obtain ⟨b, hb9, rfl⟩ := qin_t (by omega) f
      have h1 := kc_widest hc w ha9 hb9
      have h2 := km_widestW (R := some (oI (qwide u a b 9), xput T 0 16 (nI 0))) hm1 w ha9 hb9 (fun r e => by rw [e]) rfl
      refine ok_r (r := oI (qwide u a b 9)) g1 t16 ?_ ?_
      · simp (disch := omega) only [f_X8_widestWay, ex, ey, h1, rd_n, xbx_0, xbx_1, xbx_2, xbx_3, th1_0, th1_1, th2_00, th2_01, th2_10, th2_11, th3_000, th3_001, th3_010, th3_011, th3_100, th3_101, th3_110, th3_111, ob_s, xl_s, xb_s, nBt0, nBf0, z10, z01, if_true, if_false, Bool.and_true, Bool.true_and, Bool.and_false, Bool.false_and, m_1, m_1b, l_0, l_1, l_2, l_3, l_4, l_5, l_6, l_7, l_8, l_9, l_10, l_11, l_12, l_13, l_14, l_15, l_16, l_17, l_18, l_19, l_20, l_21, l_22, l_23, l_24, l_30, l_31, l_32, l_40, l_41, l_48, l_57, l_59, l_64, l_90, l_97, l_99, l_100, l_119, l_122, l_186, l_200, l_255, l_600, l_999, l_1488, l_1000000]
      · simp (disch := omega) only [f_X9_widestWay, hx, hy, h2, rd_n, xbx_0, xbx_1, xbx_2, xbx_3, th1_0, th1_1, th2_00, th2_01, th2_10, th2_11, th3_000, th3_001, th3_010, th3_011, th3_100, th3_101, th3_110, th3_111, ob_s, xl_s, xb_s, nBt0, nBf0, z10, z01, if_true, if_false, Bool.and_true, Bool.true_and, Bool.and_false, Bool.false_and, m_1, m_1b, l_0, l_1, l_2, l_3, l_4, l_5, l_6, l_7, l_8, l_9, l_10, l_11, l_12, l_13, l_14, l_15, l_16, l_17, l_18, l_19, l_20, l_21, l_22, l_23, l_24, l_30, l_31, l_32, l_40, l_41, l_48, l_57, l_59, l_64, l_90, l_97, l_99, l_100, l_119, l_122, l_186, l_200, l_255, l_600, l_999, l_1488, l_1000000]
theorem q_stepsTo (g : GI C T) (x y : Int32) : OK [(1, 1)] (f_X8_stepsTo C x y) (f_X9_stepsTo T x y) := by
  have g1 := GI_16 (nI 0) g
  have g0 := g
  obtain ⟨u, hc, hm, w, hn, -⟩ := g
  have hm1 : RM (xput T 0 16 (nI 0) 1) u := rm16 hm
  have hx := km_isCat hm w x
  have hy := km_isChimney hm w y
  have b0 : u 0 0 ≤ 10 ∧ u 0 3 ≤ 20 ∧ u 0 7 ≤ 8 := by obtain ⟨hB, w0, w3, w7, wN, wk, wg, wc, wd, wo, wv⟩ := w; exact ⟨w0, w3, w7⟩
  cases e : qin x (u 0 7)
  · rw [e] at hx
    exact ok_t g0 1 1 (by decide) (by simp only [f_X8_stepsTo, n_cat hc e, xbx_0, xbx_1, xbx_2, xbx_3, th1_0, th1_1, th2_00, th2_01, th2_10, th2_11, th3_000, th3_001, th3_010, th3_011, th3_100, th3_101, th3_110, th3_111, ob_s, xl_s, xb_s, nBt0, nBf0, z10, z01, if_true, if_false, Bool.and_true, Bool.true_and, Bool.and_false, Bool.false_and, m_1, m_1b, l_0, l_1, l_2, l_3, l_4, l_5, l_6, l_7, l_8, l_9, l_10, l_11, l_12, l_13, l_14, l_15, l_16, l_17, l_18, l_19, l_20, l_21, l_22, l_23, l_24, l_30, l_31, l_32, l_40, l_41, l_48, l_57, l_59, l_64, l_90, l_97, l_99, l_100, l_119, l_122, l_186, l_200, l_255, l_600, l_999, l_1488, l_1000000]) (by simp only [f_X9_stepsTo, hx, hy, xbx_0, xbx_1, xbx_2, xbx_3, th1_0, th1_1, th2_00, th2_01, th2_10, th2_11, th3_000, th3_001, th3_010, th3_011, th3_100, th3_101, th3_110, th3_111, ob_s, xl_s, xb_s, nBt0, nBf0, z10, z01, if_true, if_false, Bool.and_true, Bool.true_and, Bool.and_false, Bool.false_and, m_1, m_1b, l_0, l_1, l_2, l_3, l_4, l_5, l_6, l_7, l_8, l_9, l_10, l_11, l_12, l_13, l_14, l_15, l_16, l_17, l_18, l_19, l_20, l_21, l_22, l_23, l_24, l_30, l_31, l_32, l_40, l_41, l_48, l_57, l_59, l_64, l_90, l_97, l_99, l_100, l_119, l_122, l_186, l_200, l_255, l_600, l_999, l_1488, l_1000000])
  · cases f : qin y (u 0 0)
    · rw [e] at hx
      rw [f] at hy
      exact ok_t g0 1 1 (by decide) (by simp only [f_X8_stepsTo, y_cat hc e, n_chi hc f, xbx_0, xbx_1, xbx_2, xbx_3, th1_0, th1_1, th2_00, th2_01, th2_10, th2_11, th3_000, th3_001, th3_010, th3_011, th3_100, th3_101, th3_110, th3_111, ob_s, xl_s, xb_s, nBt0, nBf0, z10, z01, if_true, if_false, Bool.and_true, Bool.true_and, Bool.and_false, Bool.false_and, m_1, m_1b, l_0, l_1, l_2, l_3, l_4, l_5, l_6, l_7, l_8, l_9, l_10, l_11, l_12, l_13, l_14, l_15, l_16, l_17, l_18, l_19, l_20, l_21, l_22, l_23, l_24, l_30, l_31, l_32, l_40, l_41, l_48, l_57, l_59, l_64, l_90, l_97, l_99, l_100, l_119, l_122, l_186, l_200, l_255, l_600, l_999, l_1488, l_1000000]) (by simp only [f_X9_stepsTo, hx, hy, xbx_0, xbx_1, xbx_2, xbx_3, th1_0, th1_1, th2_00, th2_01, th2_10, th2_11, th3_000, th3_001, th3_010, th3_011, th3_100, th3_101, th3_110, th3_111, ob_s, xl_s, xb_s, nBt0, nBf0, z10, z01, if_true, if_false, Bool.and_true, Bool.true_and, Bool.and_false, Bool.false_and, m_1, m_1b, l_0, l_1, l_2, l_3, l_4, l_5, l_6, l_7, l_8, l_9, l_10, l_11, l_12, l_13, l_14, l_15, l_16, l_17, l_18, l_19, l_20, l_21, l_22, l_23, l_24, l_30, l_31, l_32, l_40, l_41, l_48, l_57, l_59, l_64, l_90, l_97, l_99, l_100, l_119, l_122, l_186, l_200, l_255, l_600, l_999, l_1488, l_1000000])
    · rw [e] at hx
      rw [f] at hy
      have ex := y_cat hc e
      have ey := y_chi hc f
      obtain ⟨a, ha9, rfl⟩ := qin_t (by omega) e
      obtain ⟨b, hb9, rfl⟩ := qin_t (by omega) f
      have h1 := kc_few hc w ha9 (k := b) (by omega)
      obtain ⟨T1, e1, e2, e3⟩ := km_walks hm1 w ha9
      have h3 := e3 b (by omega)
      have g2 : GI C T1 := GI_T (fun x _ _ _ => by rw [e2 0 (by decide)]) (fun a ha => by rw [e2 a (by omega)]) g1
      have t17 : T1 0 16 = nI 0 := by rw [e2 0 (by decide)]; exact t16
      refine ok_r (r := oI (qds u a b)) g2 t17 ?_ ?_
      · simp (disch := omega) only [f_X8_stepsTo, ex, ey, h1, rd_n, xbx_0, xbx_1, xbx_2, xbx_3, th1_0, th1_1, th2_00, th2_01, th2_10, th2_11, th3_000, th3_001, th3_010, th3_011, th3_100, th3_101, th3_110, th3_111, ob_s, xl_s, xb_s, nBt0, nBf0, z10, z01, if_true, if_false, Bool.and_true, Bool.true_and, Bool.and_false, Bool.false_and, m_1, m_1b, l_0, l_1, l_2, l_3, l_4, l_5, l_6, l_7, l_8, l_9, l_10, l_11, l_12, l_13, l_14, l_15, l_16, l_17, l_18, l_19, l_20, l_21, l_22, l_23, l_24, l_30, l_31, l_32, l_40, l_41, l_48, l_57, l_59, l_64, l_90, l_97, l_99, l_100, l_119, l_122, l_186, l_200, l_255, l_600, l_999, l_1488, l_1000000]
      · simp (disch := omega) only [f_X9_stepsTo, hx, hy, e1, h3, rd_n, xbx_0, xbx_1, xbx_2, xbx_3, th1_0, th1_1, th2_00, th2_01, th2_10, th2_11, th3_000, th3_001, th3_010, th3_011, th3_100, th3_101, th3_110, th3_111, ob_s, xl_s, xb_s, nBt0, nBf0, z10, z01, if_true, if_false, Bool.and_true, Bool.true_and, Bool.and_false, Bool.false_and, m_1, m_1b, l_0, l_1, l_2, l_3, l_4, l_5, l_6, l_7, l_8, l_9, l_10, l_11, l_12, l_13, l_14, l_15, l_16, l_17, l_18, l_19, l_20, l_21, l_22, l_23, l_24, l_30, l_31, l_32, l_40, l_41, l_48, l_57, l_59, l_64, l_90, l_97, l_99, l_100, l_119, l_122, l_186, l_200, l_255, l_600, l_999, l_1488, l_1000000]
end
