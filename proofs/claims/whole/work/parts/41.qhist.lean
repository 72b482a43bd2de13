/-! level 2: copies, the past, the relation of both wholes -/
theorem RC_cg {S S' : XS} {u : QU} (e : ∀ a, a < 13 → S a = S' a) (h : RC S u) : RC S' u := by
  unfold RC at h ⊢
  rw [← e 0 (by decide), ← e 1 (by decide), ← e 2 (by decide), ← e 3 (by decide), ← e 4 (by decide), ← e 5 (by decide), ← e 6 (by decide), ← e 7 (by decide), ← e 8 (by decide), ← e 9 (by decide), ← e 10 (by decide), ← e 11 (by decide), ← e 12 (by decide)]
  exact h
theorem RM_cg {W W' : Nat → Int32} {u : QU} (e : ∀ i, i < 186 → W i = W' i) (h : RM W u) : RM W' u := by
  obtain ⟨m0, m1, m2, m3, m4, m5, m6, m7, m8, m9, n1, n2, n3, n4, n5, n6, n7, n8, n9, nT⟩ := h
  refine ⟨?_, ?_, ?_, ?_, ?_, ?_, ?_, ?_, ?_, ?_, fun k hk => ?_, fun k hk => ?_, fun k hk => ?_, fun k hk => ?_, fun k hk => ?_, fun k hk => ?_, fun k hk => ?_, fun k hk => ?_, fun k hk => ?_, fun a b ha hb => ?_⟩
  all_goals rw [← e _ (by omega)]
  · exact m0
  · exact m1
  · exact m2
  · exact m3
  · exact m4
  · exact m5
  · exact m6
  · exact m7
  · exact m8
  · exact m9
  · exact n1 k hk
  · exact n2 k hk
  · exact n3 k hk
  · exact n4 k hk
  · exact n5 k hk
  · exact n6 k hk
  · exact n7 k hk
  · exact n8 k hk
  · exact n9 k hk
  · exact nT a b ha hb
section
variable {S T C : XS} {u v : QU} {a b c d g k : Nat}
theorem xc_n {ks kd n x y : Nat} (h : x ≠ kd) : xcpy S ks kd n x y = S x y := by unfold xcpy; rw [if_neg h]
theorem xc_i {ks kd n y : Nat} (h : y < n) : xcpy S ks kd n kd y = S ks y := by unfold xcpy; rw [if_pos rfl, if_pos h]
theorem xz_nI {c : Prop} {i : Decidable c} : xz (nI (@ite _ c i 0 1)) = some (nI (@ite _ c i 0 1)) := by
  by_cases h : c
  · rw [if_pos h]; exact xz_0
  · rw [if_neg h]; exact xz_1
theorem xF_1 {a n1 b n2 x y : Nat} {A B : XS} (h : a ≤ x ∧ x < a + n1) : xmF (xτ a n1 b n2) A B x y = B (x - a) y := by unfold xmF xτ; rw [if_pos h]
theorem xF_2 {a n1 b n2 x y : Nat} {A B : XS} (h1 : ¬ (a ≤ x ∧ x < a + n1)) (h : b ≤ x ∧ x < b + n2) : xmF (xτ a n1 b n2) A B x y = B (n1 + (x - b)) y := by unfold xmF xτ; rw [if_neg h1, if_pos h]
theorem xF_n {a n1 b n2 x y : Nat} {A B : XS} (h1 : ¬ (a ≤ x ∧ x < a + n1)) (h : ¬ (b ≤ x ∧ x < b + n2)) : xmF (xτ a n1 b n2) A B x y = A x y := by unfold xmF xτ; rw [if_neg h1, if_neg h]
theorem xS_1 {a n1 b i : Nat} (h : i < n1) : xσ a n1 b i = a + i := if_pos h
theorem xS_2 {a n1 b i : Nat} (h : ¬ i < n1) : xσ a n1 b i = b + (i - n1) := if_neg h
theorem xs_d {o k i : Nat} : xs o S k i = S (o + k) i := rfl
end
def qS16 (S : XS) : XS := xput (xput (xput (xcpy (xcpy (xcpy (xcpy (xcpy (xput (xcpy (xcpy (xcpy (xput (xcpy (xcpy (xput S 0 0 (S 13 0)) 14 1 10) 15 2 10) 0 3 (S 13 3)) 16 3 20) 17 4 20) 18 5 20) 0 7 (S 13 7)) 19 6 8) 20 7 8) 21 8 8) 22 9 8) 23 10 64) 0 13 (S 13 13)) 0 14 (S 13 14)) 0 15 (S 13 15)
def qS17 (S : XS) : XS := xmF (xτ 11 2 24 2) (qS16 S) (xcpy (xput (xput (xput (fun i => qS16 S (xσ 11 2 24 i)) 0 0 (S 24 0)) 0 1 (S 24 1)) 0 2 (S 24 2)) 3 1 8)
section
variable {S T C : XS} {u v : QU} {a b c d g k : Nat}
set_option maxHeartbeats 4000000 in
theorem k_copy (hz : xz (S 24 0) = some (S 24 0)) : f_X6_copyFrom S = some (qS17 S) := by
  have e : ∀ x y, 11 ≤ x → qS16 S x y = S x y := fun x y hx => by
    unfold qS16
    simp (disch := omega) only [xq_n, xc_n]
  have e1 : f_X6_copyFrom S = ((f_X3_copyFrom (fun i => qS16 S (xσ 11 2 24 i))).bind fun S2 => some (xmF (xτ 11 2 24 2) (qS16 S) S2)) := by
    unfold qS16
    simp (disch := omega) only [f_X6_copyFrom, xl_s, xq_n, xc_n]
  have f0 : (fun i => qS16 S (xσ 11 2 24 i)) 2 = S 24 := by funext y; exact e 24 y (by decide)
  rw [e1]
  unfold f_X3_copyFrom
  simp (disch := omega) only [xl_s, xq_n, f0, hz, ob_s]
  rfl
set_option maxHeartbeats 4000000 in
/-- a roof copied over another -/
theorem kc_copy (h : RC (xs 13 S) u) (w : WF u) : ∃ S', f_X6_copyFrom S = some S' ∧ RC S' u ∧ ∀ i, 13 ≤ i → S' i = S i := by
  have e : ∀ x y, 11 ≤ x → qS16 S x y = S x y := fun x y hx => by
    unfold qS16
    simp (disch := omega) only [xq_n, xc_n]
  obtain ⟨⟨c0, c3, c7, cN, cG, cA⟩, r1, r2, r3, r4, r5, r6, r7, r8, r9, rT, kw, kg, kb⟩ := h
  obtain ⟨hB, w0, w3, w7, wN, wk, wg, wc, wd, wo, wv⟩ := w
  simp only [qb] at kb
  have c0 : S 13 0 = _ := c0
  have c3 : S 13 3 = _ := c3
  have c7 : S 13 7 = _ := c7
  have cN : S 13 13 = _ := cN
  have cG : S 13 14 = _ := cG
  have cA : S 13 15 = _ := cA
  have r1 : ∀ k, k < u 0 0 → S 14 k = _ := r1
  have r2 : ∀ k, k < u 0 0 → S 15 k = _ := r2
  have r3 : ∀ k, k < u 0 3 → S 16 k = _ := r3
  have r4 : ∀ k, k < u 0 3 → S 17 k = _ := r4
  have r5 : ∀ k, k < u 0 3 → S 18 k = _ := r5
  have r6 : ∀ k, k < u 0 7 → S 19 k = _ := r6
  have r7 : ∀ k, k < u 0 7 → S 20 k = _ := r7
  have r8 : ∀ k, k < u 0 7 → S 21 k = _ := r8
  have r9 : ∀ k, k < u 0 7 → S 22 k = _ := r9
  have rT : ∀ i, i < 64 → S 23 i = _ := rT
  have kw : S 24 0 = _ := kw
  have kg : u 11 0 ≠ 0 → S 24 1 = nI (u 11 0) ∧ S 24 2 = nI (u 11 1) := kg
  have kb : ∀ c, c < 8 → S 25 c = _ := kb
  refine ⟨qS17 S, k_copy (by rw [kw]; exact xz_nI), ?_, fun i hi => ?_⟩
  · have lo : ∀ x y, x < 11 → qS17 S x y = qS16 S x y := fun x y hx => xF_n (by omega) (by omega)
    have l11 : ∀ y, qS17 S 11 y = if y = 2 then S 24 2 else if y = 1 then S 24 1 else if y = 0 then S 24 0 else qS16 S 11 y := fun y => by
      unfold qS17
      rw [xF_1 (by omega), xc_n (by decide), Nat.sub_self, xp_s, xp_s, xp_s]
      rfl
    have l12 : ∀ y, y < 8 → qS17 S 12 y = S 25 y := fun y hy => by
      unfold qS17
      rw [xF_1 (by omega), xc_i hy, xq_n (by decide), xq_n (by decide), xq_n (by decide)]
      exact e 25 y (by decide)
    refine ⟨⟨?_, ?_, ?_, ?_, ?_, ?_⟩, fun k hk => ?_, fun k hk => ?_, fun k hk => ?_, fun k hk => ?_, fun k hk => ?_, fun k hk => ?_, fun k hk => ?_, fun k hk => ?_, fun k hk => ?_, fun k hk => ?_, ?_, fun hk => ?_, fun k hk => ?_⟩
    all_goals (try rw [lo _ _ (by decide)])
    all_goals (try rw [l11])
    all_goals (try rw [l12 k hk])
    all_goals (try unfold qS16)
    all_goals (try simp (disch := omega) only [xq_n, xp_s, xc_n, xc_i, i_T, i_F, c0, c3, c7, cN, cG, cA, r1, r2, r3, r4, r5, r6, r7, r8, r9, rT, kw, kb, if_true, if_false, and_self])
    · rw [l11]
      simp (disch := omega) only [i_T, i_F, if_true, if_false, and_self]
      exact kg hk
    · rfl
  · funext y
    by_cases q : 24 ≤ i ∧ i < 26
    · have q2 : i = 24 ∨ i = 25 := by omega
      rcases q2 with rfl | rfl
      · unfold qS17
        rw [xF_2 (by omega) (by omega), xc_n (by decide), xq_n (by decide), xq_n (by decide), xq_n (by decide)]
        exact e 24 y (by decide)
      · unfold qS17
        rw [xF_2 (by omega) (by omega), xc_n (by decide), xq_n (by decide), xq_n (by decide), xq_n (by decide)]
        exact e 25 y (by decide)
    · unfold qS17
      rw [xF_n (by omega) (by omega)]
      exact e i y (by omega)
/-- the class remembers: B is the past (cells 0 to 105) with the roof behind it -/
theorem kc_remember {B : XS} {h o : Nat} (hR : RC (xs 106 B) u) (w : WF u) (hh : B 0 2 = nI h) (ho : B 0 1 = nI o) (h8 : h ≤ 8) (o8 : o < 8) :
    ∃ B', f_X2_remember B = some B' ∧ B' 0 2 = nI (if h < 8 then h + 1 else h) ∧ B' 0 1 = nI (if h < 8 then o else (o + 1) % 8) ∧ RC (xs (2 + 13 * ((o + h) % 8)) B') u ∧ (∀ j, j < 8 → j ≠ (o + h) % 8 → ∀ i, i < 13 → B' (2 + 13 * j + i) = B (2 + 13 * j + i)) ∧ ∀ i, 106 ≤ i → B' i = B i := by
  have hm : (o + h) % 8 < 8 := Nat.mod_lt _ (by decide)
  obtain ⟨S', e1, e2, e3⟩ := kc_copy (S := fun i => B (xσ (2 + 13 * ((o + h) % 8)) 13 106 i)) (u := u) (RC_cg (fun a ha => by
    show B (106 + a) = B (xσ _ 13 106 (13 + a))
    rw [xS_2 (by omega)]
    congr 1
    omega) hR) w
  generalize hj : (o + h) % 8 = j at *
  have cell0 : ∀ y, xmF (xτ (2 + 13 * j) 13 106 13) B S' 0 y = B 0 y := fun y => xF_n (by omega) (by omega)
  have lo : ∀ x, x < 13 → xmF (xτ (2 + 13 * j) 13 106 13) B S' (2 + 13 * j + x) = S' x := fun x hx => by
    funext y
    rw [xF_1 (by omega), show 2 + 13 * j + x - (2 + 13 * j) = x by omega]
  have hi : ∀ i, 106 ≤ i → xmF (xτ (2 + 13 * j) 13 106 13) B S' i = B i := fun i h106 => by
    funext y
    by_cases q : i < 119
    · rw [xF_2 (by omega) (by omega), e3 _ (by omega)]
      show B (xσ _ 13 106 _) y = _
      rw [xS_2 (by omega), show 106 + (13 + (i - 106) - 13) = i by omega]
    · exact xF_n (by omega) (by omega)
  have mid : ∀ j', j' < 8 → j' ≠ j → ∀ i, i < 13 → xmF (xτ (2 + 13 * j) 13 106 13) B S' (2 + 13 * j' + i) = B (2 + 13 * j' + i) := fun j' hj' hne i hi => by
    funext y
    exact xF_n (by omega) (by omega)
  by_cases q : h < 8
  · refine ⟨xput (xmF (xτ (2 + 13 * j) 13 106 13) B S') 0 2 (nI (h + 1)), ?_, ?_, ?_, ?_, fun j' hj' hne i hi => ?_, fun i hi2 => ?_⟩
    · simp (disch := omega) only [f_X2_remember, xl_s, ob_s, xb_s, rd_n, wr_n, m_1, m_1b, nI_add, pk_mul, l_0, l_1, l_2, l_3, l_4, l_5, l_6, l_7, l_8, l_9, l_10, l_11, l_12, l_13, l_14, l_15, l_16, l_17, l_18, l_19, l_20, l_21, l_22, l_23, l_24, l_30, l_31, l_32, l_40, l_41, l_48, l_57, l_59, l_64, l_90, l_97, l_99, l_100, l_119, l_122, l_186, l_200, l_255, l_600, l_999, l_1488, l_1000000, hh, ho, pk_rem, hj, e1, cell0, i_leF]
    · rw [xp_s, if_pos rfl, if_pos q]
    · rw [xp_s, if_neg (by decide), cell0, ho, if_pos q]
    · refine RC_cg (fun a ha => ?_) e2
      funext y
      show _ = xput _ 0 2 _ (2 + 13 * j + a) y
      rw [xq_n (by omega), lo a ha]
    · rw [xp_n (by omega)]; exact mid j' hj' hne i hi
    · rw [xp_n (by omega)]; exact hi i hi2
  · refine ⟨xput (xmF (xτ (2 + 13 * j) 13 106 13) B S') 0 1 (nI ((o + 1) % 8)), ?_, ?_, ?_, ?_, fun j' hj' hne i hi => ?_, fun i hi2 => ?_⟩
    · simp (disch := omega) only [f_X2_remember, xl_s, ob_s, xb_s, rd_n, wr_n, m_1, m_1b, nI_add, pk_mul, l_0, l_1, l_2, l_3, l_4, l_5, l_6, l_7, l_8, l_9, l_10, l_11, l_12, l_13, l_14, l_15, l_16, l_17, l_18, l_19, l_20, l_21, l_22, l_23, l_24, l_30, l_31, l_32, l_40, l_41, l_48, l_57, l_59, l_64, l_90, l_97, l_99, l_100, l_119, l_122, l_186, l_200, l_255, l_600, l_999, l_1488, l_1000000, hh, ho, pk_rem, hj, e1, cell0, i_leT]
    · rw [xp_s, if_neg (by decide), cell0, hh, if_neg q]
    · rw [xp_s, if_pos rfl, if_neg q]
    · refine RC_cg (fun a ha => ?_) e2
      funext y
      show _ = xput _ 0 1 _ (2 + 13 * j + a) y
      rw [xq_n (by omega), lo a ha]
    · rw [xp_n (by omega)]; exact mid j' hj' hne i hi
    · rw [xp_n (by omega)]; exact hi i hi2
/-- the class takes back -/
theorem kc_takeBack {B : XS} {h o : Nat} (hR : RC (xs (2 + 13 * ((o + h) % 8)) B) u) (w : WF u) (hh : B 0 2 = nI (h + 1)) (ho : B 0 1 = nI o) (h8 : h < 8) (o8 : o < 8) :
    ∃ B', f_X2_takeBack B = some B' ∧ B' 0 2 = nI h ∧ B' 0 1 = nI o ∧ RC (xs 106 B') u ∧ ∀ i, 1 ≤ i → (i < 106 ∨ 119 ≤ i) → B' i = B i := by
  have hm : (o + h) % 8 < 8 := Nat.mod_lt _ (by decide)
  obtain ⟨S', e1, e2, e3⟩ := kc_copy (S := fun i => xput B 0 2 (nI h) (xσ 106 13 (2 + 13 * ((o + h) % 8)) i)) (u := u) (RC_cg (fun a ha => by
    show B (2 + 13 * ((o + h) % 8) + a) = xput B 0 2 (nI h) (xσ 106 13 _ (13 + a))
    rw [xS_2 (by omega), xp_n (by omega)]
    congr 1
    omega) hR) w
  generalize hj : (o + h) % 8 = j at *
  refine ⟨xmF (xτ 106 13 (2 + 13 * j) 13) (xput B 0 2 (nI h)) S', ?_, ?_, ?_, ?_, fun i h1 h2 => ?_⟩
  · simp (disch := omega) only [f_X2_takeBack, xl_s, ob_s, xb_s, rd_n, wr_n, m_1, m_1b, nI_add, pk_mul, l_0, l_1, l_2, l_3, l_4, l_5, l_6, l_7, l_8, l_9, l_10, l_11, l_12, l_13, l_14, l_15, l_16, l_17, l_18, l_19, l_20, l_21, l_22, l_23, l_24, l_30, l_31, l_32, l_40, l_41, l_48, l_57, l_59, l_64, l_90, l_97, l_99, l_100, l_119, l_122, l_186, l_200, l_255, l_600, l_999, l_1488, l_1000000, hh, ho, i_leF, pk_sub, Nat.add_sub_cancel, xp_s, i_T, i_F, pk_rem, hj, e1, if_true, if_false, and_self]
  · rw [xF_n (by omega) (by omega), xp_s, if_pos rfl]
  · rw [xF_n (by omega) (by omega), xp_s, if_neg (by decide), ho]
  · refine RC_cg (fun a ha => ?_) e2
    funext y
    show _ = xmF _ _ _ (106 + a) y
    rw [xF_1 (by omega), show 106 + a - 106 = a by omega]
  · funext y
    by_cases q : 2 + 13 * j ≤ i ∧ i < 2 + 13 * j + 13
    · rw [xF_2 (by omega) q, e3 _ (by omega)]
      show xput B 0 2 (nI h) (xσ 106 13 _ _) y = _
      rw [xS_2 (by omega), xq_n (by omega)]
      congr 1
      omega
    · rw [xF_n (by omega) q, xq_n (by omega)]
/-! the reference's rows copied -/
theorem km_begins : ∃ T', f_X9_begins T = some T' ∧ (∀ i, i ≠ 2 → T' i = T i) ∧ ∀ i, i < 186 → T' 2 i = T 1 i := by
  unfold f_X9_begins
  simp only [l_0]
  refine q_lp (fun n j T1 => ∃ T', f_X9_begins_L2 (fun v5 S6 => some S6) n (nI j) T1 = some T' ∧ (∀ i, i ≠ 2 → T' i = T i) ∧ ∀ i, i < 186 → T' 2 i = T 1 i) (fun j T1 => (∀ i, i ≠ 2 → T1 i = T i) ∧ ∀ i, i < j → T1 2 i = T 1 i) 186 T (by decide) ⟨fun _ _ => rfl, fun i hi => by omega⟩ ?_ ?_
  · intro n T1 hI
    exact ⟨T1, by simp (disch := omega) only [f_X9_begins_L2, xl_s, ob_s, xb_s, rd_n, wr_n, m_1, m_1b, nI_add, pk_mul, l_0, l_1, l_2, l_3, l_4, l_5, l_6, l_7, l_8, l_9, l_10, l_11, l_12, l_13, l_14, l_15, l_16, l_17, l_18, l_19, l_20, l_21, l_22, l_23, l_24, l_30, l_31, l_32, l_40, l_41, l_48, l_57, l_59, l_64, l_90, l_97, l_99, l_100, l_119, l_122, l_186, l_200, l_255, l_600, l_999, l_1488, l_1000000, i_leT], hI.1, hI.2⟩
  · intro n j T1 hj hI ih
    have h1 := hI.1 1 (by decide)
    simp (disch := omega) only [f_X9_begins_L2, xl_s, ob_s, xb_s, rd_n, wr_n, m_1, m_1b, nI_add, pk_mul, l_0, l_1, l_2, l_3, l_4, l_5, l_6, l_7, l_8, l_9, l_10, l_11, l_12, l_13, l_14, l_15, l_16, l_17, l_18, l_19, l_20, l_21, l_22, l_23, l_24, l_30, l_31, l_32, l_40, l_41, l_48, l_57, l_59, l_64, l_90, l_97, l_99, l_100, l_119, l_122, l_186, l_200, l_255, l_600, l_999, l_1488, l_1000000, i_leF, h1]
    refine ih _ ⟨fun i hi => by rw [xp_n hi]; exact hI.1 i hi, fun i hi => ?_⟩
    rw [xp_s]
    by_cases e : i = j
    · rw [if_pos e, e]
    · rw [if_neg e]; exact hI.2 i (by omega)
theorem km_push {p0 : Int32} {h : Nat} (hh : T 0 5 = nI h) (h8 : h < 8) {K : Int32 → XS → Option (Int32 × XS)} {Q : Option (Int32 × XS) → Prop} (hK : ∀ T', (∀ i, i ≠ 4 → T' i = T i) → (∀ i, i < 186 → T' 4 (186 * h + i) = T 2 i) → (∀ x, x < 186 * h → T' 4 x = T 4 x) → Q (K (nI 186) T')) : Q (f_X9_remember_L54 K p0 FU (nI 0) T) := by
  refine q_lp (fun n j T1 => Q (f_X9_remember_L54 K p0 n (nI j) T1)) (fun j T1 => (∀ i, i ≠ 4 → T1 i = T i) ∧ (∀ i, i < j → T1 4 (186 * h + i) = T 2 i) ∧ ∀ x, x < 186 * h → T1 4 x = T 4 x) 186 T (by decide) ⟨fun _ _ => rfl, fun i hi => by omega, fun _ _ => rfl⟩ ?_ ?_
  · intro n T1 hI
    simp (disch := omega) only [f_X9_remember_L54, xl_s, ob_s, xb_s, rd_n, wr_n, m_1, m_1b, nI_add, pk_mul, l_0, l_1, l_2, l_3, l_4, l_5, l_6, l_7, l_8, l_9, l_10, l_11, l_12, l_13, l_14, l_15, l_16, l_17, l_18, l_19, l_20, l_21, l_22, l_23, l_24, l_30, l_31, l_32, l_40, l_41, l_48, l_57, l_59, l_64, l_90, l_97, l_99, l_100, l_119, l_122, l_186, l_200, l_255, l_600, l_999, l_1488, l_1000000, i_leT]
    exact hK T1 hI.1 hI.2.1 hI.2.2
  · intro n j T1 hj hI ih
    have h1 := hI.1 2 (by decide)
    have h2 : T1 0 5 = nI h := by rw [hI.1 0 (by decide)]; exact hh
    simp (disch := omega) only [f_X9_remember_L54, xl_s, ob_s, xb_s, rd_n, wr_n, m_1, m_1b, nI_add, pk_mul, l_0, l_1, l_2, l_3, l_4, l_5, l_6, l_7, l_8, l_9, l_10, l_11, l_12, l_13, l_14, l_15, l_16, l_17, l_18, l_19, l_20, l_21, l_22, l_23, l_24, l_30, l_31, l_32, l_40, l_41, l_48, l_57, l_59, l_64, l_90, l_97, l_99, l_100, l_119, l_122, l_186, l_200, l_255, l_600, l_999, l_1488, l_1000000, i_leF, h1, h2]
    refine ih _ ⟨fun i hi => by rw [xp_n hi]; exact hI.1 i hi, fun i hi => ?_, fun x hx => ?_⟩
    · rw [xp_s]
      by_cases e : i = j
      · rw [if_pos (by omega), e]
      · rw [if_neg (by omega)]; exact hI.2.1 i (by omega)
    · rw [xp_s, if_neg (by omega)]; exact hI.2.2 x hx
theorem km_shift {p0 : Int32} {K : Int32 → XS → Option (Int32 × XS)} {Q : Option (Int32 × XS) → Prop} (hK : ∀ T', (∀ i, i ≠ 4 → T' i = T i) → (∀ x, x < 1302 → T' 4 x = T 4 (x + 186)) → Q (K (nI 1488) T')) : Q (f_X9_remember_L13 K p0 FU (nI 186) T) := by
  have key := q_loop (fun n j T1 => Q (f_X9_remember_L13 K p0 n (nI (186 + j)) T1)) (fun j T1 => (∀ i, i ≠ 4 → T1 i = T i) ∧ (∀ x, x < j → T1 4 x = T 4 (x + 186)) ∧ ∀ x, j ≤ x → T1 4 x = T 4 x) 1302 ?_ ?_ 1302 FU 0 T (by decide) (FU_lt (by decide)) ⟨fun _ _ => rfl, fun i hi => by omega, fun _ _ => rfl⟩
  · exact key
  · intro n T1 hI
    simp (disch := omega) only [f_X9_remember_L13, xl_s, ob_s, xb_s, rd_n, wr_n, m_1, m_1b, nI_add, pk_mul, l_0, l_1, l_2, l_3, l_4, l_5, l_6, l_7, l_8, l_9, l_10, l_11, l_12, l_13, l_14, l_15, l_16, l_17, l_18, l_19, l_20, l_21, l_22, l_23, l_24, l_30, l_31, l_32, l_40, l_41, l_48, l_57, l_59, l_64, l_90, l_97, l_99, l_100, l_119, l_122, l_186, l_200, l_255, l_600, l_999, l_1488, l_1000000, i_leT]
    exact hK T1 hI.1 hI.2.1
  · intro n j T1 hj hI ih
    have e1 : nI (186 + j) - nI 186 = nI j := by rw [pk_sub (by omega), Nat.add_sub_cancel_left]
    simp (disch := omega) only [f_X9_remember_L13, xl_s, ob_s, xb_s, rd_n, wr_n, m_1, m_1b, nI_add, pk_mul, l_0, l_1, l_2, l_3, l_4, l_5, l_6, l_7, l_8, l_9, l_10, l_11, l_12, l_13, l_14, l_15, l_16, l_17, l_18, l_19, l_20, l_21, l_22, l_23, l_24, l_30, l_31, l_32, l_40, l_41, l_48, l_57, l_59, l_64, l_90, l_97, l_99, l_100, l_119, l_122, l_186, l_200, l_255, l_600, l_999, l_1488, l_1000000, i_leF, e1]
    refine ih _ ⟨fun i hi => by rw [xp_n hi]; exact hI.1 i hi, fun i hi => ?_, fun x hx => ?_⟩
    · rw [xp_s]
      by_cases e : i = j
      · rw [if_pos e, hI.2.2 _ (by omega), e, Nat.add_comm]
      · rw [if_neg e]; exact hI.2.1 i (by omega)
    · rw [xp_s, if_neg (by omega)]; exact hI.2.2 x (by omega)
theorem km_remember {p0 : Int32} {h : Nat} (hh : T 0 5 = nI h) (h8 : h ≤ 8) : ∃ T', f_X9_remember T p0 = some (p0, T') ∧ (∀ i, i ≠ 4 → i ≠ 0 → T' i = T i) ∧ (∀ x, x ≠ 5 → T' 0 x = T 0 x) ∧ T' 0 5 = nI (if h < 8 then h + 1 else h) ∧
    ∀ j, j < (if h < 8 then h + 1 else h) → ∀ i, i < 186 → T' 4 (186 * j + i) = (if h < 8 then (if j < h then T 4 (186 * j + i) else T 2 i) else if j < 7 then T 4 (186 * (j + 1) + i) else T 2 i) := by
  unfold f_X9_remember
  by_cases q : h < 8
  · simp (disch := omega) only [xl_s, ob_s, xb_s, rd_n, wr_n, m_1, m_1b, nI_add, pk_mul, l_0, l_1, l_2, l_3, l_4, l_5, l_6, l_7, l_8, l_9, l_10, l_11, l_12, l_13, l_14, l_15, l_16, l_17, l_18, l_19, l_20, l_21, l_22, l_23, l_24, l_30, l_31, l_32, l_40, l_41, l_48, l_57, l_59, l_64, l_90, l_97, l_99, l_100, l_119, l_122, l_186, l_200, l_255, l_600, l_999, l_1488, l_1000000, hh, i_eqF]
    refine km_push hh q (Q := fun o => ∃ T', o = some (p0, T') ∧ (∀ i, i ≠ 4 → i ≠ 0 → T' i = T i) ∧ (∀ x, x ≠ 5 → T' 0 x = T 0 x) ∧ T' 0 5 = nI (if h < 8 then h + 1 else h) ∧ ∀ j, j < (if h < 8 then h + 1 else h) → ∀ i, i < 186 → T' 4 (186 * j + i) = (if h < 8 then (if j < h then T 4 (186 * j + i) else T 2 i) else if j < 7 then T 4 (186 * (j + 1) + i) else T 2 i)) (fun T1 g1 g2 g3 => ?_)
    have g0 : T1 0 5 = nI h := by rw [g1 0 (by decide)]; exact hh
    refine ⟨xput T1 0 5 (nI (h + 1)), by simp (disch := omega) only [xl_s, ob_s, xb_s, rd_n, wr_n, m_1, m_1b, nI_add, pk_mul, l_0, l_1, l_2, l_3, l_4, l_5, l_6, l_7, l_8, l_9, l_10, l_11, l_12, l_13, l_14, l_15, l_16, l_17, l_18, l_19, l_20, l_21, l_22, l_23, l_24, l_30, l_31, l_32, l_40, l_41, l_48, l_57, l_59, l_64, l_90, l_97, l_99, l_100, l_119, l_122, l_186, l_200, l_255, l_600, l_999, l_1488, l_1000000, g0], fun i h4 h0 => by rw [xp_n h0]; exact g1 i h4, fun x hx => by rw [xp_s, if_neg hx, g1 0 (by decide)], by rw [xp_s, if_pos rfl, if_pos q], fun j hj i hi => ?_⟩
    rw [if_pos q] at hj ⊢
    rw [xq_n (by decide)]
    by_cases e : j < h
    · rw [if_pos e]; exact g3 _ (by omega)
    · rw [if_neg e, show j = h by omega]; exact g2 i hi
  · have e8 : h = 8 := by omega
    have hh8 : T 0 5 = nI 8 := by rw [hh, e8]
    simp (disch := omega) only [xl_s, ob_s, xb_s, rd_n, wr_n, m_1, m_1b, nI_add, pk_mul, l_0, l_1, l_2, l_3, l_4, l_5, l_6, l_7, l_8, l_9, l_10, l_11, l_12, l_13, l_14, l_15, l_16, l_17, l_18, l_19, l_20, l_21, l_22, l_23, l_24, l_30, l_31, l_32, l_40, l_41, l_48, l_57, l_59, l_64, l_90, l_97, l_99, l_100, l_119, l_122, l_186, l_200, l_255, l_600, l_999, l_1488, l_1000000, hh8, i_eqT, if_true]
    refine km_shift (Q := fun o => ∃ T', o = some (p0, T') ∧ (∀ i, i ≠ 4 → i ≠ 0 → T' i = T i) ∧ (∀ x, x ≠ 5 → T' 0 x = T 0 x) ∧ T' 0 5 = nI (if h < 8 then h + 1 else h) ∧ ∀ j, j < (if h < 8 then h + 1 else h) → ∀ i, i < 186 → T' 4 (186 * j + i) = (if h < 8 then (if j < h then T 4 (186 * j + i) else T 2 i) else if j < 7 then T 4 (186 * (j + 1) + i) else T 2 i)) (fun T1 g1 g2 => ?_)
    have g0 : T1 0 5 = nI 8 := by rw [g1 0 (by decide)]; exact hh8
    have e7 : nI 8 - nI 1 = nI 7 := rfl
    simp (disch := omega) only [xl_s, ob_s, xb_s, rd_n, wr_n, m_1, m_1b, nI_add, pk_mul, l_0, l_1, l_2, l_3, l_4, l_5, l_6, l_7, l_8, l_9, l_10, l_11, l_12, l_13, l_14, l_15, l_16, l_17, l_18, l_19, l_20, l_21, l_22, l_23, l_24, l_30, l_31, l_32, l_40, l_41, l_48, l_57, l_59, l_64, l_90, l_97, l_99, l_100, l_119, l_122, l_186, l_200, l_255, l_600, l_999, l_1488, l_1000000, g0, e7]
    refine km_push (T := xput T1 0 5 (nI 7)) (h := 7) (by rw [xp_s, if_pos rfl]) (by decide) (Q := fun o => ∃ T', o = some (p0, T') ∧ (∀ i, i ≠ 4 → i ≠ 0 → T' i = T i) ∧ (∀ x, x ≠ 5 → T' 0 x = T 0 x) ∧ T' 0 5 = nI (if h < 8 then h + 1 else h) ∧ ∀ j, j < (if h < 8 then h + 1 else h) → ∀ i, i < 186 → T' 4 (186 * j + i) = (if h < 8 then (if j < h then T 4 (186 * j + i) else T 2 i) else if j < 7 then T 4 (186 * (j + 1) + i) else T 2 i)) (fun T2 f1 f2 f3 => ?_)
    have g02 : T2 0 5 = nI 7 := by rw [f1 0 (by decide), xp_s, if_pos rfl]
    refine ⟨xput T2 0 5 (nI 8), by simp (disch := omega) only [xl_s, ob_s, xb_s, rd_n, wr_n, m_1, m_1b, nI_add, pk_mul, l_0, l_1, l_2, l_3, l_4, l_5, l_6, l_7, l_8, l_9, l_10, l_11, l_12, l_13, l_14, l_15, l_16, l_17, l_18, l_19, l_20, l_21, l_22, l_23, l_24, l_30, l_31, l_32, l_40, l_41, l_48, l_57, l_59, l_64, l_90, l_97, l_99, l_100, l_119, l_122, l_186, l_200, l_255, l_600, l_999, l_1488, l_1000000, g02], fun i h4 h0 => by rw [xp_n h0, f1 i h4, xp_n h0, g1 i h4], fun x hx => by rw [xp_s, if_neg hx, f1 0 (by decide), xp_s, if_neg hx, g1 0 (by decide)], by rw [xp_s, if_pos rfl, if_neg q, e8], fun j hj i hi => ?_⟩
    rw [if_neg q] at hj ⊢
    rw [xq_n (by decide)]
    by_cases e : j < 7
    · rw [if_pos e, f3 _ (by omega), xq_n (by decide), g2 _ (by omega)]
      congr 1
      omega
    · rw [if_neg e, show j = 7 by omega, f2 i hi, xq_n (by decide), g1 2 (by decide)]
end
