/-! level 2: chases, votes -/
def f_T6d (S0 : XS) (p0 p1 v1 : Int32) : Option (Int32 × XS) := ((xrd p1 8 (S0 8)).bind fun v8 => (if v8 ≤ 0 then ((xrd v1 10 (S0 2)).bind fun v9 => (if v9 = p0 then some (1, S0) else some (0, S0))) else ((xrd p0 8 (S0 8)).bind fun v10 => (if 99 ≤ v10 then ((xrd v1 10 (S0 2)).bind fun v11 => (if v11 = p0 then some (1, S0) else some (0, S0))) else ((xrd p1 8 (S0 8)).bind fun v12 => ((xwr p1 8).bind fun j14 => xlet (xput S0 8 j14 (v12 - 1)) fun S13 => ((xrd p0 8 (S13 8)).bind fun v15 => ((xwr p0 8).bind fun j17 => xlet (xput S13 8 j17 (v15 + 1)) fun S16 => ((xrd v1 10 (S16 2)).bind fun v18 => (if v18 = p0 then some (1, S16) else some (0, S16)))))))))))
theorem e_T6d (S : XS) (p0 p1 : Int32) : f_X6_driveAway S p0 p1 = ((xrd p1 8 (S 9)).bind fun v1 => ((xrd p0 8 (S 9)).bind fun v2 => ((xwr p1 8).bind fun j4 => xlet (xput S 9 j4 v2) fun S3 => ((xwr p0 8).bind fun j6 => xlet (xput S3 9 j6 v1) fun S5 => ((xrd v1 10 (S5 2)).bind fun v7 => (if v7 = p1 then ((f_X6_ownsEnough S5 p0).bind fun v19 => (if v19 = 0 then ((xwr v1 10).bind fun j21 => xlet (xput S5 2 j21 p0) fun S20 => f_T6d S20 p0 p1 v1) else ((xwr v1 10).bind fun j34 => xlet (xput S5 2 j34 (-1)) fun S33 => f_T6d S33 p0 p1 v1))) else f_T6d S5 p0 p1 v1)))))) := rfl
def f_T9d (S0 : XS) (p0 p1 v2 : Int32) : Option (Int32 × XS) := ((f_X9_of S0 p1 2).bind fun v20 => (if v20 ≤ 0 then ((f_X9_owner S0 v2).bind fun v21 => (if v21 = p0 then some (1, S0) else some (0, S0))) else ((f_X9_of S0 p0 2).bind fun v22 => (if 99 ≤ v22 then ((f_X9_owner S0 v2).bind fun v23 => (if v23 = p0 then some (1, S0) else some (0, S0))) else ((f_X9_of S0 p1 2).bind fun v24 => ((f_X9_to S0 p1 2 (v24 - 1)).bind fun S25 => ((f_X9_of S25 p0 2).bind fun v26 => ((f_X9_to S25 p0 2 (v26 + 1)).bind fun S27 => ((f_X9_owner S27 v2).bind fun v28 => (if v28 = p0 then some (1, S27) else some (0, S27)))))))))))
theorem e_T9d (S : XS) (p0 p1 : Int32) : f_X9_chases S p0 p1 = ((f_X9_of S p0 3).bind fun v1 => ((f_X9_of S p1 3).bind fun v2 => ((f_X9_owner S v2).bind fun v3 => (if v3 = p1 then ((f_X9_owns S p0).bind fun v15 => (if 4 ≤ v15 then ((xwr (20 + v2) 186).bind fun j17 => xlet (xput S 1 j17 (-1)) fun S16 => ((f_X9_to S16 p0 3 v2).bind fun S18 => ((f_X9_to S18 p1 3 v1).bind fun S19 => f_T9d S19 p0 p1 v2))) else ((xwr (20 + v2) 186).bind fun j30 => xlet (xput S 1 j30 p0) fun S29 => ((f_X9_to S29 p0 3 v2).bind fun S31 => ((f_X9_to S31 p1 3 v1).bind fun S32 => f_T9d S32 p0 p1 v2))))) else ((f_X9_to S p0 3 v2).bind fun S4 => ((f_X9_to S4 p1 3 v1).bind fun S5 => f_T9d S5 p0 p1 v2)))))) := rfl
def f_T6v (S0 : XS) (p0 : Int32) : Option (Int32 × XS) := ((f_X3_votes (xs 11 S0) 1).bind fun v3 => ((f_X3_votes (xs 11 S0) 2).bind fun v4 => (if (S0 0 7) ≤ (v3 + v4) then ((f_X6_warmestSeat S0).bind fun v5 => (if v3 ≤ v4 then ((f_X3_leave (xs 11 S0)).bind fun S2 => xlet (xm 11 shKit.length S0 S2) fun S6 => some (0, S6)) else (if 8 ≤ (S0 0 7) then ((f_X3_leave (xs 11 S0)).bind fun S2 => xlet (xm 11 shKit.length S0 S2) fun S7 => some (0, S7)) else (if v5 = (-1) then ((f_X3_leave (xs 11 S0)).bind fun S2 => xlet (xm 11 shKit.length S0 S2) fun S8 => some (0, S8)) else (xbind2 (f_X6_putCat S0 v5 (S0 11 1) (S0 11 2)) fun v9 S10 => ((f_X3_leave (xs 11 S10)).bind fun S2 => xlet (xm 11 shKit.length S10 S2) fun S11 => some (1, S11))))))) else some (0, S0))))
theorem e_T6v (S : XS) (p0 p1 : Int32) : f_X6_takeVote S p0 p1 = (if p1 = 0 then ((xwr p0 8).bind fun j2 => xlet (xput S 12 j2 2) fun S1 => f_T6v S1 p0) else ((xwr p0 8).bind fun j13 => xlet (xput S 12 j13 1) fun S12 => f_T6v S12 p0)) := rfl
def f_T9v (S0 : XS) (p0 : Int32) : Option (Int32 × XS) := ((xrd 6 186 (S0 1)).bind fun v7 => ((xrd 2 186 (S0 1)).bind fun v8 => (if v7 = ((1 <<< (v8 &&& 31)) - 1) then (xbind2 (f_X9_decides S0) fun v9 S10 => (if v9 = 0 then some (0, S10) else some (1, S10))) else some (0, S0))))
theorem e_T9v (S : XS) (p0 p1 : Int32) : f_X9_votes S p0 p1 = ((xrd 6 186 (S 1)).bind fun v1 => ((xwr 6 186).bind fun j3 => xlet (xput S 1 j3 (v1 ||| (1 <<< (p0 &&& 31)))) fun S2 => ((xrd 7 186 (S2 1)).bind fun v4 => (if p1 = 0 then ((xwr 7 186).bind fun j6 => xlet (xput S2 1 j6 (v4 ||| 0)) fun S5 => f_T9v S5 p0) else ((xwr 7 186).bind fun j12 => xlet (xput S2 1 j12 (v4 ||| (1 <<< (p0 &&& 31)))) fun S11 => f_T9v S11 p0))))) := rfl
def f_T9e (S0 : XS) : Option XS := ((xwr 4 186).bind fun j7 => xlet (xput S0 1 j7 0) fun S6 => ((xwr 5 186).bind fun j9 => xlet (xput S6 1 j9 0) fun S8 => ((xwr 6 186).bind fun j11 => xlet (xput S8 1 j11 0) fun S10 => ((xwr 7 186).bind fun j13 => xlet (xput S10 1 j13 0) fun S12 => some S12))))
/-- the fish of a chase -/
def qfs (u : QU) (a b : Nat) : QU := if 0 < u 8 b ∧ u 8 a < 99 then up (up u 8 b (u 8 b - 1)) 8 a (u 8 a + 1) else u
def qswap (u : QU) (a b : Nat) : QU := up (up u 9 b (u 9 a)) 9 a (u 9 b)
def qdrive (u : QU) (a b : Nat) : QU := qfs (if u 2 (u 9 b) = b + 1 then up (qswap u a b) 2 (u 9 b) (if qown u a < 4 then a + 1 else 0) else qswap u a b) a b
section
variable {S T : XS} {u : QU} {a b c d g k : Nat}
theorem qfs_2 (x : Nat) : qfs u a b 2 x = u 2 x := by
  unfold qfs
  split
  · simp (disch := omega) only [up_n]
  · rfl
theorem wf_fs (w : WF u) (ha : a < u 0 7) (hb : b < u 0 7) : WF (qfs u a b) := by
  unfold qfs
  split
  · have h3 : u 8 b ≤ 99 := by obtain ⟨hB, w0, w3, w7, wN, wk, wg, wc, wd, wo, wv⟩ := w; exact (wc b hb).2.2.2.2.1
    exact wf_fish (wf_fish w (by omega)) (by omega)
  · exact w
theorem kc_Td (h : RC S u) (w : WF u) (ha : a < u 0 7) (hb : b < u 0 7) (hab : a ≠ b) {l : Nat} (hl : l < u 0 0) : ∃ S', f_T6d S (nI a) (nI b) (nI l) = some (nB (decide (u 2 l = a + 1)), S') ∧ RC S' (qfs u a b) := by
  have h8 : u 8 b ≤ 99 := by obtain ⟨hB, w0, w3, w7, wN, wk, wg, wc, wd, wo, wv⟩ := w; exact (wc b hb).2.2.2.2.1
  have e1 := rc_fish h (v := u 8 b - 1) hb
  have e2 := rc_fish e1 (i := a) (v := u 8 a + 1) (by simp (disch := omega) only [up_n]; exact ha)
  have h' := h
  obtain ⟨⟨c0, c3, c7, cN, cG, cA⟩, r1, r2, r3, r4, r5, r6, r7, r8, r9, rT, kw, kg, kb⟩ := h
  obtain ⟨hB, w0, w3, w7, wN, wk, wg, wc, wd, wo, wv⟩ := w
  unfold qfs
  by_cases f1 : 0 < u 8 b
  · by_cases f2 : u 8 a < 99
    · rw [if_pos ⟨f1, f2⟩]
      refine ⟨_, ?_, e2⟩
      simp (disch := omega) only [f_T6d, xl_s, ob_s, xb_s, rd_n, wr_n, m_1, m_1b, nI_add, pk_mul, l_0, l_1, l_2, l_3, l_4, l_5, l_6, l_7, l_8, l_9, l_10, l_11, l_12, l_13, l_14, l_15, l_16, l_17, l_18, l_19, l_20, l_21, l_22, l_23, l_24, l_30, l_31, l_32, l_40, l_41, l_48, l_57, l_59, l_64, l_90, l_97, l_99, l_100, l_119, l_122, l_186, l_200, l_255, l_600, l_999, l_1488, l_1000000, r8, le_u hB, ge_u hB, i_F, xq_n, xp_s, r2, eo_u hB, pk_sub, if_true, if_false, and_self]
      by_cases f3 : u 2 l = a + 1
      · rw [if_pos f3, decide_eq_true f3]; rfl
      · rw [if_neg f3, decide_eq_false f3]; rfl
    · rw [if_neg (fun q => f2 q.2)]
      refine ⟨S, ?_, h'⟩
      simp (disch := omega) only [f_T6d, xl_s, ob_s, xb_s, rd_n, wr_n, m_1, m_1b, nI_add, pk_mul, l_0, l_1, l_2, l_3, l_4, l_5, l_6, l_7, l_8, l_9, l_10, l_11, l_12, l_13, l_14, l_15, l_16, l_17, l_18, l_19, l_20, l_21, l_22, l_23, l_24, l_30, l_31, l_32, l_40, l_41, l_48, l_57, l_59, l_64, l_90, l_97, l_99, l_100, l_119, l_122, l_186, l_200, l_255, l_600, l_999, l_1488, l_1000000, r8, le_u hB, ge_u hB, i_F, i_T, r2, eo_u hB, if_true, if_false, and_self]
      by_cases f3 : u 2 l = a + 1
      · rw [if_pos f3, decide_eq_true f3]; rfl
      · rw [if_neg f3, decide_eq_false f3]; rfl
  · rw [if_neg (fun q => f1 q.1)]
    refine ⟨S, ?_, h'⟩
    simp (disch := omega) only [f_T6d, xl_s, ob_s, xb_s, rd_n, wr_n, m_1, m_1b, nI_add, pk_mul, l_0, l_1, l_2, l_3, l_4, l_5, l_6, l_7, l_8, l_9, l_10, l_11, l_12, l_13, l_14, l_15, l_16, l_17, l_18, l_19, l_20, l_21, l_22, l_23, l_24, l_30, l_31, l_32, l_40, l_41, l_48, l_57, l_59, l_64, l_90, l_97, l_99, l_100, l_119, l_122, l_186, l_200, l_255, l_600, l_999, l_1488, l_1000000, r8, le_u hB, i_T, r2, eo_u hB, if_true, if_false, and_self]
    by_cases f3 : u 2 l = a + 1
    · rw [if_pos f3, decide_eq_true f3]; rfl
    · rw [if_neg f3, decide_eq_false f3]; rfl
theorem km_Td (h : RM (T 1) u) (w : WF u) (ha : a < u 0 7) (hb : b < u 0 7) (hab : a ≠ b) {l : Nat} (hl : l < u 0 0) : ∃ T', f_T9d T (nI a) (nI b) (nI l) = some (nB (decide (u 2 l = a + 1)), T') ∧ RM (T' 1) (qfs u a b) ∧ ∀ i, i ≠ 1 → T' i = T i := by
  have h7 : u 0 7 ≤ 8 := by obtain ⟨hB, w0, w3, w7, wN, wk, wg, wc, wd, wo, wv⟩ := w; exact w7
  have h0 : u 0 0 ≤ 10 := by obtain ⟨hB, w0, w3, w7, wN, wk, wg, wc, wd, wo, wv⟩ := w; exact w0
  have e2 := rm_fish (rm_fish h (v := u 8 b - 1) (show b < 8 by omega)) (i := a) (v := u 8 a + 1) (by omega)
  have ho := km_owner h (k := l) (by omega)
  have ho2 := km_owner (rm_fish (rm_fish h (v := u 8 b - 1) (show b < 8 by omega)) (i := a) (v := u 8 a + 1) (by omega)) (k := l) (by omega)
  simp (disch := omega) only [up_n] at ho2
  have h' := h
  obtain ⟨m0, m1, m2, m3, m4, m5, m6, m7, m8, m9, n1, n2, n3, n4, n5, n6, n7, n8, n9, nT⟩ := h
  obtain ⟨hB, w0, w3, w7, wN, wk, wg, wc, wd, wo, wv⟩ := w
  have h8 := (wc b hb).2.2.2.2.1
  have h9 := (wc a ha).2.2.2.2.1
  unfold qfs
  by_cases f1 : 0 < u 8 b
  · by_cases f2 : u 8 a < 99
    · rw [if_pos ⟨f1, f2⟩]
      refine ⟨_, ?_, e2, fun i hi => by rw [xp_n hi, xp_n hi]⟩
      simp (disch := omega) only [f_T9d, f_X9_to, xl_s, ob_s, xb_s, rd_n, wr_n, m_1, m_1b, nI_add, pk_mul, l_0, l_1, l_2, l_3, l_4, l_5, l_6, l_7, l_8, l_9, l_10, l_11, l_12, l_13, l_14, l_15, l_16, l_17, l_18, l_19, l_20, l_21, l_22, l_23, l_24, l_30, l_31, l_32, l_40, l_41, l_48, l_57, l_59, l_64, l_90, l_97, l_99, l_100, l_119, l_122, l_186, l_200, l_255, l_600, l_999, l_1488, l_1000000, km_of, n8, le_u hB, ge_u hB, i_F, xp_s, pk_sub, if_true, if_false, and_self]
      rw [ho2, ob_s]
      simp (disch := omega) only [eo_u hB]
      by_cases f3 : u 2 l = a + 1
      · rw [if_pos f3, decide_eq_true f3]; rfl
      · rw [if_neg f3, decide_eq_false f3]; rfl
    · rw [if_neg (fun q => f2 q.2)]
      refine ⟨T, ?_, h', fun i hi => rfl⟩
      simp (disch := omega) only [f_T9d, xl_s, ob_s, xb_s, rd_n, wr_n, m_1, m_1b, nI_add, pk_mul, l_0, l_1, l_2, l_3, l_4, l_5, l_6, l_7, l_8, l_9, l_10, l_11, l_12, l_13, l_14, l_15, l_16, l_17, l_18, l_19, l_20, l_21, l_22, l_23, l_24, l_30, l_31, l_32, l_40, l_41, l_48, l_57, l_59, l_64, l_90, l_97, l_99, l_100, l_119, l_122, l_186, l_200, l_255, l_600, l_999, l_1488, l_1000000, km_of, n8, le_u hB, ge_u hB, i_F, i_T, ho, eo_u hB, if_true, if_false, and_self]
      by_cases f3 : u 2 l = a + 1
      · rw [if_pos f3, decide_eq_true f3]; rfl
      · rw [if_neg f3, decide_eq_false f3]; rfl
  · rw [if_neg (fun q => f1 q.1)]
    refine ⟨T, ?_, h', fun i hi => rfl⟩
    simp (disch := omega) only [f_T9d, xl_s, ob_s, xb_s, rd_n, wr_n, m_1, m_1b, nI_add, pk_mul, l_0, l_1, l_2, l_3, l_4, l_5, l_6, l_7, l_8, l_9, l_10, l_11, l_12, l_13, l_14, l_15, l_16, l_17, l_18, l_19, l_20, l_21, l_22, l_23, l_24, l_30, l_31, l_32, l_40, l_41, l_48, l_57, l_59, l_64, l_90, l_97, l_99, l_100, l_119, l_122, l_186, l_200, l_255, l_600, l_999, l_1488, l_1000000, km_of, n8, le_u hB, i_T, ho, eo_u hB, if_true, if_false, and_self]
    by_cases f3 : u 2 l = a + 1
    · rw [if_pos f3, decide_eq_true f3]; rfl
    · rw [if_neg f3, decide_eq_false f3]; rfl
theorem wf_swap (w : WF u) (ha : a < u 0 7) (hb : b < u 0 7) (hab : a ≠ b) : WF (qswap u a b) := by
  have hq : ∀ d, qown (qswap u a b) d = qown u d := fun d => by
    unfold qown qswap
    simp (disch := omega) only [up_n]
  obtain ⟨hB, w0, w3, w7, wN, wk, wg, wc, wd, wo, wv⟩ := w
  have hne : u 9 a ≠ u 9 b := fun e => hab (wd a b ha hb e)
  have h1 := wc a ha
  have h2 := wc b hb
  refine ⟨?_, ?_, ?_, ?_, ?_, fun k hk => ?_, fun k hk => ?_, fun k hk => ?_, fun k k2 hk hk2 => ?_, fun k hk => ?_, ?_⟩
  · exact up_B (up_B hB (by omega)) (by omega)
  all_goals (try unfold qswap at hk)
  all_goals (try unfold qswap at hk2)
  all_goals (try simp (disch := omega) only [up_n, up_s, i_T, i_F, if_true, if_false, and_self] at hk)
  all_goals (try simp (disch := omega) only [up_n, up_s, i_T, i_F, if_true, if_false, and_self] at hk2)
  all_goals (try rw [hq])
  all_goals (try unfold qswap)
  all_goals (try simp (disch := omega) only [up_n, up_s, i_T, i_F, if_true, if_false, and_self])
  · exact w0
  · exact w3
  · exact w7
  · exact wN
  · exact wk k hk
  · exact wg k hk
  · have := wc k hk
    by_cases e : k = a
    · simp (disch := omega) only [i_T, if_true, if_false, and_self]; omega
    · by_cases e2 : k = b
      · simp (disch := omega) only [i_T, i_F, if_true, if_false, and_self]; omega
      · simp (disch := omega) only [i_F, if_true, if_false, and_self]; omega
  · have wdk := wd k k2 hk hk2
    have wdk1 := wd k a hk ha
    have wdk2 := wd k b hk hb
    have wdl1 := wd k2 a hk2 ha
    have wdl2 := wd k2 b hk2 hb
    by_cases e : k = a
    · by_cases e1 : k2 = a
      · intro _; omega
      · by_cases e2 : k2 = b
        · simp (disch := omega) only [i_T, i_F, if_true, if_false, and_self]; intro q; exact absurd q.symm hne
        · simp (disch := omega) only [i_T, i_F, if_true, if_false, and_self]; intro q; exact absurd (wdl2 q.symm) e2
    · by_cases e3 : k = b
      · by_cases e1 : k2 = a
        · simp (disch := omega) only [i_T, i_F, if_true, if_false, and_self]; intro q; exact absurd q hne
        · by_cases e2 : k2 = b
          · intro _; omega
          · simp (disch := omega) only [i_T, i_F, if_true, if_false, and_self]; intro q; exact absurd (wdl1 q.symm) e1
      · by_cases e1 : k2 = a
        · simp (disch := omega) only [i_T, i_F, if_true, if_false, and_self]; intro q; exact absurd (wdk2 q) e3
        · by_cases e2 : k2 = b
          · simp (disch := omega) only [i_T, i_F, if_true, if_false, and_self]; intro q; exact absurd (wdk1 q) e
          · simp (disch := omega) only [i_F, if_true, if_false, and_self]; exact wdk
  · exact wo k hk
  · exact wv
theorem own_swap (d : Nat) : qown (qswap u a b) d = qown u d := by
  unfold qown qswap
  simp (disch := omega) only [up_n]
theorem swap_r {r : Nat} (hr : r ≠ 9) (i : Nat) : qswap u a b r i = u r i := by
  unfold qswap
  simp (disch := omega) only [up_n]
/-- the owner behind a chase -/
def qov (u : QU) (a b : Nat) : QU := if u 2 (u 9 b) = b + 1 then up (qswap u a b) 2 (u 9 b) (if qown u a < 4 then a + 1 else 0) else qswap u a b
theorem qov_r {r : Nat} (h9 : r ≠ 9) (h2 : r ≠ 2) (i : Nat) : qov u a b r i = u r i := by
  unfold qov
  split
  · rw [up_n h2, swap_r h9]
  · exact swap_r h9 i
theorem wf_ov (w : WF u) (ha : a < u 0 7) (hb : b < u 0 7) (hab : a ≠ b) : WF (qov u a b) := by
  have w1 := wf_swap w ha hb hab
  have hl : u 9 b < qswap u a b 0 0 := by
    rw [swap_r (by decide)]
    obtain ⟨hB, w0, w3, w7, wN, wk, wg, wc, wd, wo, wv⟩ := w
    exact (wc b hb).2.2.2.2.2
  have h7 : qswap u a b 0 7 = u 0 7 := swap_r (by decide) _
  unfold qov
  by_cases e : u 2 (u 9 b) = b + 1
  · rw [if_pos e]
    by_cases e2 : qown u a < 4
    · rw [if_pos e2]
      refine wf_own w1 hl (by omega) (fun d hd e3 _ => ?_)
      rw [own_swap, show d = a by omega]
      exact e2
    · rw [if_neg e2]
      exact wf_own w1 hl (Nat.zero_le _) (fun d hd e3 => by omega)
  · rw [if_neg e]; exact w1
theorem wf_drive (w : WF u) (ha : a < u 0 7) (hb : b < u 0 7) (hab : a ≠ b) : WF (qdrive u a b) := by
  have h7 : qov u a b 0 7 = u 0 7 := qov_r (by decide) (by decide) _
  exact wf_fs (u := qov u a b) (wf_ov w ha hb hab) (by rw [h7]; exact ha) (by rw [h7]; exact hb)
theorem nBt0 : (nB true = nI 0) = False := by decide
theorem nBf0 : (nB false = nI 0) = True := by decide
theorem kc_drive (h : RC S u) (w : WF u) (ha : a < u 0 7) (hb : b < u 0 7) (hab : a ≠ b) : ∃ S', f_X6_driveAway S (nI a) (nI b) = some (nB (decide (qdrive u a b 2 (u 9 b) = a + 1)), S') ∧ RC S' (qdrive u a b) := by
  have w1 := wf_swap w ha hb hab
  have w2 := wf_ov w ha hb hab
  have h1 : RC (xput (xput S 9 b (nI (u 9 a))) 9 a (nI (u 9 b))) (qswap u a b) := rc_seat (rc_seat h (v := u 9 a) hb) (i := a) (v := u 9 b) (by simp (disch := omega) only [up_n]; exact ha)
  have h7 : u 0 7 ≤ 8 := by obtain ⟨hB, w0, w3, w7, wN, wk, wg, wc, wd, wo, wv⟩ := w; exact w7
  have hE := kc_enough h1 w1 (c := a) (by omega)
  rw [own_swap] at hE
  have hl : u 9 b < u 0 0 := by obtain ⟨hB, w0, w3, w7, wN, wk, wg, wc, wd, wo, wv⟩ := w; exact (wc b hb).2.2.2.2.2
  have hl1 : u 9 b < qswap u a b 0 0 := by rw [swap_r (by decide)]; exact hl
  have key : ∀ S2, RC S2 (qov u a b) → f_X6_driveAway S (nI a) (nI b) = f_T6d S2 (nI a) (nI b) (nI (u 9 b)) → ∃ S', f_X6_driveAway S (nI a) (nI b) = some (nB (decide (qdrive u a b 2 (u 9 b) = a + 1)), S') ∧ RC S' (qdrive u a b) := by
    intro S2 h2 e
    have h70 : qov u a b 0 7 = u 0 7 := qov_r (by decide) (by decide) _
    have h00 : qov u a b 0 0 = u 0 0 := qov_r (by decide) (by decide) _
    obtain ⟨S', t1, t2⟩ := kc_Td h2 w2 (a := a) (b := b) (by omega) (by omega) hab (l := u 9 b) (by omega)
    refine ⟨S', ?_, t2⟩
    rw [e, t1, show qdrive u a b = qfs (qov u a b) a b from rfl, qfs_2]
  obtain ⟨⟨c0, c3, c7, cN, cG, cA⟩, r1, r2, r3, r4, r5, r6, r7, r8, r9, rT, kw, kg, kb⟩ := h
  obtain ⟨hB, w0, w3, w7, wN, wk, wg, wc, wd, wo, wv⟩ := w
  by_cases e : u 2 (u 9 b) = b + 1
  · by_cases e2 : qown u a < 4
    · refine key (xput (xput (xput S 9 b (nI (u 9 a))) 9 a (nI (u 9 b))) 2 (u 9 b) (nI a)) ?_ ?_
      · unfold qov; rw [if_pos e, if_pos e2]; exact rc_own h1 hl1
      · rw [decide_eq_false (by omega)] at hE
        simp (disch := omega) only [e_T6d, xl_s, ob_s, xb_s, rd_n, wr_n, m_1, m_1b, nI_add, pk_mul, l_0, l_1, l_2, l_3, l_4, l_5, l_6, l_7, l_8, l_9, l_10, l_11, l_12, l_13, l_14, l_15, l_16, l_17, l_18, l_19, l_20, l_21, l_22, l_23, l_24, l_30, l_31, l_32, l_40, l_41, l_48, l_57, l_59, l_64, l_90, l_97, l_99, l_100, l_119, l_122, l_186, l_200, l_255, l_600, l_999, l_1488, l_1000000, r9, xq_n, xp_s, r2, eo_u hB, i_T, hE, nBf0, if_true, if_false, and_self]
    · refine key (xput (xput (xput S 9 b (nI (u 9 a))) 9 a (nI (u 9 b))) 2 (u 9 b) (oI 0)) ?_ ?_
      · unfold qov; rw [if_pos e, if_neg e2]; exact rc_own h1 hl1
      · rw [decide_eq_true (by omega)] at hE
        simp (disch := omega) only [e_T6d, xl_s, ob_s, xb_s, rd_n, wr_n, m_1, m_1b, nI_add, pk_mul, l_0, l_1, l_2, l_3, l_4, l_5, l_6, l_7, l_8, l_9, l_10, l_11, l_12, l_13, l_14, l_15, l_16, l_17, l_18, l_19, l_20, l_21, l_22, l_23, l_24, l_30, l_31, l_32, l_40, l_41, l_48, l_57, l_59, l_64, l_90, l_97, l_99, l_100, l_119, l_122, l_186, l_200, l_255, l_600, l_999, l_1488, l_1000000, r9, xq_n, xp_s, r2, eo_u hB, i_T, hE, nBt0, if_true, if_false, and_self]
  · refine key (xput (xput S 9 b (nI (u 9 a))) 9 a (nI (u 9 b))) ?_ ?_
    · unfold qov; rw [if_neg e]; exact h1
    · simp (disch := omega) only [e_T6d, xl_s, ob_s, xb_s, rd_n, wr_n, m_1, m_1b, nI_add, pk_mul, l_0, l_1, l_2, l_3, l_4, l_5, l_6, l_7, l_8, l_9, l_10, l_11, l_12, l_13, l_14, l_15, l_16, l_17, l_18, l_19, l_20, l_21, l_22, l_23, l_24, l_30, l_31, l_32, l_40, l_41, l_48, l_57, l_59, l_64, l_90, l_97, l_99, l_100, l_119, l_122, l_186, l_200, l_255, l_600, l_999, l_1488, l_1000000, r9, xq_n, xp_s, r2, eo_u hB, i_F, if_true, if_false, and_self]
theorem up_cm {r i v r' i' v' : Nat} (h : r ≠ r' ∨ i ≠ i') : up (up u r i v) r' i' v' = up (up u r' i' v') r i v := by
  funext x y
  unfold up
  by_cases e1 : x = r <;> by_cases e2 : x = r' <;> by_cases e3 : y = i <;> by_cases e4 : y = i' <;> simp_all
theorem km_drive (h : RM (T 1) u) (w : WF u) (ha : a < u 0 7) (hb : b < u 0 7) (hab : a ≠ b) : ∃ T', f_X9_chases T (nI a) (nI b) = some (nB (decide (qdrive u a b 2 (u 9 b) = a + 1)), T') ∧ RM (T' 1) (qdrive u a b) ∧ ∀ i, i ≠ 1 → T' i = T i := by
  have w2 := wf_ov w ha hb hab
  have h7 : u 0 7 ≤ 8 := by obtain ⟨hB, w0, w3, w7, wN, wk, wg, wc, wd, wo, wv⟩ := w; exact w7
  have h0 : u 0 0 ≤ 10 := by obtain ⟨hB, w0, w3, w7, wN, wk, wg, wc, wd, wo, wv⟩ := w; exact w0
  have hO := km_owns h w (c := a) (by omega)
  have hO4 : qown u a ≤ 4 := by obtain ⟨hB, w0, w3, w7, wN, wk, wg, wc, wd, wo, wv⟩ := w; exact wo a ha
  have hl : u 9 b < u 0 0 := by obtain ⟨hB, w0, w3, w7, wN, wk, wg, wc, wd, wo, wv⟩ := w; exact (wc b hb).2.2.2.2.2
  have how := km_owner h (k := u 9 b) (by omega)
  have key : ∀ T2, RM (T2 1) (qov u a b) → (∀ i, i ≠ 1 → T2 i = T i) → f_X9_chases T (nI a) (nI b) = f_T9d T2 (nI a) (nI b) (nI (u 9 b)) → ∃ T', f_X9_chases T (nI a) (nI b) = some (nB (decide (qdrive u a b 2 (u 9 b) = a + 1)), T') ∧ RM (T' 1) (qdrive u a b) ∧ ∀ i, i ≠ 1 → T' i = T i := by
    intro T2 h2 hf e
    have h70 : qov u a b 0 7 = u 0 7 := qov_r (by decide) (by decide) _
    have h00 : qov u a b 0 0 = u 0 0 := qov_r (by decide) (by decide) _
    obtain ⟨T', t1, t2, t3⟩ := km_Td h2 w2 (a := a) (b := b) (by omega) (by omega) hab (l := u 9 b) (by omega)
    refine ⟨T', ?_, t2, fun i hi => by rw [t3 i hi, hf i hi]⟩
    rw [e, t1, show qdrive u a b = qfs (qov u a b) a b from rfl, qfs_2]
  have hS : ∀ v, RM (xput (xput (xput T 1 (20 + u 9 b) (oI v)) 1 (90 + 4 * a + 3) (nI (u 9 b))) 1 (90 + 4 * b + 3) (nI (u 9 a)) 1) (up (qswap u a b) 2 (u 9 b) v) := by
    intro v
    have h9 := rm_seat (rm_seat (rm_own h (v := v) (show u 9 b < 10 by omega)) (v := u 9 b) (show a < 8 by omega)) (v := u 9 a) (show b < 8 by omega)
    have e : up (up (up u 2 (u 9 b) v) 9 a (u 9 b)) 9 b (u 9 a) = up (qswap u a b) 2 (u 9 b) v := by
      unfold qswap
      rw [up_cm (r := 9) (r' := 9) (Or.inr hab), up_cm (r := 2) (r' := 9) (Or.inl (by decide)), up_cm (r := 2) (r' := 9) (Or.inl (by decide))]
    rw [e] at h9
    exact h9
  have hS0 : RM (xput (xput T 1 (90 + 4 * a + 3) (nI (u 9 b))) 1 (90 + 4 * b + 3) (nI (u 9 a)) 1) (qswap u a b) := by
    have h9 := rm_seat (rm_seat h (v := u 9 b) (show a < 8 by omega)) (v := u 9 a) (show b < 8 by omega)
    rw [up_cm (Or.inr hab)] at h9
    exact h9
  obtain ⟨m0, m1, m2, m3, m4, m5, m6, m7, m8, m9, n1, n2, n3, n4, n5, n6, n7, n8, n9, nT⟩ := h
  obtain ⟨hB, w0, w3, w7, wN, wk, wg, wc, wd, wo, wv⟩ := w
  by_cases e : u 2 (u 9 b) = b + 1
  · by_cases e2 : qown u a < 4
    · refine key (xput (xput (xput T 1 (20 + u 9 b) (nI a)) 1 (90 + 4 * a + 3) (nI (u 9 b))) 1 (90 + 4 * b + 3) (nI (u 9 a))) ?_ ?_ ?_
      rotate_left 2
      · simp (disch := omega) only [e_T9d, f_X9_to, xl_s, ob_s, xb_s, rd_n, wr_n, m_1, m_1b, nI_add, pk_mul, l_0, l_1, l_2, l_3, l_4, l_5, l_6, l_7, l_8, l_9, l_10, l_11, l_12, l_13, l_14, l_15, l_16, l_17, l_18, l_19, l_20, l_21, l_22, l_23, l_24, l_30, l_31, l_32, l_40, l_41, l_48, l_57, l_59, l_64, l_90, l_97, l_99, l_100, l_119, l_122, l_186, l_200, l_255, l_600, l_999, l_1488, l_1000000, km_of, n9, how, eo_u hB, i_T, hO, i_leF, if_true, if_false, and_self]
      · unfold qov; rw [if_pos e, if_pos e2]; exact hS (a + 1)
      · intro i hi; rw [xp_n hi, xp_n hi, xp_n hi]
    · refine key (xput (xput (xput T 1 (20 + u 9 b) (oI 0)) 1 (90 + 4 * a + 3) (nI (u 9 b))) 1 (90 + 4 * b + 3) (nI (u 9 a))) ?_ ?_ ?_
      rotate_left 2
      · simp (disch := omega) only [e_T9d, f_X9_to, xl_s, ob_s, xb_s, rd_n, wr_n, m_1, m_1b, nI_add, pk_mul, l_0, l_1, l_2, l_3, l_4, l_5, l_6, l_7, l_8, l_9, l_10, l_11, l_12, l_13, l_14, l_15, l_16, l_17, l_18, l_19, l_20, l_21, l_22, l_23, l_24, l_30, l_31, l_32, l_40, l_41, l_48, l_57, l_59, l_64, l_90, l_97, l_99, l_100, l_119, l_122, l_186, l_200, l_255, l_600, l_999, l_1488, l_1000000, km_of, n9, how, eo_u hB, i_T, hO, i_leT, if_true, if_false, and_self]
      · unfold qov; rw [if_pos e, if_neg e2]; exact hS 0
      · intro i hi; rw [xp_n hi, xp_n hi, xp_n hi]
  · refine key (xput (xput T 1 (90 + 4 * a + 3) (nI (u 9 b))) 1 (90 + 4 * b + 3) (nI (u 9 a))) ?_ ?_ ?_
    rotate_left 2
    · simp (disch := omega) only [e_T9d, f_X9_to, xl_s, ob_s, xb_s, rd_n, wr_n, m_1, m_1b, nI_add, pk_mul, l_0, l_1, l_2, l_3, l_4, l_5, l_6, l_7, l_8, l_9, l_10, l_11, l_12, l_13, l_14, l_15, l_16, l_17, l_18, l_19, l_20, l_21, l_22, l_23, l_24, l_30, l_31, l_32, l_40, l_41, l_48, l_57, l_59, l_64, l_90, l_97, l_99, l_100, l_119, l_122, l_186, l_200, l_255, l_600, l_999, l_1488, l_1000000, km_of, n9, how, eo_u hB, i_F, if_true, if_false, and_self]
    · unfold qov; rw [if_neg e]; exact hS0
    · intro i hi; rw [xp_n hi, xp_n hi]
/-! votes -/
def qv1 (u : QU) (c : Nat) (y : Bool) : QU := up (up u 12 0 (u 12 0 ||| 2 ^ c)) 12 1 (u 12 1 ||| (if y then 2 ^ c else 0))
def qlv (u : QU) : QU := up (up (up (up u 11 0 0) 11 1 0) 12 0 0) 12 1 0
def qdone (u : QU) : Bool := decide (u 12 0 = 2 ^ u 0 7 - 1)
def qadm (u : QU) : Bool := decide (qc (u 12 0) < 2 * qc (u 12 1) ∧ u 0 7 < 8 ∧ qwarm u (u 0 0) ≠ 0)
def qend (u : QU) : QU := qlv (if qadm u = true then qput u (qwarm u (u 0 0) - 1) (u 11 0) (u 11 1) else u)
def qvt (u : QU) (c : Nat) (y : Bool) : QU := if qdone (qv1 u c y) = true then qend (qv1 u c y) else qv1 u c y
theorem k_fill {n : Nat} (hn : n < 1000) (v : Int32) : ∃ S', f_J7_fill_53178 n S v = some S' ∧ (∀ b, b < n → S' 0 b = v) ∧ (∀ b, n ≤ b → S' 0 b = S 0 b) := by
  unfold f_J7_fill_53178
  simp only [xl_s, l_0, show Int32.ofNat n = nI n from rfl]
  refine q_lp (fun n2 j (S1 : XS) => ∃ S', f_J7_fill_53178_L5 n (fun v5 S6 => some S6) v (nI n) n2 (nI j) S1 = some S' ∧ (∀ b, b < n → S' 0 b = v) ∧ (∀ b, n ≤ b → S' 0 b = S 0 b)) (fun j S1 => (∀ b, b < j → S1 0 b = v) ∧ ∀ b, j ≤ b → S1 0 b = S 0 b) n S (by omega) ⟨fun b hb => by omega, fun _ _ => rfl⟩ ?_ ?_
  · intro n2 S1 hI
    exact ⟨S1, by simp (disch := omega) only [f_J7_fill_53178_L5, i_leT], hI.1, hI.2⟩
  · intro n2 j S1 hj hI ih
    simp (disch := omega) only [f_J7_fill_53178_L5, i_leF, xl_s, ob_s, xb_s, rd_n, wr_n, m_1, m_1b, nI_add, pk_mul, l_0, l_1, l_2, l_3, l_4, l_5, l_6, l_7, l_8, l_9, l_10, l_11, l_12, l_13, l_14, l_15, l_16, l_17, l_18, l_19, l_20, l_21, l_22, l_23, l_24, l_30, l_31, l_32, l_40, l_41, l_48, l_57, l_59, l_64, l_90, l_97, l_99, l_100, l_119, l_122, l_186, l_200, l_255, l_600, l_999, l_1488, l_1000000]
    refine ih _ ⟨fun b hb => ?_, fun b hb => ?_⟩
    · rw [xp_s]
      by_cases e : b = j
      · rw [if_pos e]
      · rw [if_neg e]; exact hI.1 b (by omega)
    · rw [xp_s, if_neg (by omega)]; exact hI.2 b (by omega)
theorem xm_n {o n x y : Nat} {A B : XS} (h : x < o ∨ o + n ≤ x) : xm o n A B x y = A x y := by unfold xm; rw [if_neg (by omega)]
theorem xm_i {o n x y : Nat} {A B : XS} (h : o ≤ x ∧ x < o + n) : xm o n A B x y = B (x - o) y := by unfold xm; rw [if_pos h]
theorem len_kit : shKit.length = 2 := rfl
theorem kc_leave (h : RC S u) : ∃ S', f_X3_leave (xs 11 S) = some S' ∧ RC (xm 11 2 S S') (qlv u) := by
  obtain ⟨S1, e1, e2, -⟩ := k_fill (S := xs 1 (xput (xs 11 S) 0 0 (nI 0))) (n := 8) (by decide) (nI 0)
  obtain ⟨⟨c0, c3, c7, cN, cG, cA⟩, r1, r2, r3, r4, r5, r6, r7, r8, r9, rT, kw, kg, kb⟩ := h
  refine ⟨xm 1 1 (xput (xs 11 S) 0 0 (nI 0)) S1, ?_, ?_⟩
  · simp only [f_X3_leave, xl_s, ob_s, xb_s, rd_n, wr_n, m_1, m_1b, nI_add, pk_mul, l_0, l_1, l_2, l_3, l_4, l_5, l_6, l_7, l_8, l_9, l_10, l_11, l_12, l_13, l_14, l_15, l_16, l_17, l_18, l_19, l_20, l_21, l_22, l_23, l_24, l_30, l_31, l_32, l_40, l_41, l_48, l_57, l_59, l_64, l_90, l_97, l_99, l_100, l_119, l_122, l_186, l_200, l_255, l_600, l_999, l_1488, l_1000000, e1]
  · unfold qlv
    refine ⟨⟨?_, ?_, ?_, ?_, ?_, ?_⟩, fun k hk => ?_, fun k hk => ?_, fun k hk => ?_, fun k hk => ?_, fun k hk => ?_, fun k hk => ?_, fun k hk => ?_, fun k hk => ?_, fun k hk => ?_, fun k hk => ?_, ?_, fun hk => ?_, fun k hk => ?_⟩
    all_goals (try simp (disch := omega) only [up_n, up_s, i_T, i_F, if_true, if_false, and_self] at hk)
    all_goals (try simp (disch := omega) only [up_n, up_s, i_T, i_F, xm_n, xm_i, xp_s, c0, c3, c7, cN, cG, cA, r1, r2, r3, r4, r5, r6, r7, r8, r9, rT, if_true, if_false, and_self])
    · exact absurd rfl hk
    · show S1 0 k = _
      rw [e2 k hk, qb]
      simp (disch := omega) only [up_n, up_s, i_T, i_F, Nat.zero_testBit, if_true, if_false, and_self]
      rfl
theorem rc_v1 (h : RC S u) (w : WF u) (hc : c < u 0 7) (hb : (u 12 0).testBit c = false) (y : Bool) : RC (xput S 12 c (nI (if y = true then 1 else 2))) (qv1 u c y) := by
  have h1 : (u 12 1).testBit c = false := by
    obtain ⟨hB, w0, w3, w7, wN, wk, wg, wc, wd, wo, wv⟩ := w
    cases e : (u 12 1).testBit c
    · rfl
    · rw [wv.2.2.2.2.1 c e] at hb; exact hb
  obtain ⟨⟨c0, c3, c7, cN, cG, cA⟩, r1, r2, r3, r4, r5, r6, r7, r8, r9, rT, kw, kg, kb⟩ := h
  unfold qv1
  refine ⟨⟨?_, ?_, ?_, ?_, ?_, ?_⟩, fun k hk => ?_, fun k hk => ?_, fun k hk => ?_, fun k hk => ?_, fun k hk => ?_, fun k hk => ?_, fun k hk => ?_, fun k hk => ?_, fun k hk => ?_, fun k hk => ?_, ?_, fun hk => ?_, fun k hk => ?_⟩
  all_goals (try simp (disch := omega) only [up_n, up_s, i_T, i_F, if_true, if_false, and_self] at hk)
  all_goals (try simp (disch := omega) only [up_n, up_s, i_T, i_F, xq_n, xp_s, c0, c3, c7, cN, cG, cA, r1, r2, r3, r4, r5, r6, r7, r8, r9, rT, kw, kg, if_true, if_false, and_self])
  rw [qb]
  simp (disch := omega) only [up_n, up_s, i_T, i_F, Nat.testBit_or, Nat.testBit_two_pow, if_true, if_false, and_self]
  by_cases e : k = c
  · rw [if_pos e, e, hb, h1]
    cases y <;> simp [Nat.testBit_two_pow]
  · rw [if_neg e, kb k hk, qb]
    have e2 : (if y = true then 2 ^ c else 0 : Nat).testBit k = false := by
      cases y
      · simp
      · rw [if_pos rfl]; exact Nat.testBit_two_pow_of_ne (fun q => e q.symm)
    rw [e2, decide_eq_false (fun q => e q.symm), Bool.or_false, Bool.or_false]
theorem wf_v1 (w : WF u) (hc : c < u 0 7) (h11 : u 11 0 ≠ 0) (y : Bool) : WF (qv1 u c y) := by
  have hq : ∀ d, qown (qv1 u c y) d = qown u d := fun d => by
    unfold qown qv1
    simp (disch := omega) only [up_n]
  have h12 := m12 w
  have h8 : u 0 7 ≤ 8 := by obtain ⟨hB, w0, w3, w7, wN, wk, wg, wc, wd, wo, wv⟩ := w; exact w7
  have l0 : u 12 0 ||| 2 ^ c < 2 ^ u 0 7 := Nat.or_lt_two_pow (by obtain ⟨hB, w0, w3, w7, wN, wk, wg, wc, wd, wo, wv⟩ := w; exact wv.2.2.2.1) (p2_lt hc)
  have l1 : u 12 1 ||| (if y then 2 ^ c else 0) < 256 := Nat.or_lt_two_pow (n := 8) h12.2 (by
    split
    · exact p2_lt (by omega)
    · decide)
  have l2 : u 12 0 ||| 2 ^ c < 256 := lt_p2 (n := 8) l0 h8
  obtain ⟨hB, w0, w3, w7, wN, wk, wg, wc, wd, wo, wv⟩ := w
  refine ⟨?_, ?_, ?_, ?_, ?_, fun k hk => ?_, fun k hk => ?_, fun k hk => ?_, fun k k2 hk hk2 => ?_, fun k hk => ?_, ?_⟩
  · exact up_B (up_B hB (by omega)) (by omega)
  all_goals (try unfold qv1 at hk)
  all_goals (try unfold qv1 at hk2)
  all_goals (try simp (disch := omega) only [up_n, up_s, i_T, i_F, if_true, if_false, and_self] at hk)
  all_goals (try simp (disch := omega) only [up_n, up_s, i_T, i_F, if_true, if_false, and_self] at hk2)
  all_goals (try rw [hq])
  all_goals (try unfold qv1)
  all_goals (try simp (disch := omega) only [up_n, up_s, i_T, i_F, if_true, if_false, and_self])
  · exact w0
  · exact w3
  · exact w7
  · exact wN
  · exact wk k hk
  · exact wg k hk
  · exact wc k hk
  · exact wd k k2 hk hk2
  · exact wo k hk
  · refine ⟨wv.1, wv.2.1, wv.2.2.1, l0, fun d hd => ?_, fun q => absurd q h11⟩
    rw [tb_or] at hd ⊢
    rcases hd with hd | hd
    · exact Or.inl (wv.2.2.2.2.1 d hd)
    · cases y
      · simp at hd
      · exact Or.inr hd
/-- the ballots counted -/
theorem qb_yes (w : WF u) : fb_ct (fun c => decide (qb u c = 1)) 8 = qc (u 12 1) := by
  have h := m12 w
  have e : qc (u 12 1) = fb_ct (fun k => (u 12 1).testBit k) (8 + 2) := rfl
  rw [e, ct_far (fun k hk => Nat.testBit_lt_two_pow (lt_p2 (m := 8) h.2 hk))]
  refine fb_ct_cong (fun k hk => ?_)
  have hs : (u 12 1).testBit k = true → (u 12 0).testBit k = true := by obtain ⟨hB, w0, w3, w7, wN, wk, wg, wc, wd, wo, wv⟩ := w; exact wv.2.2.2.2.1 k
  unfold qb
  cases e1 : (u 12 1).testBit k
  · cases (u 12 0).testBit k <;> rfl
  · rw [hs e1]; rfl
theorem qb_all (w : WF u) : fb_ct (fun c => decide (qb u c = 1)) 8 + fb_ct (fun c => decide (qb u c = 2)) 8 = qc (u 12 0) := by
  have h := m12 w
  have e : qc (u 12 0) = fb_ct (fun k => (u 12 0).testBit k) (8 + 2) := rfl
  rw [e, ct_far (fun k hk => Nat.testBit_lt_two_pow (lt_p2 (m := 8) h.1 hk)), ← fb_ct_or (fun k hk q => by
    have h1 := of_decide_eq_true q.1
    have h2 := of_decide_eq_true q.2
    omega)]
  refine fb_ct_cong (fun k hk => ?_)
  unfold qb
  cases e1 : (u 12 1).testBit k <;> cases e2 : (u 12 0).testBit k <;> rfl
theorem qc_full (w : WF u) : u 0 7 ≤ qc (u 12 0) ↔ u 12 0 = 2 ^ u 0 7 - 1 := by
  have h8 : u 0 7 ≤ 8 ∧ u 12 0 < 2 ^ u 0 7 := by obtain ⟨hB, w0, w3, w7, wN, wk, wg, wc, wd, wo, wv⟩ := w; exact ⟨w7, wv.2.2.2.1⟩
  have e : qc (u 12 0) = fb_ct (fun k => (u 12 0).testBit k) (u 0 7) := by
    have e0 : qc (u 12 0) = fb_ct (fun k => (u 12 0).testBit k) (u 0 7 + (10 - u 0 7)) := by rw [Nat.add_sub_cancel' (by omega)]; rfl
    rw [e0, ct_far (fun k hk => Nat.testBit_lt_two_pow (lt_p2 h8.2 hk))]
  have hle := fb_ct_le (fun k => (u 12 0).testBit k) (u 0 7)
  constructor
  · intro q
    have q2 := fb_ct_all.mp (show fb_ct (fun k => (u 12 0).testBit k) (u 0 7) = u 0 7 by omega)
    refine Nat.eq_of_testBit_eq (fun k => ?_)
    rw [Nat.testBit_two_pow_sub_one]
    by_cases hk : k < u 0 7
    · rw [q2 k hk, decide_eq_true hk]
    · rw [decide_eq_false hk, Nat.testBit_lt_two_pow (lt_p2 h8.2 (by omega))]
  · intro q
    have q2 : fb_ct (fun k => (u 12 0).testBit k) (u 0 7) = u 0 7 := fb_ct_all.mpr (fun k (hk : k < u 0 7) => show (u 12 0).testBit k = true by rw [q, Nat.testBit_two_pow_sub_one, decide_eq_true hk])
    omega
theorem wf_lv (w : WF u) : WF (qlv u) := by
  have hq : ∀ d, qown (qlv u) d = qown u d := fun d => by
    unfold qown qlv
    simp (disch := omega) only [up_n]
  obtain ⟨hB, w0, w3, w7, wN, wk, wg, wc, wd, wo, wv⟩ := w
  refine ⟨?_, ?_, ?_, ?_, ?_, fun k hk => ?_, fun k hk => ?_, fun k hk => ?_, fun k k2 hk hk2 => ?_, fun k hk => ?_, ?_⟩
  · exact up_B (up_B (up_B (up_B hB (by omega)) (by omega)) (by omega)) (by omega)
  all_goals (try unfold qlv at hk)
  all_goals (try unfold qlv at hk2)
  all_goals (try simp (disch := omega) only [up_n, up_s, i_T, i_F, if_true, if_false, and_self] at hk)
  all_goals (try simp (disch := omega) only [up_n, up_s, i_T, i_F, if_true, if_false, and_self] at hk2)
  all_goals (try rw [hq])
  all_goals (try unfold qlv)
  all_goals (try simp (disch := omega) only [up_n, up_s, i_T, i_F, if_true, if_false, and_self])
  · exact w0
  · exact w3
  · exact w7
  · exact wN
  · exact wk k hk
  · exact wg k hk
  · exact wc k hk
  · exact wd k k2 hk hk2
  · exact wo k hk
  · exact ⟨by omega, by omega, fun q => absurd rfl q, Nat.two_pow_pos _, fun _ q => q, fun _ => trivial⟩
theorem wf_end (w : WF u) (h11 : u 11 0 ≠ 0) : WF (qend u) := by
  unfold qend
  refine wf_lv ?_
  by_cases e : qadm u = true
  · rw [if_pos e]
    obtain ⟨-, h1, h2⟩ := of_decide_eq_true e
    obtain ⟨p, hp⟩ : ∃ p, qwarm u (u 0 0) = p + 1 := ⟨qwarm u (u 0 0) - 1, by omega⟩
    have h3 := qwarm_s u hp
    rw [hp, Nat.add_sub_cancel]
    have h4 : u 11 0 ≤ 9 ∧ u 11 1 ≤ 9 ∧ 1 ≤ u 11 1 := by obtain ⟨hB, w0, w3, w7, wN, wk, wg, wc, wd, wo, wv⟩ := w; exact ⟨wv.1, wv.2.1, wv.2.2.1 h11⟩
    exact wf_put w h1 h3.1 h3.2 (by omega) (by omega)
  · rw [if_neg e]; exact w
theorem kc_Tv (h : RC S u) (w : WF u) (h11 : u 11 0 ≠ 0) (x : Int32) : ∃ S', f_T6v S x = some (nB (qdone u && qadm u), S') ∧ RC S' (if qdone u = true then qend u else u) := by
  have h1 := kc_votes h (v := 1) (by decide)
  have h2 := kc_votes h (v := 2) (by decide)
  have hy := qb_yes w
  have ha := qb_all w
  have hf := qc_full w
  have hw := kc_warm h w
  have hwl := qwarm_le u (u 0 0)
  have hcl := qc_le (u 12 0)
  obtain ⟨L, l1, l2⟩ := kc_leave h
  have hp := fun (hn : u 0 7 < 8) (k g s : Nat) => kc_put h w hn (k := k) (g := g) (s := s)
  have h' := h
  obtain ⟨⟨c0, c3, c7, cN, cG, cA⟩, r1, r2, r3, r4, r5, r6, r7, r8, r9, rT, kw, kg, kb⟩ := h
  obtain ⟨hB, w0, w3, w7, wN, wk, wg, wc, wd, wo, wv⟩ := w
  obtain ⟨kg1, kg2⟩ := kg h11
  generalize fb_ct (fun c => decide (qb u c = 1)) 8 = Y at *
  generalize fb_ct (fun c => decide (qb u c = 2)) 8 = N at *
  by_cases e : qdone u = true
  · have e1 := of_decide_eq_true e
    have e2 := hf.mpr e1
    rw [if_pos e, e, Bool.true_and]
    unfold qend
    by_cases f : qadm u = true
    · obtain ⟨g1, g2, g3⟩ := of_decide_eq_true f
      obtain ⟨p, hp9⟩ : ∃ p, qwarm u (u 0 0) = p + 1 := ⟨qwarm u (u 0 0) - 1, by omega⟩
      obtain ⟨S1, p1, p2, -, -⟩ := hp g2 p (u 11 0) (u 11 1)
      obtain ⟨L1, l3, l4⟩ := kc_leave p2
      rw [if_pos f, f]
      refine ⟨xm 11 2 S1 L1, ?_, ?_⟩
      · simp (disch := omega) only [f_T6v, xl_s, ob_s, xb_s, rd_n, wr_n, m_1, m_1b, nI_add, pk_mul, l_0, l_1, l_2, l_3, l_4, l_5, l_6, l_7, l_8, l_9, l_10, l_11, l_12, l_13, l_14, l_15, l_16, l_17, l_18, l_19, l_20, l_21, l_22, l_23, l_24, l_30, l_31, l_32, l_40, l_41, l_48, l_57, l_59, l_64, l_90, l_97, l_99, l_100, l_119, l_122, l_186, l_200, l_255, l_600, l_999, l_1488, l_1000000, h1, h2, c7, i_leT, i_leF, hw, i_oF, hp9, kg1, kg2, show oI (p + 1) = nI p from rfl, p1, l3, len_kit]
        rw [if_neg (show ¬ nI p = oI 0 from nI_nm1 (by omega))]
        rfl
      · rw [hp9, Nat.add_sub_cancel]; exact l4
    · rw [if_neg f, b_f f]
      refine ⟨xm 11 2 S L, ?_, l2⟩
      simp (disch := omega) only [f_T6v, xl_s, ob_s, xb_s, rd_n, wr_n, m_1, m_1b, nI_add, pk_mul, l_0, l_1, l_2, l_3, l_4, l_5, l_6, l_7, l_8, l_9, l_10, l_11, l_12, l_13, l_14, l_15, l_16, l_17, l_18, l_19, l_20, l_21, l_22, l_23, l_24, l_30, l_31, l_32, l_40, l_41, l_48, l_57, l_59, l_64, l_90, l_97, l_99, l_100, l_119, l_122, l_186, l_200, l_255, l_600, l_999, l_1488, l_1000000, h1, h2, c7, i_leT, hw, l1, len_kit]
      have f' := of_decide_eq_false (b_f f)
      by_cases g1 : Y ≤ N
      · rw [if_pos (nI_le g1 (by omega))]; rfl
      · rw [if_neg (nI_ge (by omega) (by omega))]
        by_cases g2 : 8 ≤ u 0 7
        · rw [if_pos (nI_le g2 (by omega))]; rfl
        · rw [if_neg (nI_ge (by omega) (by omega))]
          have g3 : qwarm u (u 0 0) = 0 := by
            rcases Nat.eq_zero_or_pos (qwarm u (u 0 0)) with q | q
            · exact q
            · exact absurd ⟨by omega, by omega, by omega⟩ f'
          rw [g3, if_pos rfl]; rfl
  · have e1 : ¬ u 12 0 = 2 ^ u 0 7 - 1 := of_decide_eq_false (b_f e)
    have e2 : ¬ u 0 7 ≤ qc (u 12 0) := fun q => e1 (hf.mp q)
    rw [if_neg e, b_f e, Bool.false_and]
    refine ⟨S, ?_, h'⟩
    simp (disch := omega) only [f_T6v, xl_s, ob_s, xb_s, rd_n, wr_n, m_1, m_1b, nI_add, pk_mul, l_0, l_1, l_2, l_3, l_4, l_5, l_6, l_7, l_8, l_9, l_10, l_11, l_12, l_13, l_14, l_15, l_16, l_17, l_18, l_19, l_20, l_21, l_22, l_23, l_24, l_30, l_31, l_32, l_40, l_41, l_48, l_57, l_59, l_64, l_90, l_97, l_99, l_100, l_119, l_122, l_186, l_200, l_255, l_600, l_999, l_1488, l_1000000, h1, h2, c7, i_leF]
    rfl
theorem kc_vote (h : RC S u) (w : WF u) (hc : c < u 0 7) (hv : qvot u c = true) (y : Bool) : ∃ S', f_X6_takeVote S (nI c) (nB y) = some (nB (qdone (qv1 u c y) && qadm (qv1 u c y)), S') ∧ RC S' (qvt u c y) := by
  obtain ⟨h11, hb⟩ := of_decide_eq_true hv
  have h7 : u 0 7 ≤ 8 := by obtain ⟨hB, w0, w3, w7, wN, wk, wg, wc, wd, wo, wv⟩ := w; exact w7
  have h1 := rc_v1 h w hc hb y
  have h2 := wf_v1 w hc h11 y
  obtain ⟨S', t1, t2⟩ := kc_Tv h1 h2 (by unfold qv1; simp (disch := omega) only [up_n]; exact h11) (nI c)
  refine ⟨S', ?_, t2⟩
  cases y
  · simp (disch := omega) only [e_T6v, xl_s, ob_s, xb_s, rd_n, wr_n, m_1, m_1b, nI_add, pk_mul, l_0, l_1, l_2, l_3, l_4, l_5, l_6, l_7, l_8, l_9, l_10, l_11, l_12, l_13, l_14, l_15, l_16, l_17, l_18, l_19, l_20, l_21, l_22, l_23, l_24, l_30, l_31, l_32, l_40, l_41, l_48, l_57, l_59, l_64, l_90, l_97, l_99, l_100, l_119, l_122, l_186, l_200, l_255, l_600, l_999, l_1488, l_1000000, nBf0, if_true]
    exact t1
  · simp (disch := omega) only [e_T6v, xl_s, ob_s, xb_s, rd_n, wr_n, m_1, m_1b, nI_add, pk_mul, l_0, l_1, l_2, l_3, l_4, l_5, l_6, l_7, l_8, l_9, l_10, l_11, l_12, l_13, l_14, l_15, l_16, l_17, l_18, l_19, l_20, l_21, l_22, l_23, l_24, l_30, l_31, l_32, l_40, l_41, l_48, l_57, l_59, l_64, l_90, l_97, l_99, l_100, l_119, l_122, l_186, l_200, l_255, l_600, l_999, l_1488, l_1000000, nBt0, if_false]
    exact t1
theorem rm_lv (h : RM (T 1) u) : RM (xput (xput (xput (xput T 1 4 (nI 0)) 1 5 (nI 0)) 1 6 (nI 0)) 1 7 (nI 0) 1) (qlv u) := by
  obtain ⟨m0, m1, m2, m3, m4, m5, m6, m7, m8, m9, n1, n2, n3, n4, n5, n6, n7, n8, n9, nT⟩ := h
  unfold qlv
  refine ⟨?_, ?_, ?_, ?_, ?_, ?_, ?_, ?_, ?_, ?_, fun k hk => ?_, fun k hk => ?_, fun k hk => ?_, fun k hk => ?_, fun k hk => ?_, fun k hk => ?_, fun k hk => ?_, fun k hk => ?_, fun k hk => ?_, fun a b ha hb => ?_⟩
  all_goals simp (disch := omega) only [xp_s, up_n, up_s, i_T, i_F, m0, m1, m2, m3, m4, m5, m6, m7, m8, m9, n1, n2, n3, n4, n5, n6, n7, n8, n9, nT, if_true, if_false, and_self]
theorem km_dec (h : RM (T 1) u) (w : WF u) (h11 : u 11 0 ≠ 0) : ∃ T', f_X9_decides T = some (nB (qadm u), T') ∧ RM (T' 1) (qend u) ∧ ∀ i, i ≠ 1 → T' i = T i := by
  have h12 := m12 w
  have hw := km_warm h w
  have hwl := qwarm_le u (u 0 0)
  have hb0 := bi_n (u 12 0) (by omega)
  have hb1 := bi_n (u 12 1) (by omega)
  have hc0 := qc_le (u 12 0)
  have hc1 := qc_le (u 12 1)
  have hp := fun (hn : u 0 7 < 8) (k g s : Nat) => km_put h w hn (x := k) (g := g) (s := s)
  have hl := rm_lv h
  obtain ⟨m0, m1, m2, m3, m4, m5, m6, m7, m8, m9, n1, n2, n3, n4, n5, n6, n7, n8, n9, nT⟩ := h
  obtain ⟨hB, w0, w3, w7, wN, wk, wg, wc, wd, wo, wv⟩ := w
  unfold qend
  by_cases f : qadm u = true
  · obtain ⟨g1, g2, g3⟩ := of_decide_eq_true f
    obtain ⟨p, hp9⟩ : ∃ p, qwarm u (u 0 0) = p + 1 := ⟨qwarm u (u 0 0) - 1, by omega⟩
    obtain ⟨T1, p1, p2, p3⟩ := hp g2 p (u 11 0) (u 11 1)
    rw [if_pos f, f]
    refine ⟨xput (xput (xput (xput T1 1 4 (nI 0)) 1 5 (nI 0)) 1 6 (nI 0)) 1 7 (nI 0), ?_, ?_, fun i hi => by rw [xp_n hi, xp_n hi, xp_n hi, xp_n hi, p3 i hi]⟩
    · simp (disch := omega) only [f_X9_decides, xl_s, ob_s, xb_s, rd_n, wr_n, m_1, m_1b, nI_add, pk_mul, l_0, l_1, l_2, l_3, l_4, l_5, l_6, l_7, l_8, l_9, l_10, l_11, l_12, l_13, l_14, l_15, l_16, l_17, l_18, l_19, l_20, l_21, l_22, l_23, l_24, l_30, l_31, l_32, l_40, l_41, l_48, l_57, l_59, l_64, l_90, l_97, l_99, l_100, l_119, l_122, l_186, l_200, l_255, l_600, l_999, l_1488, l_1000000, hw, m2, m4, m5, m6, m7, hb0, hb1, i_leF, i_oF, hp9, show oI (p + 1) = nI p from rfl, p1]
      rw [if_neg (show ¬ nI p = oI 0 from nI_nm1 (by omega))]
      rfl
    · rw [hp9, Nat.add_sub_cancel]; exact rm_lv p2
  · rw [if_neg f, b_f f]
    refine ⟨xput (xput (xput (xput T 1 4 (nI 0)) 1 5 (nI 0)) 1 6 (nI 0)) 1 7 (nI 0), ?_, hl, fun i hi => by rw [xp_n hi, xp_n hi, xp_n hi, xp_n hi]⟩
    simp (disch := omega) only [f_X9_decides, xl_s, ob_s, xb_s, rd_n, wr_n, m_1, m_1b, nI_add, pk_mul, l_0, l_1, l_2, l_3, l_4, l_5, l_6, l_7, l_8, l_9, l_10, l_11, l_12, l_13, l_14, l_15, l_16, l_17, l_18, l_19, l_20, l_21, l_22, l_23, l_24, l_30, l_31, l_32, l_40, l_41, l_48, l_57, l_59, l_64, l_90, l_97, l_99, l_100, l_119, l_122, l_186, l_200, l_255, l_600, l_999, l_1488, l_1000000, hw, m2, m4, m5, m6, m7, hb0, hb1]
    have f' := of_decide_eq_false (b_f f)
    by_cases g1 : 2 * qc (u 12 1) ≤ qc (u 12 0)
    · rw [if_pos (nI_le g1 (by omega))]; rfl
    · rw [if_neg (nI_ge (by omega) (by omega))]
      by_cases g2 : 8 ≤ u 0 7
      · rw [if_pos (nI_le g2 (by omega))]; rfl
      · rw [if_neg (nI_ge (by omega) (by omega))]
        have g3 : qwarm u (u 0 0) = 0 := by
          rcases Nat.eq_zero_or_pos (qwarm u (u 0 0)) with q | q
          · exact q
          · exact absurd ⟨by omega, by omega, by omega⟩ f'
        rw [g3, if_pos rfl]; rfl
theorem rm_v1 (h : RM (T 1) u) (hc : c < 8) (y : Bool) : RM (xput (xput T 1 6 (nI (u 12 0 ||| 2 ^ c))) 1 7 (nI (u 12 1 ||| (if y then 2 ^ c else 0))) 1) (qv1 u c y) := by
  obtain ⟨m0, m1, m2, m3, m4, m5, m6, m7, m8, m9, n1, n2, n3, n4, n5, n6, n7, n8, n9, nT⟩ := h
  unfold qv1
  refine ⟨?_, ?_, ?_, ?_, ?_, ?_, ?_, ?_, ?_, ?_, fun k hk => ?_, fun k hk => ?_, fun k hk => ?_, fun k hk => ?_, fun k hk => ?_, fun k hk => ?_, fun k hk => ?_, fun k hk => ?_, fun k hk => ?_, fun a b ha hb => ?_⟩
  all_goals simp (disch := omega) only [xp_s, up_n, up_s, i_T, i_F, m0, m1, m2, m3, m4, m5, m6, m7, m8, m9, n1, n2, n3, n4, n5, n6, n7, n8, n9, nT, if_true, if_false, and_self]
theorem km_vote (h : RM (T 1) u) (w : WF u) (hc : c < u 0 7) (hv : qvot u c = true) (y : Bool) : ∃ T', f_X9_votes T (nI c) (nB y) = some (nB (qdone (qv1 u c y) && qadm (qv1 u c y)), T') ∧ RM (T' 1) (qvt u c y) ∧ ∀ i, i ≠ 1 → T' i = T i := by
  obtain ⟨h11, hb⟩ := of_decide_eq_true hv
  have h7 : u 0 7 ≤ 8 := by obtain ⟨hB, w0, w3, w7, wN, wk, wg, wc, wd, wo, wv⟩ := w; exact w7
  have h2 := wf_v1 w hc h11 y
  have h1 := rm_v1 h (c := c) (by omega) y
  have h11' : qv1 u c y 11 0 ≠ 0 := by unfold qv1; simp (disch := omega) only [up_n]; exact h11
  have h17 : qv1 u c y 0 7 = u 0 7 := by unfold qv1; simp (disch := omega) only [up_n]
  obtain ⟨T', t1, t2, t3⟩ := km_dec h1 h2 h11'
  have h12 := m12 h2
  have key : ∃ T', f_T9v (xput (xput T 1 6 (nI (u 12 0 ||| 2 ^ c))) 1 7 (nI (u 12 1 ||| (if y then 2 ^ c else 0)))) (nI c) = some (nB (qdone (qv1 u c y) && qadm (qv1 u c y)), T') ∧ RM (T' 1) (qvt u c y) ∧ ∀ i, i ≠ 1 → T' i = T i := by
    have k6 : xput (xput T 1 6 (nI (u 12 0 ||| 2 ^ c))) 1 7 (nI (u 12 1 ||| (if y then 2 ^ c else 0))) 1 6 = nI (qv1 u c y 12 0) := h1.2.2.2.2.2.2.1
    have k2 : xput (xput T 1 6 (nI (u 12 0 ||| 2 ^ c))) 1 7 (nI (u 12 1 ||| (if y then 2 ^ c else 0))) 1 2 = nI (u 0 7) := by rw [← h17]; exact h1.2.2.1
    have hsh : nI (2 ^ u 0 7) - nI 1 = nI (2 ^ u 0 7 - 1) := pk_sub (Nat.two_pow_pos _)
    have h256 : 2 ^ u 0 7 ≤ 2 ^ 8 := Nat.pow_le_pow_right (by decide) h7
    simp (disch := omega) only [f_T9v, xl_s, ob_s, xb_s, rd_n, wr_n, m_1, m_1b, nI_add, pk_mul, l_0, l_1, l_2, l_3, l_4, l_5, l_6, l_7, l_8, l_9, l_10, l_11, l_12, l_13, l_14, l_15, l_16, l_17, l_18, l_19, l_20, l_21, l_22, l_23, l_24, l_30, l_31, l_32, l_40, l_41, l_48, l_57, l_59, l_64, l_90, l_97, l_99, l_100, l_119, l_122, l_186, l_200, l_255, l_600, l_999, l_1488, l_1000000, k6, k2, sh_n, hsh, t1, nI_eq]
    unfold qvt qdone
    rw [h17]
    by_cases e : qv1 u c y 12 0 = 2 ^ u 0 7 - 1
    · rw [if_pos e, decide_eq_true e, if_pos (show true = true from rfl), Bool.true_and]
      refine ⟨T', ?_, t2, fun i hi => by rw [t3 i hi, xp_n hi, xp_n hi]⟩
      cases qadm (qv1 u c y) <;> rfl
    · rw [if_neg e, decide_eq_false e, if_neg (show ¬ false = true by decide), Bool.false_and]
      exact ⟨_, rfl, h1, fun i hi => by rw [xp_n hi, xp_n hi]⟩
  obtain ⟨T9, k1, k2, k3⟩ := key
  refine ⟨T9, ?_, k2, k3⟩
  obtain ⟨m0, m1, m2, m3, m4, m5, m6, m7, m8, m9, n1, n2, n3, n4, n5, n6, n7, n8, n9, nT⟩ := h
  cases y
  · simp (disch := omega) only [e_T9v, xl_s, ob_s, xb_s, rd_n, wr_n, m_1, m_1b, nI_add, pk_mul, l_0, l_1, l_2, l_3, l_4, l_5, l_6, l_7, l_8, l_9, l_10, l_11, l_12, l_13, l_14, l_15, l_16, l_17, l_18, l_19, l_20, l_21, l_22, l_23, l_24, l_30, l_31, l_32, l_40, l_41, l_48, l_57, l_59, l_64, l_90, l_97, l_99, l_100, l_119, l_122, l_186, l_200, l_255, l_600, l_999, l_1488, l_1000000, m6, m7, sh_n, fa_or, xp_s, i_F, nBf0, if_true]
    exact k1
  · simp (disch := omega) only [e_T9v, xl_s, ob_s, xb_s, rd_n, wr_n, m_1, m_1b, nI_add, pk_mul, l_0, l_1, l_2, l_3, l_4, l_5, l_6, l_7, l_8, l_9, l_10, l_11, l_12, l_13, l_14, l_15, l_16, l_17, l_18, l_19, l_20, l_21, l_22, l_23, l_24, l_30, l_31, l_32, l_40, l_41, l_48, l_57, l_59, l_64, l_90, l_97, l_99, l_100, l_119, l_122, l_186, l_200, l_255, l_600, l_999, l_1488, l_1000000, m6, m7, sh_n, fa_or, xp_s, i_F, nBt0, if_false, if_true, if_false, and_self]
    exact k1
theorem wf_vt (w : WF u) (hc : c < u 0 7) (hv : qvot u c = true) (y : Bool) : WF (qvt u c y) := by
  obtain ⟨h11, hb⟩ := of_decide_eq_true hv
  have h2 := wf_v1 w hc h11 y
  unfold qvt
  split
  · exact wf_end h2 (by unfold qv1; simp (disch := omega) only [up_n]; exact h11)
  · exact h2
end
