/-! level 2: a whole script, on both sides -/
/-- the empty roof -/
def q0 : QU := fun r _ => if r = 2 then 1 else 0
abbrev QE : Type := (Nat × Nat) ⊕ QU
def YC1 (S' : XS) : QE → Prop
  | .inl e => S' 0 2 = nI e.1 ∧ S' 0 3 = nI e.2
  | .inr u => S' 0 2 = nI 0 ∧ S' 0 3 = oI 0 ∧ RC (xs 3 S') u
def YM1 (b : Bool) (T' : XS) : QE → Prop
  | .inl e => b = false ∧ T' 0 12 = nI e.1 ∧ T' 0 13 = nI e.2
  | .inr u => b = true ∧ T' 0 12 = nI 0 ∧ T' 0 13 = oI 0 ∧ RM (T' 1) u
def YB : QE → Prop
  | .inl e => 1 ≤ e.1 ∧ e.1 ≤ 5
  | .inr u => WF u ∧ u 0 13 ≤ 999
section
variable {tx : Nat → Nat} {L p n d r k c j : Nat} {u : QU} {S S' T T' : XS} {x : Nat → Nat}
theorem wf_0 : WF q0 := by
  have e : ∀ r i, r ≠ 2 → q0 r i = 0 := fun r i h => if_neg h
  have e2 : ∀ i, q0 2 i = 1 := fun i => if_pos rfl
  refine ⟨fun r i hr => ?_, ?_, ?_, ?_, ?_, fun k hk => ?_, fun k hk => ?_, fun k hk => ?_, fun k k2 hk hk2 => ?_, fun k hk => ?_, ?_⟩
  · by_cases h : r = 2
    · rw [h, e2]; decide
    · rw [e r i h]; decide
  · rw [e 0 0 (by decide)]; decide
  · rw [e 0 3 (by decide)]; decide
  · rw [e 0 7 (by decide)]; decide
  · rw [e 0 13 (by decide)]; decide
  · rw [e 0 0 (by decide)] at hk; omega
  · rw [e 0 3 (by decide)] at hk; omega
  · rw [e 0 7 (by decide)] at hk; omega
  · rw [e 0 7 (by decide)] at hk; omega
  · rw [e 0 7 (by decide)] at hk; omega
  · rw [e 11 0 (by decide), e 11 1 (by decide), e 12 0 (by decide), e 12 1 (by decide), e 0 7 (by decide)]
    exact ⟨by decide, by decide, fun h => absurd rfl h, by decide, fun c h => h, fun _ => rfl⟩
theorem rc_q0 (h : ∀ y, S 0 y = nI 0 ∨ ¬ (y = 0 ∨ y = 3 ∨ y = 7 ∨ y = 13 ∨ y = 14 ∨ y = 15)) (h10 : ∀ i, i < 64 → S 10 i = nI 0) (h11 : S 11 0 = nI 0) (h12 : ∀ c, c < 8 → S 12 c = nI 0) : RC S q0 := by
  have e : ∀ r i, r ≠ 2 → q0 r i = 0 := fun r i h => if_neg h
  have z : ∀ y, (y = 0 ∨ y = 3 ∨ y = 7 ∨ y = 13 ∨ y = 14 ∨ y = 15) → S 0 y = nI 0 := fun y hy => (h y).resolve_right (fun t => t hy)
  refine ⟨⟨?_, ?_, ?_, ?_, ?_, ?_⟩, fun k hk => ?_, fun k hk => ?_, fun k hk => ?_, fun k hk => ?_, fun k hk => ?_, fun k hk => ?_, fun k hk => ?_, fun k hk => ?_, fun k hk => ?_, fun k hk => ?_, ?_, fun hk => ?_, fun k hk => ?_⟩
  · rw [e 0 0 (by decide)]; exact z 0 (by decide)
  · rw [e 0 3 (by decide)]; exact z 3 (by decide)
  · rw [e 0 7 (by decide)]; exact z 7 (by decide)
  · rw [e 0 13 (by decide)]; exact z 13 (by decide)
  · rw [e 20 0 (by decide)]; exact z 14 (by decide)
  · rw [e 20 1 (by decide)]; exact z 15 (by decide)
  · rw [e 0 0 (by decide)] at hk; omega
  · rw [e 0 0 (by decide)] at hk; omega
  · rw [e 0 3 (by decide)] at hk; omega
  · rw [e 0 3 (by decide)] at hk; omega
  · rw [e 0 3 (by decide)] at hk; omega
  · rw [e 0 7 (by decide)] at hk; omega
  · rw [e 0 7 (by decide)] at hk; omega
  · rw [e 0 7 (by decide)] at hk; omega
  · rw [e 0 7 (by decide)] at hk; omega
  · rw [e 10 k (by decide)]; exact h10 k hk
  · rw [e 11 0 (by decide)]; exact h11
  · exact absurd (e 11 0 (by decide)) hk
  · rw [qb, e 12 0 (by decide), Nat.zero_testBit]; exact h12 k hk
theorem rm_q0 {W : Nat → Int32} (h : ∀ i, i < 186 → W i = nI 0) : RM W q0 := by
  have e : ∀ r i, r ≠ 2 → q0 r i = 0 := fun r i h => if_neg h
  have e2 : ∀ i, oI (q0 2 i) = nI 0 := fun i => rfl
  refine ⟨?_, ?_, ?_, ?_, ?_, ?_, ?_, ?_, ?_, ?_, fun k hk => ?_, fun k hk => ?_, fun k hk => ?_, fun k hk => ?_, fun k hk => ?_, fun k hk => ?_, fun k hk => ?_, fun k hk => ?_, fun k hk => ?_, fun a b ha hb => ?_⟩
  all_goals (try rw [e _ _ (by decide)])
  all_goals (try rw [e2])
  all_goals exact h _ (by omega)
theorem kc_clear : ∃ S', f_X6_clear S = some S' ∧ RC S' q0 := by
  obtain ⟨S1, a1, a2, -⟩ := k_fill (S := xs 10 (xput (xput (xput S 0 0 (nI 0)) 0 3 (nI 0)) 0 7 (nI 0))) (n := 64) (by decide) (nI 0)
  obtain ⟨S2, b1, b2, -⟩ := k_fill (S := xs 1 (xput (xs 11 (xput (xput (xput (xm 10 1 (xput (xput (xput S 0 0 (nI 0)) 0 3 (nI 0)) 0 7 (nI 0)) S1) 0 13 (nI 0)) 0 14 (nI 0)) 0 15 (nI 0))) 0 0 (nI 0))) (n := 8) (by decide) (nI 0)
  refine ⟨xm 11 2 (xput (xput (xput (xm 10 1 (xput (xput (xput S 0 0 (nI 0)) 0 3 (nI 0)) 0 7 (nI 0)) S1) 0 13 (nI 0)) 0 14 (nI 0)) 0 15 (nI 0)) (xm 1 1 (xput (xs 11 (xput (xput (xput (xm 10 1 (xput (xput (xput S 0 0 (nI 0)) 0 3 (nI 0)) 0 7 (nI 0)) S1) 0 13 (nI 0)) 0 14 (nI 0)) 0 15 (nI 0))) 0 0 (nI 0)) S2), ?_, rc_q0 (fun y => ?_) (fun i hi => ?_) ?_ (fun i hi => ?_)⟩
  · simp only [f_X6_clear, f_X3_leave, xl_s, ob_s, xb_s, rd_n, wr_n, m_1, m_1b, nI_add, pk_mul, l_0, l_1, l_2, l_3, l_4, l_5, l_6, l_7, l_8, l_9, l_10, l_11, l_12, l_13, l_14, l_15, l_16, l_17, l_18, l_19, l_20, l_21, l_22, l_23, l_24, l_30, l_31, l_32, l_40, l_41, l_48, l_57, l_59, l_64, l_90, l_97, l_99, l_100, l_119, l_122, l_186, l_200, l_255, l_600, l_999, l_1488, l_1000000, a1, b1, len_kit2]
  · by_cases hy : y = 0 ∨ y = 3 ∨ y = 7 ∨ y = 13 ∨ y = 14 ∨ y = 15
    · refine Or.inl ?_
      rcases hy with rfl | rfl | rfl | rfl | rfl | rfl <;> simp (disch := omega) only [xm_n, xp_s, i_T, i_F, if_true, if_false, and_self]
    · exact Or.inr hy
  · simp (disch := omega) only [xm_n, xm_i, xq_n, Nat.sub_self, a2]
  · simp (disch := omega) only [xm_n, xm_i, xp_s, Nat.sub_self, i_T, if_true, if_false, and_self]
  · simp (disch := omega) only [xm_n, xm_i, xp_s, Nat.sub_self]
    exact b2 i hi
/-- the class at the end of its text -/
theorem kc_end (h6 : L ≤ 600) (hB : ∀ i, tx i < 256) (hp : p ≤ L) (h : BC tx L p n 0 u S) (k0 : tkK tx L p = 0) : ∃ S', ST 1 S S' ∧ S' 0 5 = nI 0 ∧ S' 0 2 = nI 0 ∧ S' 0 3 = oI 0 ∧ RC (xs 3 S') u := by
  obtain ⟨R, r1, r2, r3⟩ := kc_nx h6 hB hp h
  have k3 := r2.2.1
  rw [k0] at k3
  have k7 : xm 1 2 S R 0 7 = nI 0 := r2.1.2.2.2.2.2.1
  refine ⟨xput (xm 1 2 S R) 0 5 (nI 0), ST_n h.2.2.2.1 ?_, ?_, ?_, ?_, ?_⟩
  · rw [f_X7_readStatement]
    rw [r1, ob_s, xl_s, len_read, k3, k7]
    simp only [l_0, if_true, xl_s]
  · rw [xp_s, if_pos rfl]
  · rw [xp_s, if_neg (by decide)]; exact r2.1.2.1
  · rw [xp_s, if_neg (by decide)]; exact r2.1.2.2.1
  · exact RC_cg (fun a ha => (xp_n (show 3 + a ≠ 0 by omega)).symm) r2.1.2.2.2.2.2.2
def YC (S' : XS) (O : QE) : Prop := S' 0 5 = nI 0 ∧ YC1 S' O
def YL (o : Option (Int32 × XS)) (K : XS → Option (Int32 × XS)) (T' : XS) : QE → Prop
  | .inl e => o = some (nI 0, T') ∧ EM e.1 e.2 T'
  | .inr u => o = K T' ∧ T' 0 12 = nI 0 ∧ T' 0 13 = oI 0 ∧ RM (T' 1) u
theorem top_i (h6 : L ≤ 600) (hB : ∀ i, tx i < 256) : ∀ N p n u, L - p ≤ N → p ≤ L → WF u → u 0 13 ≤ 999 → n ≤ 200 → ∃ (O : QE) (c : Nat), (YB O ∧ c + 400 * p ≤ 400 * L + 1) ∧ (∀ S, BC tx L p n 0 u S → ∃ S', ST c S S' ∧ YC S' O) ∧ ∀ T, AM tx L p n u T → ∀ K f, N < f → ∃ T', FM T T' ∧ YL (f_X9_readsAll_L34 K f T) K T' O := by
  intro N
  induction N with
  | zero =>
    intro p n u hN hp w hn h2
    have hS := tkS_b (tx := tx) hp
    have k0 : tkK tx L p = 0 := (tkK_0 (tx := tx) hp).mpr (by omega)
    refine ⟨.inr u, 1, ⟨⟨w, hn⟩, by omega⟩, fun S hS => ?_, fun T hT K f hf => ⟨T, FM_r, ?_, hT.1.2.1, hT.1.2.2.1, hT.1.2.2.2.2⟩⟩
    · obtain ⟨S', a1, a2, a3, a4, a5⟩ := kc_end h6 hB hp hS k0
      exact ⟨S', a1, a2, a3, a4, a5⟩
    · obtain ⟨f, rfl⟩ : ∃ k, f = k + 1 := ⟨f - 1, by omega⟩
      have h17 : T 0 17 = nI 0 := by rw [hT.2.1, k0]; rfl
      rw [f_X9_readsAll_L34]
      simp (disch := omega) only [xl_s, ob_s, xb_s, rd_n, wr_n, m_1, m_1b, nI_add, pk_mul, l_0, l_1, l_2, l_3, l_4, l_5, l_6, l_7, l_8, l_9, l_10, l_11, l_12, l_13, l_14, l_15, l_16, l_17, l_18, l_19, l_20, l_21, l_22, l_23, l_24, l_30, l_31, l_32, l_40, l_41, l_48, l_57, l_59, l_64, l_90, l_97, l_99, l_100, l_119, l_122, l_186, l_200, l_255, l_600, l_999, l_1488, l_1000000, h17, if_true]
  | succ N ih =>
    intro p n u hN hp w hn h2
    by_cases k0 : tkK tx L p = 0
    · refine ⟨.inr u, 1, ⟨⟨w, hn⟩, by omega⟩, fun S hS => ?_, fun T hT K f hf => ⟨T, FM_r, ?_, hT.1.2.1, hT.1.2.2.1, hT.1.2.2.2.2⟩⟩
      · obtain ⟨S', a1, a2, a3, a4, a5⟩ := kc_end h6 hB hp hS k0
        exact ⟨S', a1, a2, a3, a4, a5⟩
      · obtain ⟨f, rfl⟩ : ∃ k, f = k + 1 := ⟨f - 1, by omega⟩
        have h17 : T 0 17 = nI 0 := by rw [hT.2.1, k0]; rfl
        rw [f_X9_readsAll_L34]
        simp (disch := omega) only [xl_s, ob_s, xb_s, rd_n, wr_n, m_1, m_1b, nI_add, pk_mul, l_0, l_1, l_2, l_3, l_4, l_5, l_6, l_7, l_8, l_9, l_10, l_11, l_12, l_13, l_14, l_15, l_16, l_17, l_18, l_19, l_20, l_21, l_22, l_23, l_24, l_30, l_31, l_32, l_40, l_41, l_48, l_57, l_59, l_64, l_90, l_97, l_99, l_100, l_119, l_122, l_186, l_200, l_255, l_600, l_999, l_1488, l_1000000, h17, if_true]
    · obtain ⟨O, c, s1, s2, s3⟩ := pc_0 h6 hB p n u hp w hn h2 (fun _ => k0) (fun z => absurd rfl z)
      have hr : rk (tkK tx L p) ≠ 0 := fun z => k0 ((rk_inj (a := tkK tx L p) (b := 0) (tkK_le L p) (by decide)).mp z)
      have hk6 := rk_le (tkK_le (tx := tx) L p)
      have w400 : wt 0 = 400 := rfl
      have hRC : ∀ T, f_RC3 T (nI 0) = f_RC (3 - 0) T (nI 0) := fun _ => rfl
      cases O with
      | inl e =>
        obtain ⟨b1, b2⟩ := s1
        rw [w400] at b2
        refine ⟨.inl e, c, ⟨b1, b2⟩, fun S hS => ?_, fun T hT K f hf => ?_⟩
        · obtain ⟨S', x1, x2, -⟩ := s2 S hS
          exact ⟨S', x1, x2.1, x2.2.1, x2.2.2⟩
        · obtain ⟨f, rfl⟩ : ∃ k, f = k + 1 := ⟨f - 1, by omega⟩
          obtain ⟨bb, T', t1, t2, t3, t4⟩ := s3 T hT
          subst t3
          rw [← hRC] at t1
          refine ⟨T', t2, ?_, t4⟩
          have h17 := hT.2.1
          rw [f_X9_readsAll_L34]
          simp (disch := omega) only [xl_s, ob_s, xb_s, rd_n, wr_n, m_1, m_1b, nI_add, pk_mul, l_0, l_1, l_2, l_3, l_4, l_5, l_6, l_7, l_8, l_9, l_10, l_11, l_12, l_13, l_14, l_15, l_16, l_17, l_18, l_19, l_20, l_21, l_22, l_23, l_24, l_30, l_31, l_32, l_40, l_41, l_48, l_57, l_59, l_64, l_90, l_97, l_99, l_100, l_119, l_122, l_186, l_200, l_255, l_600, l_999, l_1488, l_1000000, h17, i_eqF, t1, nB_f, if_true]
      | inr v =>
        obtain ⟨p1, n1, u1⟩ := v
        obtain ⟨a1, a2, a3, a4, a5, a6, a7⟩ := s1
        simp only at a1 a2 a3 a4 a5 a6 a7
        rw [w400] at a6
        obtain ⟨O2, c2, ⟨r0, r1⟩, r2, r3⟩ := ih p1 n1 u1 (by omega) a2 a3 a4 a5
        refine ⟨O2, c + c2, ⟨r0, by omega⟩, fun S hS => ?_, fun T hT K f hf => ?_⟩
        · obtain ⟨S1, x1, x2, x3⟩ := s2 S hS
          obtain ⟨S2, y1, y2⟩ := r2 S1 x2
          exact ⟨S2, ST_t x1 y1, y2⟩
        · obtain ⟨f, rfl⟩ : ∃ k, f = k + 1 := ⟨f - 1, by omega⟩
          obtain ⟨bb, T1, t1, t2, t3, t4⟩ := s3 T hT
          subst t3
          rw [← hRC] at t1
          obtain ⟨T2, y1, y2, y3⟩ := km_nx h6 hB a2 t4
          obtain ⟨T3, z1, z2⟩ := r3 T2 y2 K f (by omega)
          have h17 := hT.2.1
          have e1 : f_X9_readsAll_L34 K (f + 1) T = f_X9_readsAll_L34 K f T2 := by
            rw [f_X9_readsAll_L34]
            simp (disch := omega) only [xl_s, ob_s, xb_s, rd_n, wr_n, m_1, m_1b, nI_add, pk_mul, l_0, l_1, l_2, l_3, l_4, l_5, l_6, l_7, l_8, l_9, l_10, l_11, l_12, l_13, l_14, l_15, l_16, l_17, l_18, l_19, l_20, l_21, l_22, l_23, l_24, l_30, l_31, l_32, l_40, l_41, l_48, l_57, l_59, l_64, l_90, l_97, l_99, l_100, l_119, l_122, l_186, l_200, l_255, l_600, l_999, l_1488, l_1000000, h17, i_eqF, t1, nB_t, z10, if_false, y1]
          refine ⟨T3, FM_t t2 (FM_t (NT_FM y3) z1), ?_⟩
          rw [e1]
          exact z2
theorem km_zero {K : Int32 → XS → Option (Int32 × XS)} {Q : Option (Int32 × XS) → Prop} (hK : ∀ T', (∀ i, i ≠ 1 → T' i = T i) → (∀ i, i < 186 → T' 1 i = nI 0) → Q (K (nI 186) T')) : Q (f_X9_parses_L2 K FU (nI 0) T) := by
  refine q_lp (fun n j T1 => Q (f_X9_parses_L2 K n (nI j) T1)) (fun j T1 => (∀ i, i ≠ 1 → T1 i = T i) ∧ ∀ i, i < j → T1 1 i = nI 0) 186 T (by decide) ⟨fun _ _ => rfl, fun i hi => by omega⟩ ?_ ?_
  · intro n T1 hI
    simp (disch := omega) only [f_X9_parses_L2, xl_s, ob_s, xb_s, rd_n, wr_n, m_1, m_1b, nI_add, pk_mul, l_0, l_1, l_2, l_3, l_4, l_5, l_6, l_7, l_8, l_9, l_10, l_11, l_12, l_13, l_14, l_15, l_16, l_17, l_18, l_19, l_20, l_21, l_22, l_23, l_24, l_30, l_31, l_32, l_40, l_41, l_48, l_57, l_59, l_64, l_90, l_97, l_99, l_100, l_119, l_122, l_186, l_200, l_255, l_600, l_999, l_1488, l_1000000, i_leT]
    exact hK T1 hI.1 hI.2
  · intro n j T1 hj hI ih
    simp (disch := omega) only [f_X9_parses_L2, xl_s, ob_s, xb_s, rd_n, wr_n, m_1, m_1b, nI_add, pk_mul, l_0, l_1, l_2, l_3, l_4, l_5, l_6, l_7, l_8, l_9, l_10, l_11, l_12, l_13, l_14, l_15, l_16, l_17, l_18, l_19, l_20, l_21, l_22, l_23, l_24, l_30, l_31, l_32, l_40, l_41, l_48, l_57, l_59, l_64, l_90, l_97, l_99, l_100, l_119, l_122, l_186, l_200, l_255, l_600, l_999, l_1488, l_1000000, i_leF]
    refine ih _ ⟨fun i hi => by rw [xp_n hi]; exact hI.1 i hi, fun i hi => ?_⟩
    rw [xp_s]
    by_cases e : i = j
    · rw [if_pos e]
    · rw [if_neg e]; exact hI.2 i (by omega)
theorem L10_e {m : Nat} (hm : m ≤ 1000000) (h5 : S 0 5 = nI 0) (f : Nat) : f_X7_execute_L10 (fun v13 S14 => some S14) (f + 1) (nI m) S = some S := by
  rw [f_X7_execute_L10]
  by_cases q : m = 1000000
  · rw [q]; exact if_pos (by decide)
  · simp (disch := omega) only [xl_s, ob_s, xb_s, rd_n, wr_n, m_1, m_1b, nI_add, pk_mul, l_0, l_1, l_2, l_3, l_4, l_5, l_6, l_7, l_8, l_9, l_10, l_11, l_12, l_13, l_14, l_15, l_16, l_17, l_18, l_19, l_20, l_21, l_22, l_23, l_24, l_30, l_31, l_32, l_40, l_41, l_48, l_57, l_59, l_64, l_90, l_97, l_99, l_100, l_119, l_122, l_186, l_200, l_255, l_600, l_999, l_1488, l_1000000, i_leF, h5, if_true]
theorem L10_c (hc : c ≤ 900000) (h : ST c S S') (h5 : S' 0 5 = nI 0) : f_X7_execute_L10 (fun v13 S14 => some S14) FU (nI 0) S = some S' := by
  have hF : 900001 < FU := FU_lt (by decide)
  obtain ⟨f, hf⟩ : ∃ f, FU = (f + 1) + c := ⟨FU - c - 1, by omega⟩
  rw [hf, h _ (f + 1) 0 (by omega)]
  exact L10_e (by omega) h5 f
theorem kc_begin (hL : S 1 1 = nI L) (hx : TC tx L (xs 1 S)) : ∃ S', f_X7_begin S = some S' ∧ BC tx L 0 0 0 q0 S' := by
  obtain ⟨Sc, a1, a2⟩ := kc_clear (S := xs 3 S)
  refine ⟨xput (xput (xput (xput (xput (xput (xm 3 13 S Sc) 1 2 (nI 0)) 0 2 (nI 0)) 0 3 (oI 0)) 0 5 (nI 1)) 0 6 (nI 0)) 0 7 (nI 0), ?_, ⟨?_, ?_, fun i hi => ?_⟩, ?_, ?_, ?_, ?_, ?_, RC_cg (fun a ha => ?_) a2⟩
  · simp only [f_X7_begin, xl_s, ob_s, xb_s, rd_n, wr_n, m_1, m_1b, nI_add, pk_mul, l_0, l_1, l_2, l_3, l_4, l_5, l_6, l_7, l_8, l_9, l_10, l_11, l_12, l_13, l_14, l_15, l_16, l_17, l_18, l_19, l_20, l_21, l_22, l_23, l_24, l_30, l_31, l_32, l_40, l_41, l_48, l_57, l_59, l_64, l_90, l_97, l_99, l_100, l_119, l_122, l_186, l_200, l_255, l_600, l_999, l_1488, l_1000000, a1, len_roof]
  · simp (disch := omega) only [xq_n, xp_s, i_T, i_F, xm_n, hL, if_true, if_false, and_self]
  · simp (disch := omega) only [xq_n, xp_s, i_T, i_F, xm_n, if_true, if_false, and_self]
  · show xput (xput (xput (xput (xput (xput (xm 3 13 S Sc) 1 2 (nI 0)) 0 2 (nI 0)) 0 3 (oI 0)) 0 5 (nI 1)) 0 6 (nI 0)) 0 7 (nI 0) 2 i = _
    simp (disch := omega) only [xq_n, xm_n]
    exact hx i hi
  · simp (disch := omega) only [xq_n, xp_s, i_T, i_F, if_true, if_false, and_self]
  · simp (disch := omega) only [xq_n, xp_s, i_T, i_F, if_true, if_false, and_self]
  · simp (disch := omega) only [xq_n, xp_s, i_T, i_F, if_true, if_false, and_self]
  · simp (disch := omega) only [xq_n, xp_s, i_T, i_F, if_true, if_false, and_self]
  · simp (disch := omega) only [xq_n, xp_s, i_T, i_F, if_true, if_false, and_self]
  · show Sc a = xput (xput (xput (xput (xput (xput (xm 3 13 S Sc) 1 2 (nI 0)) 0 2 (nI 0)) 0 3 (oI 0)) 0 5 (nI 1)) 0 6 (nI 0)) 0 7 (nI 0) (3 + a)
    funext y
    simp (disch := omega) only [xq_n, xm_i, Nat.add_sub_cancel_left]
theorem lb_e : lb11 = lb0 := rfl
theorem run_ml (h6 : L ≤ 600) (hB : ∀ i, tx i < 256) (h1 : T 0 11 = nI L) (h2 : TM tx L T) : ∃ T1 T2, FM T T1 ∧ AM tx L 0 0 q0 T1 ∧ NT T1 T2 ∧ AM tx L (tkE tx L 0) 0 q0 T2 ∧ f_X9_parses T = (if nB (wq tx (tkK tx L 0) (tkS tx L 0) (tkE tx L 0) lb0) = nI 0 then xbind2 (f_X9_fail T1 (nI 1)) fun v11 S12 => ((xz v11).bind fun v => some (v, S12)) else (xbind2 (f_X9_is T2 (nI 1)) fun v4 S5 => (if v4 = nI 0 then some (nI 0, S5) else ((f_X9_next S5).bind fun S6 => (f_X9_readsAll_L34 (fun S10 => some (nI 1, S10)) FU S6))))).bind fun q => (xz q.1).bind fun v => some (v, q.2) := by
  have hE := tkE_b (tx := tx) (Nat.zero_le L)
  have key : ∃ T0, FM T T0 ∧ BM tx L 0 0 q0 T0 ∧ f_X9_parses T = ((f_X9_next T0).bind fun S10 => (xbind2 (f_X9_readsAll S10) fun v11 S12 => ((xz v11).bind fun v => some (v, S12)))) := by
    rw [f_X9_parses]
    simp only [l_0]
    refine km_zero (T := T) (Q := fun z => ∃ T0, FM T T0 ∧ BM tx L 0 0 q0 T0 ∧ z = ((f_X9_next T0).bind fun S10 => (xbind2 (f_X9_readsAll S10) fun v11 S12 => ((xz v11).bind fun v => some (v, S12))))) (fun T9 g1 g2 => ?_)
    refine ⟨xput (xput (xput (xput T9 0 12 (nI 0)) 0 13 (oI 0)) 0 21 (nI 0)) 0 19 (nI 0), ⟨fun a a0 a1 a2 => by rw [xp_n a0, xp_n a0, xp_n a0, xp_n a0, g1 a a1], fun y a b c => by rw [xp_s, if_neg (by omega), xp_s, if_neg (by omega), xp_s, if_neg b, xp_s, if_neg a, g1 0 (by decide)]⟩, ⟨⟨?_, ?_, fun i hi => ?_⟩, ?_, ?_, ?_, ?_⟩, ?_⟩
    · simp (disch := omega) only [xp_s, i_T, i_F, if_true, if_false, and_self]; rw [g1 0 (by decide)]; exact h1
    · simp (disch := omega) only [xp_s, i_T, i_F, if_true, if_false, and_self]
    · simp (disch := omega) only [xq_n]; rw [g1 7 (by decide)]; exact h2 i hi
    · simp (disch := omega) only [xp_s, i_T, i_F, if_true, if_false, and_self]
    · simp (disch := omega) only [xp_s, i_T, i_F, if_true, if_false, and_self]
    · simp (disch := omega) only [xp_s, i_T, i_F, if_true, if_false, and_self]
    · rw [xp_n (by decide), xp_n (by decide), xp_n (by decide), xp_n (by decide)]; exact rm_q0 g2
    · simp only [xl_s, ob_s, xb_s, rd_n, wr_n, m_1, m_1b, nI_add, pk_mul, l_0, l_1, l_2, l_3, l_4, l_5, l_6, l_7, l_8, l_9, l_10, l_11, l_12, l_13, l_14, l_15, l_16, l_17, l_18, l_19, l_20, l_21, l_22, l_23, l_24, l_30, l_31, l_32, l_40, l_41, l_48, l_57, l_59, l_64, l_90, l_97, l_99, l_100, l_119, l_122, l_186, l_200, l_255, l_600, l_999, l_1488, l_1000000]
  obtain ⟨T0, f0, b0, e0⟩ := key
  obtain ⟨T1, y1, y2, y3⟩ := km_nx h6 hB (Nat.zero_le L) b0
  obtain ⟨T2, z1, z2, z3⟩ := km_nx h6 hB hE.2.1 y2.1
  have hw := km_says (T := T1) h6 y2.1.1.2.2 asc_0 y2.1.1.2.1 y2.2.1 y2.2.2.1 (tkK_le L 0) hE.1 hE.2.1
  rw [← lb_e] at hw
  refine ⟨T1, T2, FM_t f0 (NT_FM y3), y2, z3, z2, ?_⟩
  have xbb : ∀ (o : Option (Int32 × XS)), (xbind2 o fun v9 S10 => ((xz v9).bind fun v => some (v, S10))) = o.bind fun q => (xz q.1).bind fun y => some (y, q.2) := fun o => by
    cases o with
    | none => rfl
    | some q => rfl
  rw [e0, y1, ob_s, xbb, f_X9_readsAll, hw, ob_s]
  simp only [l_0, l_1, z1, ob_s]
  rfl
/-- a script comes to the same on both sides -/
theorem run_i (h6 : L ≤ 600) (hB : ∀ i, tx i < 256) : ∃ O : QE, YB O ∧ (∀ S, S 1 1 = nI L → TC tx L (xs 1 S) → ∃ S', f_X7_execute S = some S' ∧ YC1 S' O) ∧ ∀ T, T 0 11 = nI L → TM tx L T → ∃ b T', f_X9_parses T = some (nB b, T') ∧ FM T T' ∧ YM1 b T' O := by
  have hE := tkE_b (tx := tx) (Nat.zero_le L)
  have hE2 := tkE_b (tx := tx) hE.2.1
  have hr : rk (tkK tx L (tkE tx L 0)) = 1 ↔ tkK tx L (tkE tx L 0) = 5 := rk_inj (b := 5) (tkK_le L _) (by decide)
  have hcl : ∀ S, S 1 1 = nI L → TC tx L (xs 1 S) → ∃ S0 S1, f_X7_begin S = some S0 ∧ DC tx L 0 0 0 q0 S1 ∧ f_X7_readHead S0 = (if nB (wq tx (tkK tx L 0) (tkS tx L 0) (tkE tx L 0) lb0) = nI 0 then ((f_X7_fail S1 (nI 1)).bind fun S4 => some S4) else (xbind2 (f_X7_expect S1 (nI 5)) fun v5 S6 => some S6)) := fun S h1 h2 => by
    obtain ⟨S0, a1, a2⟩ := kc_begin h1 h2
    obtain ⟨R, r1, r2, r3⟩ := kc_nx h6 hB (Nat.zero_le L) a2
    have hw := kc_isWord (R := xs 1 (xm 1 2 S0 R)) h6 hB r2.1.1.2.2 asc_0 r2.1.1.2.1 r2.2.1 r2.2.2.1 (tkK_le L 0) hE.1 hE.2.1
    refine ⟨S0, xm 1 2 S0 R, a1, r2, ?_⟩
    rw [f_X7_readHead]
    simp only [xl_s, ob_s, xb_s, rd_n, wr_n, m_1, m_1b, nI_add, pk_mul, l_0, l_1, l_2, l_3, l_4, l_5, l_6, l_7, l_8, l_9, l_10, l_11, l_12, l_13, l_14, l_15, l_16, l_17, l_18, l_19, l_20, l_21, l_22, l_23, l_24, l_30, l_31, l_32, l_40, l_41, l_48, l_57, l_59, l_64, l_90, l_97, l_99, l_100, l_119, l_122, l_186, l_200, l_255, l_600, l_999, l_1488, l_1000000, r1, len_read, hw]
  have hml := fun (T : XS) (h1 : T 0 11 = nI L) (h2 : TM tx L T) => run_ml (T := T) h6 hB h1 h2
  cases hw : wq tx (tkK tx L 0) (tkS tx L 0) (tkE tx L 0) lb0
  · refine ⟨.inl (1, tkS tx L 0), ⟨Nat.le_of_ble_eq_true rfl, Nat.le_of_ble_eq_true rfl⟩, fun S h1 h2 => ?_, fun T h1 h2 => ?_⟩
    · obtain ⟨S0, S1, a1, a2, a3⟩ := hcl S h1 h2
      obtain ⟨S2, f1, f2⟩ := kc_fail (S := S1) 1 a2.2.2.1
      refine ⟨S2, ?_, f2.2.1, f2.2.2⟩
      rw [f_X7_execute, a1, ob_s, a3, hw, nB_f, if_pos rfl, f1, ob_s, ob_s]
      exact L10_c (c := 0) (by decide) ST_0 f2.1
    · obtain ⟨T1, T2, f1, a1, f2, a2, e⟩ := hml T h1 h2
      obtain ⟨T3, g1, g2, g3⟩ := km_fail a1 1
      refine ⟨false, T3, ?_, FM_t f1 g3, rfl, g2.1, g2.2⟩
      rw [e, hw, nB_f, if_pos rfl, g1, xb_s, xz_0, ob_s, ob_s, xz_0, ob_s]
  by_cases k5 : tkK tx L (tkE tx L 0) = 5
  · obtain ⟨O, c, ⟨r0, r1⟩, r2, r3⟩ := top_i h6 hB (L - tkE tx L (tkE tx L 0)) (tkE tx L (tkE tx L 0)) 0 q0 (Nat.le_refl _) hE2.2.1 wf_0 (by decide) (by decide)
    refine ⟨O, r0, fun S h1 h2 => ?_, fun T h1 h2 => ?_⟩
    · obtain ⟨S0, S1, a1, a2, a3⟩ := hcl S h1 h2
      obtain ⟨S2, x1, x2, x3⟩ := (kc_expect h6 hB hE.2.1 a2.1 5 (by decide)).1 k5
      obtain ⟨S3, y1, y2, y3⟩ := r2 S2 x2.1
      refine ⟨S3, ?_, y3⟩
      rw [f_X7_execute, a1, ob_s, a3, hw, nB_t, if_neg (by decide), x1, xb_s, ob_s]
      exact L10_c (by omega) y1 y2
    · obtain ⟨T1, T2, f1, a1, f2, a2, e⟩ := hml T h1 h2
      have i1 := (km_is a2 (e := 1) (by decide)).1 (hr.mpr k5)
      obtain ⟨T3, y1, y2, y3⟩ := km_nx h6 hB hE2.2.1 a2.1
      obtain ⟨T4, z1, z2⟩ := r3 T3 y2 (fun S10 => some (nI 1, S10)) FU (L_lt (by omega))
      have fm := FM_t f1 (FM_t (NT_FM f2) (FM_t (NT_FM y3) z1))
      cases O with
      | inl z =>
        refine ⟨false, T4, ?_, fm, rfl, z2.2.1, z2.2.2⟩
        rw [e, hw, nB_t, if_neg (by decide), i1, xb_s, if_neg (by decide), y1, ob_s, z2.1, ob_s, xz_0, ob_s]
        rfl
      | inr v =>
        refine ⟨true, T4, ?_, fm, rfl, z2.2.1, z2.2.2.1, z2.2.2.2⟩
        rw [e, hw, nB_t, if_neg (by decide), i1, xb_s, if_neg (by decide), y1, ob_s, z2.1, ob_s, xz_1, ob_s]
  · refine ⟨.inl (1, tkS tx L (tkE tx L 0)), ⟨Nat.le_of_ble_eq_true rfl, Nat.le_of_ble_eq_true rfl⟩, fun S h1 h2 => ?_, fun T h1 h2 => ?_⟩
    · obtain ⟨S0, S1, a1, a2, a3⟩ := hcl S h1 h2
      obtain ⟨S2, x1, x2⟩ := (kc_expect h6 hB hE.2.1 a2.1 5 (by decide)).2 k5
      refine ⟨S2, ?_, x2.2.1, x2.2.2⟩
      rw [f_X7_execute, a1, ob_s, a3, hw, nB_t, if_neg (by decide), x1, xb_s, ob_s]
      exact L10_c (c := 0) (by decide) ST_0 x2.1
    · obtain ⟨T1, T2, f1, a1, f2, a2, e⟩ := hml T h1 h2
      obtain ⟨T3, g1, g2, g3⟩ := (km_is a2 (e := 1) (by decide)).2 (fun z => k5 (hr.mp z))
      refine ⟨false, T3, ?_, FM_t f1 (FM_t (NT_FM f2) g3), rfl, g2.1, g2.2⟩
      rw [e, hw, nB_t, if_neg (by decide), g1, xb_s, if_pos rfl, ob_s, xz_0, ob_s]
      rfl
end
