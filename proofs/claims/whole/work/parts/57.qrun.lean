/-! level 2: a whole script, on both sides -/
/-- the empty roof -/
def q0 : QU := fun r _ => if r = 2 then 1 else 0
abbrev QE : Type := (Nat × Nat) ⊕ QU
def XC1 (S' : XS) : QE → Prop
  | .inl e => S' 0 2 = nI e.1 ∧ S' 0 3 = nI e.2
  | .inr u => S' 0 2 = nI 0 ∧ S' 0 3 = oI 0 ∧ RC (xs 3 S') u
def XM1 (b : Bool) (T' : XS) : QE → Prop
  | .inl e => b = false ∧ T' 0 12 = nI e.1 ∧ T' 0 13 = nI e.2
  | .inr u => b = true ∧ T' 0 12 = nI 0 ∧ T' 0 13 = oI 0 ∧ RM (T' 1) u
def XB : QE → Prop
  | .inl e => 1 ≤ e.1 ∧ e.1 ≤ 5
  | .inr u => WF u ∧ u 0 13 ≤ 999
section
variable {tx : Nat → Nat} {L p n d r k c j : Nat} {u : QU} {S S' T T' : XS} {x : Nat → Nat}
theorem wf_0 : WF q0 := by
  have e : ∀ r i, r ≠ 2 → q0 r i = 0 := fun r i h => if_neg h
  have e2 : ∀ i, q0 2 i = 1 := fun i => if_pos rfl
  refine ⟨fun r i hr => ?_, ?_, ?_, ?_, ?_, fun k hk => ?_, fun k hk => ?_, fun k hk => ?_, fun k k2 hk hk2 => ?_, fun k hk => ?_, ?_⟩
  · by_cases h : r = 2
    · rw [h, e2]; decide
    · rw [e r i h]; decide
  · rw [e 0 0 (by decide)]; decide
  · rw [e 0 3 (by decide)]; decide
  · rw [e 0 7 (by decide)]; decide
  · rw [e 0 13 (by decide)]; decide
  · rw [e 0 0 (by decide)] at hk; omega
  · rw [e 0 3 (by decide)] at hk; omega
  · rw [e 0 7 (by decide)] at hk; omega
  · rw [e 0 7 (by decide)] at hk; omega
  · rw [e 0 7 (by decide)] at hk; omega
  · rw [e 11 0 (by decide), e 11 1 (by decide), e 12 0 (by decide), e 12 1 (by decide), e 0 7 (by decide)]
    exact ⟨by decide, by decide, fun h => absurd rfl h, by decide, fun c h => h, fun _ => rfl⟩
theorem rc_q0 (h : ∀ y, S 0 y = nI 0 ∨ ¬ (y = 0 ∨ y = 3 ∨ y = 7 ∨ y = 13 ∨ y = 14 ∨ y = 15)) (h10 : ∀ i, i < 64 → S 10 i = nI 0) (h11 : S 11 0 = nI 0) (h12 : ∀ c, c < 8 → S 12 c = nI 0) : RC S q0 := by
  have e : ∀ r i, r ≠ 2 → q0 r i = 0 := fun r i h => if_neg h
  have z : ∀ y, (y = 0 ∨ y = 3 ∨ y = 7 ∨ y = 13 ∨ y = 14 ∨ y = 15) → S 0 y = nI 0 := fun y hy => (h y).resolve_right (fun t => t hy)
  refine ⟨⟨?_, ?_, ?_, ?_, ?_, ?_⟩, fun k hk => ?_, fun k hk => ?_, fun k hk => ?_, fun k hk => ?_, fun k hk => ?_, fun k hk => ?_, fun k hk => ?_, fun k hk => ?_, fun k hk => ?_, fun k hk => ?_, ?_, fun hk => ?_, fun k hk => ?_⟩
  · rw [e 0 0 (by decide)]; exact z 0 (by decide)
  · rw [e 0 3 (by decide)]; exact z 3 (by decide)
  · rw [e 0 7 (by decide)]; exact z 7 (by decide)
  · rw [e 0 13 (by decide)]; exact z 13 (by decide)
  · rw [e 20 0 (by decide)]; exact z 14 (by decide)
  · rw [e 20 1 (by decide)]; exact z 15 (by decide)
  · rw [e 0 0 (by decide)] at hk; omega
  · rw [e 0 0 (by decide)] at hk; omega
  · rw [e 0 3 (by decide)] at hk; omega
  · rw [e 0 3 (by decide)] at hk; omega
  · rw [e 0 3 (by decide)] at hk; omega
  · rw [e 0 7 (by decide)] at hk; omega
  · rw [e 0 7 (by decide)] at hk; omega
  · rw [e 0 7 (by decide)] at hk; omega
  · rw [e 0 7 (by decide)] at hk; omega
  · rw [e 10 k (by decide)]; exact h10 k hk
  · rw [e 11 0 (by decide)]; exact h11
  · exact absurd (e 11 0 (by decide)) hk
  · rw [qb, e 12 0 (by decide), Nat.zero_testBit]; exact h12 k hk
theorem rm_q0 {W : Nat → Int32} (h : ∀ i, i < 186 → W i = nI 0) : RM W q0 := by
  have e : ∀ r i, r ≠ 2 → q0 r i = 0 := fun r i h => if_neg h
  have e2 : ∀ i, oI (q0 2 i) = nI 0 := fun i => rfl
  refine ⟨?_, ?_, ?_, ?_, ?_, ?_, ?_, ?_, ?_, ?_, fun k hk => ?_, fun k hk => ?_, fun k hk => ?_, fun k hk => ?_, fun k hk => ?_, fun k hk => ?_, fun k hk => ?_, fun k hk => ?_, fun k hk => ?_, fun a b ha hb => ?_⟩
  all_goals (try rw [e _ _ (by decide)])
  all_goals (try rw [e2])
  all_goals exact h _ (by omega)
theorem kc_clear : ∃ S', f_X6_clear S = some S' ∧ RC S' q0 := by
  obtain ⟨S1, a1, a2, -⟩ := k_fill (S := xs 10 (xput (xput (xput S 0 0 (nI 0)) 0 3 (nI 0)) 0 7 (nI 0))) (n := 64) (by decide) (nI 0)
  obtain ⟨S2, b1, b2, -⟩ := k_fill (S := xs 1 (xput (xs 11 (xput (xput (xput (xm 10 1 (xput (xput (xput S 0 0 (nI 0)) 0 3 (nI 0)) 0 7 (nI 0)) S1) 0 13 (nI 0)) 0 14 (nI 0)) 0 15 (nI 0))) 0 0 (nI 0))) (n := 8) (by decide) (nI 0)
  refine ⟨xm 11 2 (xput (xput (xput (xm 10 1 (xput (xput (xput S 0 0 (nI 0)) 0 3 (nI 0)) 0 7 (nI 0)) S1) 0 13 (nI 0)) 0 14 (nI 0)) 0 15 (nI 0)) (xm 1 1 (xput (xs 11 (xput (xput (xput (xm 10 1 (xput (xput (xput S 0 0 (nI 0)) 0 3 (nI 0)) 0 7 (nI 0)) S1) 0 13 (nI 0)) 0 14 (nI 0)) 0 15 (nI 0))) 0 0 (nI 0)) S2), ?_, rc_q0 (fun y => ?_) (fun i hi => ?_) ?_ (fun i hi => ?_)⟩
  · simp only [f_X6_clear, f_X3_leave, xl_s, ob_s, xb_s, rd_n, wr_n, m_1, m_1b, nI_add, pk_mul, l_0, l_1, l_2, l_3, l_4, l_5, l_6, l_7, l_8, l_9, l_10, l_11, l_12, l_13, l_14, l_15, l_16, l_17, l_18, l_19, l_20, l_21, l_22, l_23, l_24, l_30, l_31, l_32, l_40, l_41, l_48, l_57, l_59, l_64, l_90, l_97, l_99, l_100, l_119, l_122, l_186, l_200, l_255, l_600, l_999, l_1488, l_1000000, a1, b1, len_kit2]
  · by_cases hy : y = 0 ∨ y = 3 ∨ y = 7 ∨ y = 13 ∨ y = 14 ∨ y = 15
    · refine Or.inl ?_
      rcases hy with rfl | rfl | rfl | rfl | rfl | rfl <;> simp (disch := omega) only [xm_n, xp_s, i_T, i_F, if_true, if_false, and_self]
    · exact Or.inr hy
  · simp (disch := omega) only [xm_n, xm_i, xq_n, Nat.sub_self, a2]
  · simp (disch := omega) only [xm_n, xm_i, xp_s, Nat.sub_self, i_T, if_true, if_false, and_self]
  · simp (disch := omega) only [xm_n, xm_i, xp_s, Nat.sub_self]
    exact b2 i hi
/-- the class at the end of its text -/
theorem kc_end (h6 : L ≤ 600) (hB : ∀ i, tx i < 256) (hp : p ≤ L) (h : BC tx L p n 0 u S) (k0 : tkK tx L p = 0) : ∃ S', ST 1 S S' ∧ S' 0 5 = nI 0 ∧ S' 0 2 = nI 0 ∧ S' 0 3 = oI 0 ∧ RC (xs 3 S') u := by
  obtain ⟨R, r1, r2, r3⟩ := kc_nx h6 hB hp h
  have k3 := r2.2.1
  rw [k0] at k3
  have k7 : xm 1 2 S R 0 7 = nI 0 := r2.1.2.2.2.2.2.1
  refine ⟨xput (xm 1 2 S R) 0 5 (nI 0), ST_n h.2.2.2.1 ?_, ?_, ?_, ?_, ?_⟩
  · rw [f_X7_readStatement]
    rw [r1, ob_s, xl_s, len_read, k3, k7]
    simp only [l_0, if_true, xl_s]
  · rw [xp_s, if_pos rfl]
  · rw [xp_s, if_neg (by decide)]; exact r2.1.2.1
  · rw [xp_s, if_neg (by decide)]; exact r2.1.2.2.1
  · exact RC_cg (fun a ha => (xp_n (show 3 + a ≠ 0 by omega)).symm) r2.1.2.2.2.2.2.2
def XC (S' : XS) (O : QE) : Prop := S' 0 5 = nI 0 ∧ XC1 S' O
def XL (o : Option (Int32 × XS)) (K : XS → Option (Int32 × XS)) (T' : XS) : QE → Prop
  | .inl e => o = some (nI 0, T') ∧ EM e.1 e.2 T'
  | .inr u => o = K T' ∧ T' 0 12 = nI 0 ∧ T' 0 13 = oI 0 ∧ RM (T' 1) u
theorem top_i (h6 : L ≤ 600) (hB : ∀ i, tx i < 256) : ∀ N p n u, L - p ≤ N → p ≤ L → WF u → u 0 13 ≤ 999 → n ≤ 200 → ∃ (O : QE) (c : Nat), (XB O ∧ c + 400 * p ≤ 400 * L + 1) ∧ (∀ S, BC tx L p n 0 u S → ∃ S', ST c S S' ∧ XC S' O) ∧ ∀ T, AM tx L p n u T → ∀ K f, N < f → ∃ T', FM T T' ∧ XL (f_X9_readsAll_L34 K f T) K T' O := by
  intro N
  induction N with
  | zero =>
    intro p n u hN hp w hn h2
    have hS := tkS_b (tx := tx) hp
    have k0 : tkK tx L p = 0 := (tkK_0 (tx := tx) hp).mpr (by omega)
    refine ⟨.inr u, 1, ⟨⟨w, hn⟩, by omega⟩, fun S hS => ?_, fun T hT K f hf => ⟨T, FM_r, ?_, hT.1.2.1, hT.1.2.2.1, hT.1.2.2.2.2⟩⟩
    · obtain ⟨S', a1, a2, a3, a4, a5⟩ := kc_end h6 hB hp hS k0
      exact ⟨S', a1, a2, a3, a4, a5⟩
    · obtain ⟨f, rfl⟩ : ∃ k, f = k + 1 := ⟨f - 1, by omega⟩
      have h17 : T 0 17 = nI 0 := by rw [hT.2.1, k0]; rfl
      rw [f_X9_readsAll_L34]
      simp (disch := omega) only [xl_s, ob_s, xb_s, rd_n, wr_n, m_1, m_1b, nI_add, pk_mul, l_0, l_1, l_2, l_3, l_4, l_5, l_6, l_7, l_8, l_9, l_10, l_11, l_12, l_13, l_14, l_15, l_16, l_17, l_18, l_19, l_20, l_21, l_22, l_23, l_24, l_30, l_31, l_32, l_40, l_41, l_48, l_57, l_59, l_64, l_90, l_97, l_99, l_100, l_119, l_122, l_186, l_200, l_255, l_600, l_999, l_1488, l_1000000, h17, if_true]
  | succ N ih =>
    intro p n u hN hp w hn h2
    by_cases k0 : tkK tx L p = 0
    · refine ⟨.inr u, 1, ⟨⟨w, hn⟩, by omega⟩, fun S hS => ?_, fun T hT K f hf => ⟨T, FM_r, ?_, hT.1.2.1, hT.1.2.2.1, hT.1.2.2.2.2⟩⟩
      · obtain ⟨S', a1, a2, a3, a4, a5⟩ := kc_end h6 hB hp hS k0
        exact ⟨S', a1, a2, a3, a4, a5⟩
      · obtain ⟨f, rfl⟩ : ∃ k, f = k + 1 := ⟨f - 1, by omega⟩
        have h17 : T 0 17 = nI 0 := by rw [hT.2.1, k0]; rfl
        rw [f_X9_readsAll_L34]
        simp (disch := omega) only [xl_s, ob_s, xb_s, rd_n, wr_n, m_1, m_1b, nI_add, pk_mul, l_0, l_1, l_2, l_3, l_4, l_5, l_6, l_7, l_8, l_9, l_10, l_11, l_12, l_13, l_14, l_15, l_16, l_17, l_18, l_19, l_20, l_21, l_22, l_23, l_24, l_30, l_31, l_32, l_40, l_41, l_48, l_57, l_59, l_64, l_90, l_97, l_99, l_100, l_119, l_122, l_186, l_200, l_255, l_600, l_999, l_1488, l_1000000, h17, if_true]
    · obtain ⟨O, c, s1, s2, s3⟩ := pc_0 h6 hB p n u hp w hn h2 (fun _ => k0) (fun z => absurd rfl z)
      have hr : rk (tkK tx L p) ≠ 0 := fun z => k0 ((rk_inj (a := tkK tx L p) (b := 0) (tkK_le L p) (by decide)).mp z)
      have hk6 := rk_le (tkK_le (tx := tx) L p)
      have w400 : wt 0 = 400 := rfl
      have hRC : ∀ T, f_RC3 T (nI 0) = f_RC (3 - 0) T (nI 0) := fun _ => rfl
      cases O with
      | inl e =>
        obtain ⟨b1, b2⟩ := s1
        rw [w400] at b2
        refine ⟨.inl e, c, ⟨b1, b2⟩, fun S hS => ?_, fun T hT K f hf => ?_⟩
        · obtain ⟨S', x1, x2, -⟩ := s2 S hS
          exact ⟨S', x1, x2.1, x2.2.1, x2.2.2⟩
        · obtain ⟨f, rfl⟩ : ∃ k, f = k + 1 := ⟨f - 1, by omega⟩
          obtain ⟨bb, T', t1, t2, t3, t4⟩ := s3 T hT
          subst t3
          rw [← hRC] at t1
          refine ⟨T', t2, ?_, t4⟩
          have h17 := hT.2.1
          rw [f_X9_readsAll_L34]
          simp (disch := omega) only [xl_s, ob_s, xb_s, rd_n, wr_n, m_1, m_1b, nI_add, pk_mul, l_0, l_1, l_2, l_3, l_4, l_5, l_6, l_7, l_8, l_9, l_10, l_11, l_12, l_13, l_14, l_15, l_16, l_17, l_18, l_19, l_20, l_21, l_22, l_23, l_24, l_30, l_31, l_32, l_40, l_41, l_48, l_57, l_59, l_64, l_90, l_97, l_99, l_100, l_119, l_122, l_186, l_200, l_255, l_600, l_999, l_1488, l_1000000, h17, i_eqF, t1, nB_f, if_true]
      | inr v =>
        obtain ⟨p1, n1, u1⟩ := v
        obtain ⟨a1, a2, a3, a4, a5, a6, a7⟩ := s1
        simp only at a1 a2 a3 a4 a5 a6 a7
        rw [w400] at a6
        obtain ⟨O2, c2, ⟨r0, r1⟩, r2, r3⟩ := ih p1 n1 u1 (by omega) a2 a3 a4 a5
        refine ⟨O2, c + c2, ⟨r0, by omega⟩, fun S hS => ?_, fun T hT K f hf => ?_⟩
        · obtain ⟨S1, x1, x2, x3⟩ := s2 S hS
          obtain ⟨S2, y1, y2⟩ := r2 S1 x2
          exact ⟨S2, ST_t x1 y1, y2⟩
        · obtain ⟨f, rfl⟩ : ∃ k, f = k + 1 := ⟨f - 1, by omega⟩
          obtain ⟨bb, T1, t1, t2, t3, t4⟩ := s3 T hT
          subst t3
          rw [← hRC] at t1
          obtain ⟨T2, y1, y2, y3⟩ := km_nx h6 hB a2 t4
          obtain ⟨T3, z1, z2⟩ := r3 T2 y2 K f (by omega)
          have h17 := hT.2.1
          have e1 : f_X9_readsAll_L34 K (f + 1) T = f_X9_readsAll_L34 K f T2 := by
            rw [f_X9_readsAll_L34]
            simp (disch := omega) only [xl_s, ob_s, xb_s, rd_n, wr_n, m_1, m_1b, nI_add, pk_mul, l_0, l_1, l_2, l_3, l_4, l_5, l_6, l_7, l_8, l_9, l_10, l_11, l_12, l_13, l_14, l_15, l_16, l_17, l_18, l_19, l_20, l_21, l_22, l_23, l_24, l_30, l_31, l_32, l_40, l_41, l_48, l_57, l_59, l_64, l_90, l_97, l_99, l_100, l_119, l_122, l_186, l_200, l_255, l_600, l_999, l_1488, l_1000000, h17, i_eqF, t1, nB_t, z10, if_false, y1]
          refine ⟨T3, FM_t t2 (FM_t (NT_FM y3) z1), ?_⟩
          rw [e1]
          exact z2
end
