/-! level 2: repeats of a script in the class -/
section
variable {tx : Nat → Nat} {L p n d r k c j pb : Nat} {u : QU} {S S' T T' : XS} {x : Nat → Nat}
theorem kc_tl13 {S1 S' : XS} (h6 : L ≤ 600) (hB : ∀ i, tx i < 256) (hp : p ≤ L) (h : DC tx L p n d u S1) (hq : qcm tx (tkK tx L p) (tkS tx L p) (tkE tx L p) = 13) (ho : f_X7_openRepeat S1 = some S') : tl S1 = some (none, S') := by
  have hc := kc_here1 (k := 12) h6 hB hp h hq
  rw [tl, hc, xb_s, xopt, xif13, if_pos (by decide), if_pos rfl, ho, ob_s]
theorem kc_rep2 (h6 : L ≤ 600) (hB : ∀ i, tx i < 256) (hp : p ≤ L) (h : BC tx L p n 2 u S) (h4 : tkK tx L p ≠ 4) (hq : qcm tx (tkK tx L p) (tkS tx L p) (tkE tx L p) = 13) : ∃ S', ST 1 S S' ∧ EC 4 (tkS tx L p) S' := by
  obtain ⟨S1, s1, s2, s3⟩ := kc_tl h6 hB hp h (by decide) (fun z => by cases z) (fun _ => h4)
  obtain ⟨S4, f1, f2⟩ := kc_fail (S := S1) 4 s2.2.2.1
  have h7 : S1 0 7 = nI 2 := s2.1.2.2.2.2.2.1
  refine ⟨S4, ST_n h.2.2.2.1 ?_, f2⟩
  rw [s1]
  refine kc_tl13 h6 hB hp s2 hq ?_
  rw [f_X7_openRepeat]
  simp (disch := omega) only [xl_s, ob_s, xb_s, rd_n, wr_n, m_1, m_1b, nI_add, pk_mul, l_0, l_1, l_2, l_3, l_4, l_5, l_6, l_7, l_8, l_9, l_10, l_11, l_12, l_13, l_14, l_15, l_16, l_17, l_18, l_19, l_20, l_21, l_22, l_23, l_24, l_30, l_31, l_32, l_40, l_41, l_48, l_57, l_59, l_64, l_90, l_97, l_99, l_100, l_119, l_122, l_186, l_200, l_255, l_600, l_999, l_1488, l_1000000, h7, i_ltF, f1]
theorem kc_rep (hd : d < 2) (h6 : L ≤ 600) (hB : ∀ i, tx i < 256) (hp : p ≤ L) (h : BC tx L p n d u S) (w : WF u) (h0 : d = 0 → tkK tx L p ≠ 0) (h4 : d ≠ 0 → tkK tx L p ≠ 4) (hq : qcm tx (tkK tx L p) (tkS tx L p) (tkE tx L p) = 13) : ∃ S', ST 1 S S' ∧ (∀ e, hdr tx L p = .inl e → EC e.1 e.2 S') ∧ (∀ v, hdr tx L p = .inr v → BC tx L v.1 n (d + 1) u S' ∧ S' 17 d = nI v.1 ∧ S' 18 d = nI v.2 ∧ ∀ i, i < d → S' 17 i = S 17 i ∧ S' 18 i = S 18 i) := by
  have hE := tkE_b (tx := tx) hp
  obtain ⟨S1, s1, s2, s3⟩ := kc_tl h6 hB hp h (by omega) h0 h4
  have h7 : S1 0 7 = nI d := s2.1.2.2.2.2.2.1
  obtain ⟨b, S2, a1, a2, a3⟩ := kc_nums (tx := tx) h6 hB (k := 12) (by decide) w 1 FU 0 (tkE tx L p) (fun _ => 0) S1 (by decide) (L_lt (by decide)) hE.2.1 s2.1 ⟨fun _ => Nat.zero_le _, fun i hi => by omega⟩ (fun i hi => by omega)
  have hrn : f_X7_readNumbers S1 12 = some (nB b, S2) := a1
  have hlt : lt u (fun _ => 0) ((ll 12).getD 0 0) (tkV tx L (tkE tx L p)) = decide (1 ≤ tkV tx L (tkE tx L p) ∧ tkV tx L (tkE tx L p) ≤ 20) := rfl
  have hop : f_X7_openRepeat S1 = (if nB b = nI 0 then some S2 else (xbind2 (f_X7_expect S2 (nI 3)) fun v3 S4 => (if v3 = nI 0 then some S4 else ((xwr (S4 0 7) 2).bind fun j6 => xlet (xput S4 17 j6 (S4 1 2)) fun S5 => ((xrd (nI 0) 4 (S5 16)).bind fun v7 => ((xwr (S5 0 7) 2).bind fun j9 => xlet (xput S5 18 j9 v7) fun S8 => (xlet (xput S8 0 7 ((S8 0 7) + nI 1)) fun S10 => some S10))))))) := by
    rw [f_X7_openRepeat]
    simp (disch := omega) only [l_0, l_1, l_2, l_3, l_4, h7, i_ltT, hrn, xb_s]
  have hstn : ∀ S', f_X7_openRepeat S1 = some S' → ST 1 S S' := fun S' ho => ST_n h.2.2.2.1 (by rw [s1]; exact kc_tl13 h6 hB hp s2 hq ho)
  cases b
  · obtain ⟨c, o, c1, c2, c3, c4⟩ := a2 rfl
    have g := c4 (fun _ _ => .inr (0, u))
    refine ⟨S2, hstn S2 (by rw [hop, nB_f, if_pos rfl]), fun e he => ?_, fun v hv => ?_⟩
    · rw [rdn] at g
      rw [hdr] at he
      split at g
      · rename_i k2
        rw [if_pos k2] at he
        split at g
        · rw [rdn] at g
          cases g
        · rename_i hl
          rw [hlt] at hl
          rw [if_neg (fun z => hl (decide_eq_true z))] at he
          cases g; cases he; exact c3
      · rename_i k2
        rw [if_neg k2] at he
        cases g; cases he; exact c3
    · rw [rdn] at g
      rw [hdr] at hv
      split at g
      · rename_i k2
        rw [if_pos k2] at hv
        split at g
        · rw [rdn] at g
          cases g
        · rename_i hl
          rw [hlt] at hl
          rw [if_neg (fun z => hl (decide_eq_true z))] at hv
          cases hv
      · rename_i k2
        rw [if_neg k2] at hv
        cases hv
  obtain ⟨p', x', b1, b2, b3, b4, b5, b6, b7, b8⟩ := a3 rfl
  have key : tkK tx L (tkE tx L p) = 2 ∧ (1 ≤ tkV tx L (tkE tx L p) ∧ tkV tx L (tkE tx L p) ≤ 20) ∧ p' = tkE tx L (tkE tx L p) ∧ x' 0 = tkV tx L (tkE tx L p) := by
    have g := b8 (fun _ _ => .inr (0, u))
    have g2 := b8 (fun p x => .inl (p, x 0))
    rw [rdn] at g g2
    split at g
    · rename_i k2
      rw [if_pos k2] at g2
      split at g
      · rename_i hl
        rw [if_pos hl, rdn] at g2
        rw [hlt] at hl
        have g3 := Sum.inl.inj g2
        exact ⟨k2, of_decide_eq_true hl, (congrArg Prod.fst g3).symm, (congrArg Prod.snd g3).symm⟩
      · cases g
    · cases g
  obtain ⟨k2, kv, rfl, hx0⟩ := key
  have c16 : S2 16 0 = nI (tkV tx L (tkE tx L p)) := by rw [b6 0 (by decide), hx0]
  obtain ⟨y1, y2⟩ := kc_expect h6 hB b2 b4 3 (by decide)
  by_cases q : tkK tx L (tkE tx L (tkE tx L p)) = 3
  · obtain ⟨S3, t1, t2, t3⟩ := y1 q
    have z7 : S3 0 7 = nI d := t2.1.2.2.2.2.2.1
    have z2 : S3 1 2 = nI (tkE tx L (tkE tx L (tkE tx L p))) := t2.1.1.2.1
    have z16 : S3 16 0 = nI (tkV tx L (tkE tx L p)) := by rw [t3 16 (by decide)]; exact c16
    have ho : f_X7_openRepeat S1 = some (xput (xput (xput S3 17 d (nI (tkE tx L (tkE tx L (tkE tx L p))))) 18 d (nI (tkV tx L (tkE tx L p)))) 0 7 (nI (d + 1))) := by
      rw [hop, nB_t]
      simp (disch := omega) only [xl_s, ob_s, xb_s, rd_n, wr_n, m_1, m_1b, nI_add, pk_mul, l_0, l_1, l_2, l_3, l_4, l_5, l_6, l_7, l_8, l_9, l_10, l_11, l_12, l_13, l_14, l_15, l_16, l_17, l_18, l_19, l_20, l_21, l_22, l_23, l_24, l_30, l_31, l_32, l_40, l_41, l_48, l_57, l_59, l_64, l_90, l_97, l_99, l_100, l_119, l_122, l_186, l_200, l_255, l_600, l_999, l_1488, l_1000000, z10, if_false, t1, z7, z2, xq_n, z16]
    refine ⟨_, hstn _ ho, fun e he => ?_, fun v hv => ?_⟩
    · rw [hdr, if_pos k2, if_pos kv, if_pos q] at he
      cases he
    · rw [hdr, if_pos k2, if_pos kv, if_pos q] at hv
      cases hv
      obtain ⟨⟨y1, y2, y3⟩, y4, y5, y6, y7, y8, y9⟩ := t2.1
      have gg : ∀ a, a ≠ 0 → a ≠ 17 → a ≠ 18 → xput (xput (xput S3 17 d (nI (tkE tx L (tkE tx L (tkE tx L p))))) 18 d (nI (tkV tx L (tkE tx L p)))) 0 7 (nI (d + 1)) a = S3 a := fun a h0 h17 h18 => by rw [xp_n h0, xp_n h18, xp_n h17]
      refine ⟨⟨⟨?_, ?_, fun i hi => ?_⟩, ?_, ?_, ?_, ?_, ?_, RC_cg (fun a ha => (gg (3 + a) (by omega) (by omega) (by omega)).symm) y9⟩, ?_, ?_, fun i hi => ⟨?_, ?_⟩⟩
      · rw [gg 1 (by decide) (by decide) (by decide)]; exact y1
      · rw [gg 1 (by decide) (by decide) (by decide)]; exact y2
      · show xput (xput (xput S3 17 d _) 18 d _) 0 7 _ 2 i = _
        rw [gg 2 (by decide) (by decide) (by decide)]; exact y3 i hi
      · rw [xp_s, if_neg (by decide), xp_n (by decide), xp_n (by decide)]; exact y4
      · rw [xp_s, if_neg (by decide), xp_n (by decide), xp_n (by decide)]; exact y5
      · rw [xp_s, if_neg (by decide), xp_n (by decide), xp_n (by decide)]; exact y6
      · rw [xp_s, if_neg (by decide), xp_n (by decide), xp_n (by decide)]; exact y7
      · rw [xp_s, if_pos rfl]
      · rw [xp_n (by decide), xp_n (by decide), xp_s, if_pos rfl]
      · rw [xp_n (by decide), xp_s, if_pos rfl]
      · rw [xp_n (by decide), xp_n (by decide), xp_s, if_neg (by omega), t3 17 (by decide), b7 17 (by decide) (by decide), s3 17 (by decide)]
      · rw [xp_n (by decide), xp_s, if_neg (by omega), xp_n (by decide), t3 18 (by decide), b7 18 (by decide) (by decide), s3 18 (by decide)]
  · obtain ⟨S3, t1, t2⟩ := y2 q
    have ho : f_X7_openRepeat S1 = some S3 := by
      rw [hop, nB_t]
      simp (disch := omega) only [xl_s, ob_s, xb_s, rd_n, wr_n, m_1, m_1b, nI_add, pk_mul, l_0, l_1, l_2, l_3, l_4, l_5, l_6, l_7, l_8, l_9, l_10, l_11, l_12, l_13, l_14, l_15, l_16, l_17, l_18, l_19, l_20, l_21, l_22, l_23, l_24, l_30, l_31, l_32, l_40, l_41, l_48, l_57, l_59, l_64, l_90, l_97, l_99, l_100, l_119, l_122, l_186, l_200, l_255, l_600, l_999, l_1488, l_1000000, z10, if_false, t1, if_true]
    refine ⟨S3, hstn _ ho, fun e he => ?_, fun v hv => ?_⟩
    · rw [hdr, if_pos k2, if_pos kv, if_neg q] at he
      cases he; exact t2
    · rw [hdr, if_pos k2, if_pos kv, if_neg q] at hv
      cases hv
/-- a closing bracket in the class -/
theorem kc_cl (hd : d < 2) (h6 : L ≤ 600) (hB : ∀ i, tx i < 256) (hp : p ≤ L) (h : BC tx L p n (d + 1) u S) (k4 : tkK tx L p = 4) (hj : 1 ≤ j) (hj2 : j ≤ 20) (hpb : pb ≤ 600) (e17 : S 17 d = nI pb) (e18 : S 18 d = nI j) :
    (2 ≤ j → ∃ S', ST 1 S S' ∧ BC tx L pb n (d + 1) u S' ∧ S' 17 d = nI pb ∧ S' 18 d = nI (j - 1) ∧ ∀ i, i < d → S' 17 i = S 17 i ∧ S' 18 i = S 18 i) ∧
    (j = 1 → ∃ S', ST 1 S S' ∧ (tkK tx L (tkE tx L p) = 5 → BC tx L (tkE tx L (tkE tx L p)) n d u S' ∧ ∀ i, i < d → S' 17 i = S 17 i ∧ S' 18 i = S 18 i) ∧ (tkK tx L (tkE tx L p) ≠ 5 → EC 1 (tkS tx L (tkE tx L p)) S')) := by
  have hE := tkE_b (tx := tx) hp
  obtain ⟨R, r1, r2, r3⟩ := kc_nx h6 hB hp h
  have k3 := r2.2.1
  rw [k4] at k3
  have k7 : xm 1 2 S R 0 7 = nI (d + 1) := r2.1.2.2.2.2.2.1
  have g17 : xm 1 2 S R 17 d = nI pb := by rw [r3 17 (by decide)]; exact e17
  have g18 : xm 1 2 S R 18 d = nI j := by rw [r3 18 (by decide)]; exact e18
  have hst : f_X7_readStatement S = (f_X7_closeRound (xm 1 2 S R)).bind fun S43 => some (none, S43) := by
    rw [f_X7_readStatement]
    rw [r1, ob_s, xl_s, len_read, k3, k7]
    simp only [l_0, l_4]
    rw [i_eqF (by decide) (by decide) (by decide), if_pos trivial, i_leF (by omega) (by omega)]
  have es1 : nI (d + 1) - nI 1 = nI d := by rw [pk_sub (by omega), Nat.add_sub_cancel]
  have es2 : nI j - nI 1 = nI (j - 1) := pk_sub hj
  obtain ⟨⟨y1, y2, y3⟩, y4, y5, y6, y7, y8, y9⟩ := r2.1
  constructor
  · intro h2
    have gg : ∀ a, a ≠ 1 → a ≠ 18 → xput (xput (xm 1 2 S R) 18 d (nI (j - 1))) 1 2 (nI pb) a = xm 1 2 S R a := fun a h0 h18 => by rw [xp_n h0, xp_n h18]
    refine ⟨xput (xput (xm 1 2 S R) 18 d (nI (j - 1))) 1 2 (nI pb), ST_n h.2.2.2.1 ?_, ⟨⟨?_, ?_, fun i hi => ?_⟩, ?_, ?_, ?_, ?_, ?_, RC_cg (fun a ha => (gg (3 + a) (by omega) (by omega)).symm) y9⟩, ?_, ?_, fun i hi => ⟨?_, ?_⟩⟩
    · rw [hst, f_X7_closeRound]
      simp (disch := omega) only [xl_s, ob_s, xb_s, rd_n, wr_n, m_1, m_1b, nI_add, pk_mul, l_0, l_1, l_2, l_3, l_4, l_5, l_6, l_7, l_8, l_9, l_10, l_11, l_12, l_13, l_14, l_15, l_16, l_17, l_18, l_19, l_20, l_21, l_22, l_23, l_24, l_30, l_31, l_32, l_40, l_41, l_48, l_57, l_59, l_64, l_90, l_97, l_99, l_100, l_119, l_122, l_186, l_200, l_255, l_600, l_999, l_1488, l_1000000, k7, es1, g18, es2, xp_s, i_T, xq_n, i_leF, g17, if_true, if_false, and_self]
    · rw [xp_s, if_neg (by decide), xp_n (by decide)]; exact y1
    · rw [xp_s, if_pos rfl]
    · show xput (xput (xm 1 2 S R) 18 d _) 1 2 _ 2 i = _
      rw [gg 2 (by decide) (by decide)]; exact y3 i hi
    · rw [gg 0 (by decide) (by decide)]; exact y4
    · rw [gg 0 (by decide) (by decide)]; exact y5
    · rw [gg 0 (by decide) (by decide)]; exact y6
    · rw [gg 0 (by decide) (by decide)]; exact y7
    · rw [gg 0 (by decide) (by decide)]; exact y8
    · rw [gg 17 (by decide) (by decide)]; exact g17
    · rw [xp_n (by decide), xp_s, if_pos rfl]
    · rw [gg 17 (by decide) (by decide), r3 17 (by decide)]
    · rw [xp_n (by decide), xp_s, if_neg (by omega), r3 18 (by decide)]
  · intro h1
    have gg : ∀ a, a ≠ 0 → a ≠ 18 → xput (xput (xm 1 2 S R) 18 d (nI (j - 1))) 0 7 (nI d) a = xm 1 2 S R a := fun a h0 h18 => by rw [xp_n h0, xp_n h18]
    have hbc : BC tx L (tkE tx L p) n d u (xput (xput (xm 1 2 S R) 18 d (nI (j - 1))) 0 7 (nI d)) := by
      refine ⟨⟨?_, ?_, fun i hi => ?_⟩, ?_, ?_, ?_, ?_, ?_, RC_cg (fun a ha => (gg (3 + a) (by omega) (by omega)).symm) y9⟩
      · rw [gg 1 (by decide) (by decide)]; exact y1
      · rw [gg 1 (by decide) (by decide)]; exact y2
      · show xput (xput (xm 1 2 S R) 18 d _) 0 7 _ 2 i = _
        rw [gg 2 (by decide) (by decide)]; exact y3 i hi
      · rw [xp_s, if_neg (by decide), xp_n (by decide)]; exact y4
      · rw [xp_s, if_neg (by decide), xp_n (by decide)]; exact y5
      · rw [xp_s, if_neg (by decide), xp_n (by decide)]; exact y6
      · rw [xp_s, if_neg (by decide), xp_n (by decide)]; exact y7
      · rw [xp_s, if_pos rfl]
    obtain ⟨w1, w2⟩ := kc_expect h6 hB hE.2.1 hbc 5 (by decide)
    by_cases q : tkK tx L (tkE tx L p) = 5
    · obtain ⟨S3, t1, t2, t3⟩ := w1 q
      refine ⟨S3, ST_n h.2.2.2.1 ?_, fun _ => ⟨t2.1, fun i hi => ⟨?_, ?_⟩⟩, fun z => absurd q z⟩
      · rw [hst, f_X7_closeRound]
        simp (disch := omega) only [xl_s, ob_s, xb_s, rd_n, wr_n, m_1, m_1b, nI_add, pk_mul, l_0, l_1, l_2, l_3, l_4, l_5, l_6, l_7, l_8, l_9, l_10, l_11, l_12, l_13, l_14, l_15, l_16, l_17, l_18, l_19, l_20, l_21, l_22, l_23, l_24, l_30, l_31, l_32, l_40, l_41, l_48, l_57, l_59, l_64, l_90, l_97, l_99, l_100, l_119, l_122, l_186, l_200, l_255, l_600, l_999, l_1488, l_1000000, k7, es1, g18, es2, xp_s, i_T, xq_n, i_leT, t1, if_true, if_false, and_self]
      · rw [t3 17 (by decide), gg 17 (by decide) (by decide), r3 17 (by decide)]
      · rw [t3 18 (by decide), xp_n (by decide), xp_s, if_neg (by omega), r3 18 (by decide)]
    · obtain ⟨S3, t1, t2⟩ := w2 q
      refine ⟨S3, ST_n h.2.2.2.1 ?_, fun z => absurd z q, fun _ => t2⟩
      rw [hst, f_X7_closeRound]
      simp (disch := omega) only [xl_s, ob_s, xb_s, rd_n, wr_n, m_1, m_1b, nI_add, pk_mul, l_0, l_1, l_2, l_3, l_4, l_5, l_6, l_7, l_8, l_9, l_10, l_11, l_12, l_13, l_14, l_15, l_16, l_17, l_18, l_19, l_20, l_21, l_22, l_23, l_24, l_30, l_31, l_32, l_40, l_41, l_48, l_57, l_59, l_64, l_90, l_97, l_99, l_100, l_119, l_122, l_186, l_200, l_255, l_600, l_999, l_1488, l_1000000, k7, es1, g18, es2, xp_s, i_T, xq_n, i_leT, t1, if_true, if_false, and_self]
end
