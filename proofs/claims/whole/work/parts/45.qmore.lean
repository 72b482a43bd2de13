/-! level 2: the rest of the calls, the script aside -/
section
variable {C T : XS} {u : QU}
theorem km_L26 {h : Nat} (hh : T 0 5 = nI h) (h8 : h < 8) {K : Int32 → XS → Option (Int32 × XS)} {Q : Option (Int32 × XS) → Prop} (hK : ∀ T', (∀ i, i ≠ 1 → T' i = T i) → (∀ i, i < 186 → T' 1 i = T 4 (186 * h + i)) → Q (K (nI 186) T')) : Q (f_X9_undo_L26 K FU (nI 0) T) := by
  refine q_lp (fun n j T1 => Q (f_X9_undo_L26 K n (nI j) T1)) (fun j T1 => (∀ i, i ≠ 1 → T1 i = T i) ∧ ∀ i, i < j → T1 1 i = T 4 (186 * h + i)) 186 T (by decide) ⟨fun _ _ => rfl, fun i hi => by omega⟩ ?_ ?_
  · intro n T1 hI
    simp (disch := omega) only [f_X9_undo_L26, xl_s, ob_s, xb_s, rd_n, wr_n, m_1, m_1b, nI_add, pk_mul, l_0, l_1, l_2, l_3, l_4, l_5, l_6, l_7, l_8, l_9, l_10, l_11, l_12, l_13, l_14, l_15, l_16, l_17, l_18, l_19, l_20, l_21, l_22, l_23, l_24, l_30, l_31, l_32, l_40, l_41, l_48, l_57, l_59, l_64, l_90, l_97, l_99, l_100, l_119, l_122, l_186, l_200, l_255, l_600, l_999, l_1488, l_1000000, i_leT]
    exact hK T1 hI.1 hI.2
  · intro n j T1 hj hI ih
    have h1 := hI.1 4 (by decide)
    have h2 : T1 0 5 = nI h := by rw [hI.1 0 (by decide)]; exact hh
    simp (disch := omega) only [f_X9_undo_L26, xl_s, ob_s, xb_s, rd_n, wr_n, m_1, m_1b, nI_add, pk_mul, l_0, l_1, l_2, l_3, l_4, l_5, l_6, l_7, l_8, l_9, l_10, l_11, l_12, l_13, l_14, l_15, l_16, l_17, l_18, l_19, l_20, l_21, l_22, l_23, l_24, l_30, l_31, l_32, l_40, l_41, l_48, l_57, l_59, l_64, l_90, l_97, l_99, l_100, l_119, l_122, l_186, l_200, l_255, l_600, l_999, l_1488, l_1000000, i_leF, h1, h2]
    refine ih _ ⟨fun i hi => by rw [xp_n hi]; exact hI.1 i hi, fun i hi => ?_⟩
    rw [xp_s]
    by_cases e : i = j
    · rw [if_pos e, e]
    · rw [if_neg e]; exact hI.2 i (by omega)
theorem km_L12 {K : Int32 → XS → Option (Int32 × XS)} {Q : Option (Int32 × XS) → Prop} (hK : ∀ T', (∀ i, i ≠ 5 → T' i = T i) → (∀ i, i < 186 → T' 5 i = T 1 (i)) → Q (K (nI 186) T')) : Q (f_X9_saveSnapshot_L12 K FU (nI 0) T) := by
  refine q_lp (fun n j T1 => Q (f_X9_saveSnapshot_L12 K n (nI j) T1)) (fun j T1 => (∀ i, i ≠ 5 → T1 i = T i) ∧ ∀ i, i < j → T1 5 i = T 1 (i)) 186 T (by decide) ⟨fun _ _ => rfl, fun i hi => by omega⟩ ?_ ?_
  · intro n T1 hI
    simp (disch := omega) only [f_X9_saveSnapshot_L12, xl_s, ob_s, xb_s, rd_n, wr_n, m_1, m_1b, nI_add, pk_mul, l_0, l_1, l_2, l_3, l_4, l_5, l_6, l_7, l_8, l_9, l_10, l_11, l_12, l_13, l_14, l_15, l_16, l_17, l_18, l_19, l_20, l_21, l_22, l_23, l_24, l_30, l_31, l_32, l_40, l_41, l_48, l_57, l_59, l_64, l_90, l_97, l_99, l_100, l_119, l_122, l_186, l_200, l_255, l_600, l_999, l_1488, l_1000000, i_leT]
    exact hK T1 hI.1 hI.2
  · intro n j T1 hj hI ih
    have h1 := hI.1 1 (by decide)
    skip
    simp (disch := omega) only [f_X9_saveSnapshot_L12, xl_s, ob_s, xb_s, rd_n, wr_n, m_1, m_1b, nI_add, pk_mul, l_0, l_1, l_2, l_3, l_4, l_5, l_6, l_7, l_8, l_9, l_10, l_11, l_12, l_13, l_14, l_15, l_16, l_17, l_18, l_19, l_20, l_21, l_22, l_23, l_24, l_30, l_31, l_32, l_40, l_41, l_48, l_57, l_59, l_64, l_90, l_97, l_99, l_100, l_119, l_122, l_186, l_200, l_255, l_600, l_999, l_1488, l_1000000, i_leF, h1]
    refine ih _ ⟨fun i hi => by rw [xp_n hi]; exact hI.1 i hi, fun i hi => ?_⟩
    rw [xp_s]
    by_cases e : i = j
    · rw [if_pos e, e]
    · rw [if_neg e]; exact hI.2 i (by omega)
theorem km_L23 {K : Int32 → XS → Option (Int32 × XS)} {Q : Option (Int32 × XS) → Prop} (hK : ∀ T', (∀ i, i ≠ 1 → T' i = T i) → (∀ i, i < 186 → T' 1 i = T 5 (i)) → Q (K (nI 186) T')) : Q (f_X9_restoreSnapshot_L23 K FU (nI 0) T) := by
  refine q_lp (fun n j T1 => Q (f_X9_restoreSnapshot_L23 K n (nI j) T1)) (fun j T1 => (∀ i, i ≠ 1 → T1 i = T i) ∧ ∀ i, i < j → T1 1 i = T 5 (i)) 186 T (by decide) ⟨fun _ _ => rfl, fun i hi => by omega⟩ ?_ ?_
  · intro n T1 hI
    simp (disch := omega) only [f_X9_restoreSnapshot_L23, xl_s, ob_s, xb_s, rd_n, wr_n, m_1, m_1b, nI_add, pk_mul, l_0, l_1, l_2, l_3, l_4, l_5, l_6, l_7, l_8, l_9, l_10, l_11, l_12, l_13, l_14, l_15, l_16, l_17, l_18, l_19, l_20, l_21, l_22, l_23, l_24, l_30, l_31, l_32, l_40, l_41, l_48, l_57, l_59, l_64, l_90, l_97, l_99, l_100, l_119, l_122, l_186, l_200, l_255, l_600, l_999, l_1488, l_1000000, i_leT]
    exact hK T1 hI.1 hI.2
  · intro n j T1 hj hI ih
    have h1 := hI.1 5 (by decide)
    skip
    simp (disch := omega) only [f_X9_restoreSnapshot_L23, xl_s, ob_s, xb_s, rd_n, wr_n, m_1, m_1b, nI_add, pk_mul, l_0, l_1, l_2, l_3, l_4, l_5, l_6, l_7, l_8, l_9, l_10, l_11, l_12, l_13, l_14, l_15, l_16, l_17, l_18, l_19, l_20, l_21, l_22, l_23, l_24, l_30, l_31, l_32, l_40, l_41, l_48, l_57, l_59, l_64, l_90, l_97, l_99, l_100, l_119, l_122, l_186, l_200, l_255, l_600, l_999, l_1488, l_1000000, i_leF, h1]
    refine ih _ ⟨fun i hi => by rw [xp_n hi]; exact hI.1 i hi, fun i hi => ?_⟩
    rw [xp_s]
    by_cases e : i = j
    · rw [if_pos e, e]
    · rw [if_neg e]; exact hI.2 i (by omega)
theorem km_L39 {x y : Int32} {K : Int32 → XS → Option (Int32 × XS)} {Q : Option (Int32 × XS) → Prop} (hK : ∀ T', (∀ i, i ≠ 3 → T' i = T i) → (∀ i, i < 186 → T' 3 i = T 1 (i)) → Q (K (nI 186) T')) : Q (f_X9_fishAfter_L39 K x y FU (nI 0) T) := by
  refine q_lp (fun n j T1 => Q (f_X9_fishAfter_L39 K x y n (nI j) T1)) (fun j T1 => (∀ i, i ≠ 3 → T1 i = T i) ∧ ∀ i, i < j → T1 3 i = T 1 (i)) 186 T (by decide) ⟨fun _ _ => rfl, fun i hi => by omega⟩ ?_ ?_
  · intro n T1 hI
    simp (disch := omega) only [f_X9_fishAfter_L39, xl_s, ob_s, xb_s, rd_n, wr_n, m_1, m_1b, nI_add, pk_mul, l_0, l_1, l_2, l_3, l_4, l_5, l_6, l_7, l_8, l_9, l_10, l_11, l_12, l_13, l_14, l_15, l_16, l_17, l_18, l_19, l_20, l_21, l_22, l_23, l_24, l_30, l_31, l_32, l_40, l_41, l_48, l_57, l_59, l_64, l_90, l_97, l_99, l_100, l_119, l_122, l_186, l_200, l_255, l_600, l_999, l_1488, l_1000000, i_leT]
    exact hK T1 hI.1 hI.2
  · intro n j T1 hj hI ih
    have h1 := hI.1 1 (by decide)
    skip
    simp (disch := omega) only [f_X9_fishAfter_L39, xl_s, ob_s, xb_s, rd_n, wr_n, m_1, m_1b, nI_add, pk_mul, l_0, l_1, l_2, l_3, l_4, l_5, l_6, l_7, l_8, l_9, l_10, l_11, l_12, l_13, l_14, l_15, l_16, l_17, l_18, l_19, l_20, l_21, l_22, l_23, l_24, l_30, l_31, l_32, l_40, l_41, l_48, l_57, l_59, l_64, l_90, l_97, l_99, l_100, l_119, l_122, l_186, l_200, l_255, l_600, l_999, l_1488, l_1000000, i_leF, h1]
    refine ih _ ⟨fun i hi => by rw [xp_n hi]; exact hI.1 i hi, fun i hi => ?_⟩
    rw [xp_s]
    by_cases e : i = j
    · rw [if_pos e, e]
    · rw [if_neg e]; exact hI.2 i (by omega)
theorem km_L80 {x y z : Int32} {K : Int32 → XS → Option (Int32 × XS)} {Q : Option (Int32 × XS) → Prop} (hK : ∀ T', (∀ i, i ≠ 1 → T' i = T i) → (∀ i, i < 186 → T' 1 i = T 3 (i)) → Q (K (nI 186) T')) : Q (f_X9_fishAfter_L80 K x y z FU (nI 0) T) := by
  refine q_lp (fun n j T1 => Q (f_X9_fishAfter_L80 K x y z n (nI j) T1)) (fun j T1 => (∀ i, i ≠ 1 → T1 i = T i) ∧ ∀ i, i < j → T1 1 i = T 3 (i)) 186 T (by decide) ⟨fun _ _ => rfl, fun i hi => by omega⟩ ?_ ?_
  · intro n T1 hI
    simp (disch := omega) only [f_X9_fishAfter_L80, xl_s, ob_s, xb_s, rd_n, wr_n, m_1, m_1b, nI_add, pk_mul, l_0, l_1, l_2, l_3, l_4, l_5, l_6, l_7, l_8, l_9, l_10, l_11, l_12, l_13, l_14, l_15, l_16, l_17, l_18, l_19, l_20, l_21, l_22, l_23, l_24, l_30, l_31, l_32, l_40, l_41, l_48, l_57, l_59, l_64, l_90, l_97, l_99, l_100, l_119, l_122, l_186, l_200, l_255, l_600, l_999, l_1488, l_1000000, i_leT]
    exact hK T1 hI.1 hI.2
  · intro n j T1 hj hI ih
    have h1 := hI.1 3 (by decide)
    skip
    simp (disch := omega) only [f_X9_fishAfter_L80, xl_s, ob_s, xb_s, rd_n, wr_n, m_1, m_1b, nI_add, pk_mul, l_0, l_1, l_2, l_3, l_4, l_5, l_6, l_7, l_8, l_9, l_10, l_11, l_12, l_13, l_14, l_15, l_16, l_17, l_18, l_19, l_20, l_21, l_22, l_23, l_24, l_30, l_31, l_32, l_40, l_41, l_48, l_57, l_59, l_64, l_90, l_97, l_99, l_100, l_119, l_122, l_186, l_200, l_255, l_600, l_999, l_1488, l_1000000, i_leF, h1]
    refine ih _ ⟨fun i hi => by rw [xp_n hi]; exact hI.1 i hi, fun i hi => ?_⟩
    rw [xp_s]
    by_cases e : i = j
    · rw [if_pos e, e]
    · rw [if_neg e]; exact hI.2 i (by omega)
/-- both change, with one answer -/
def OV (a b : Option (Int32 × XS)) : Prop := ∃ r C' T', a = some (r, C') ∧ b = some (r, T') ∧ GI C' T'
theorem q_undo (g : GI C T) : OV (f_X8_undo C) (f_X9_undo T) := by
  have g0 := GI_16 (nI 0) g
  obtain ⟨u, g1, g2, g3, g4, g5, g6, g7, g8, g9, g10⟩ := g
  obtain ⟨h, o, h8, o8, p1, p2, p3, p4⟩ := g6
  by_cases q : h = 0
  · subst q
    refine ⟨oI 0, C, xput T 0 16 (nI 0), ?_, ?_, g0⟩
    · simp (disch := omega) only [f_X8_undo, xl_s, ob_s, xb_s, rd_n, wr_n, m_1, m_1b, nI_add, pk_mul, l_0, l_1, l_2, l_3, l_4, l_5, l_6, l_7, l_8, l_9, l_10, l_11, l_12, l_13, l_14, l_15, l_16, l_17, l_18, l_19, l_20, l_21, l_22, l_23, l_24, l_30, l_31, l_32, l_40, l_41, l_48, l_57, l_59, l_64, l_90, l_97, l_99, l_100, l_119, l_122, l_186, l_200, l_255, l_600, l_999, l_1488, l_1000000, p1, if_true]
    · simp (disch := omega) only [f_X9_undo, xl_s, ob_s, xb_s, rd_n, wr_n, m_1, m_1b, nI_add, pk_mul, l_0, l_1, l_2, l_3, l_4, l_5, l_6, l_7, l_8, l_9, l_10, l_11, l_12, l_13, l_14, l_15, l_16, l_17, l_18, l_19, l_20, l_21, l_22, l_23, l_24, l_30, l_31, l_32, l_40, l_41, l_48, l_57, l_59, l_64, l_90, l_97, l_99, l_100, l_119, l_122, l_186, l_200, l_255, l_600, l_999, l_1488, l_1000000, xp_s, i_F, p3, if_true, if_false, and_self]
  · obtain ⟨h, rfl⟩ : ∃ k, h = k + 1 := ⟨h - 1, by omega⟩
    obtain ⟨v, v1, v2, v3, v4⟩ := p4 h (by omega)
    have hm : (o + h) % 8 < 8 := Nat.mod_lt _ (by decide)
    have hB1 : ∀ i, i < 106 → C (xσ 27 106 1 i) = C (27 + i) := fun i hi => by rw [xS_1 hi]
    have hB2 : ∀ i, C (xσ 27 106 1 (106 + i)) = C (1 + i) := fun i => by rw [xS_2 (by omega), Nat.add_sub_cancel_left]
    obtain ⟨B, t1, t2, t3, t4, t5⟩ := kc_takeBack (B := fun i => C (xσ 27 106 1 i)) (h := h) (o := o) (u := v) (RC_cg (fun a ha => by
      show C (29 + 13 * ((o + h) % 8) + a) = C (xσ 27 106 1 (2 + 13 * ((o + h) % 8) + a))
      rw [hB1 _ (by omega)]
      congr 1
      omega) v1) v3 (by rw [hB1 0 (by decide)]; exact p1) (by rw [hB1 0 (by decide)]; exact p2) (by omega) o8
    have k1 : ∀ a, a < 106 → xmF (xτ 27 106 1 13) C B (27 + a) = B a := fun a ha => by funext y; rw [xF_1 (by omega), Nat.add_sub_cancel_left]
    have k2 : ∀ a, a < 13 → xmF (xτ 27 106 1 13) C B (1 + a) = B (106 + a) := fun a ha => by
      funext y
      rw [xF_2 (by omega) (by omega), Nat.add_sub_cancel_left]
    have k3 : ∀ a, (a < 1 ∨ 14 ≤ a) → (a < 28 ∨ 133 ≤ a) → a ≠ 27 → C a = xmF (xτ 27 106 1 13) C B a := fun a h1 h2 h3 => by funext y; rw [xF_n (by omega) (by omega)]
    have k4 : ∀ a, 28 ≤ a → a < 133 → C a = xmF (xτ 27 106 1 13) C B a := fun a h1 h2 => by
      have e : a = 27 + (a - 27) := by omega
      rw [e, k1 _ (by omega), t5 _ (by omega) (by omega), hB1 _ (by omega)]
    have d2 : xmF (xτ 27 106 1 13) C B 27 2 = nI h := by rw [show (27 : Nat) = 27 + 0 from rfl, k1 0 (by decide)]; exact t2
    have d1 : xmF (xτ 27 106 1 13) C B 27 1 = nI o := by rw [show (27 : Nat) = 27 + 0 from rfl, k1 0 (by decide)]; exact t3
    have e5 : nI (h + 1) - nI 1 = nI h := by rw [pk_sub (by omega), Nat.add_sub_cancel]
    have hm2 : ∀ x, x ≠ 16 → x ≠ 5 → xput (xput T 0 16 (nI 0)) 0 5 (nI h) 0 x = T 0 x := fun x h1 h2 => by rw [xp_s, if_neg h2, xp_s, if_neg h1]
    have ht : ∃ T', f_X9_undo T = some (nI h, T') ∧ (∀ i, i ≠ 1 → T' i = xput (xput T 0 16 (nI 0)) 0 5 (nI h) i) ∧ ∀ i, i < 186 → T' 1 i = T 4 (186 * h + i) := by
      simp (disch := omega) only [f_X9_undo, xl_s, ob_s, xb_s, rd_n, wr_n, m_1, m_1b, nI_add, pk_mul, l_0, l_1, l_2, l_3, l_4, l_5, l_6, l_7, l_8, l_9, l_10, l_11, l_12, l_13, l_14, l_15, l_16, l_17, l_18, l_19, l_20, l_21, l_22, l_23, l_24, l_30, l_31, l_32, l_40, l_41, l_48, l_57, l_59, l_64, l_90, l_97, l_99, l_100, l_119, l_122, l_186, l_200, l_255, l_600, l_999, l_1488, l_1000000, xp_s, i_F, p3, i_eqF, e5, if_true, if_false, and_self]
      refine km_L26 (T := xput (xput T 0 16 (nI 0)) 0 5 (nI h)) (h := h) (by rw [xp_s, if_pos rfl]) (by omega) (Q := fun z => ∃ T', z = some (nI h, T') ∧ (∀ i, i ≠ 1 → T' i = xput (xput T 0 16 (nI 0)) 0 5 (nI h) i) ∧ ∀ i, i < 186 → T' 1 i = T 4 (186 * h + i)) (fun T1 f1 f2 => ⟨T1, ?_, f1, fun i hi => ?_⟩)
      · rw [f1 0 (by decide), xp_s, if_pos rfl]
      · rw [f2 i hi, xp_n (by decide), xp_n (by decide)]
    obtain ⟨T', r1, r2, r3⟩ := ht
    have q1 : ∀ a, a ≠ 0 → a ≠ 1 → T a = T' a := fun a h0 h1 => by rw [r2 a h1, xp_n h0, xp_n h0]
    have q0 : ∀ x, x ≠ 16 → x ≠ 5 → T 0 x = T' 0 x := fun x h1 h2 => by rw [r2 0 (by decide), hm2 x h1 h2]
    refine ⟨nI h, _, T', ?_, r1, v, RC_cg (fun a ha => (k2 a ha).symm) t4, RM_cg (fun i hi => (r3 i hi).symm) v2, v3, v4, SN_cg (by rw [k3 0 (by decide) (by decide) (by decide)]) (fun a h1 h2 => k3 a (by omega) (by omega) (by omega)) (q0 6 (by decide) (by decide)) (q1 5 (by decide) (by decide)) g5, ?_, IN_cg (by rw [k3 134 (by decide) (by decide) (by decide)]) (k3 135 (by decide) (by decide) (by decide)) (q0 10 (by decide) (by decide)) (q1 6 (by decide) (by decide)) g7, RP_cg (by rw [k3 152 (by decide) (by decide) (by decide)]) (k3 153 (by decide) (by decide) (by decide)) (q0 15 (by decide) (by decide)) (q1 9 (by decide) (by decide)) g8, ?_, ?_⟩
    · simp (disch := omega) only [f_X8_undo, xl_s, ob_s, xb_s, rd_n, wr_n, m_1, m_1b, nI_add, pk_mul, l_0, l_1, l_2, l_3, l_4, l_5, l_6, l_7, l_8, l_9, l_10, l_11, l_12, l_13, l_14, l_15, l_16, l_17, l_18, l_19, l_20, l_21, l_22, l_23, l_24, l_30, l_31, l_32, l_40, l_41, l_48, l_57, l_59, l_64, l_90, l_97, l_99, l_100, l_119, l_122, l_186, l_200, l_255, l_600, l_999, l_1488, l_1000000, p1, i_eqF, t1, d2]
    · refine ⟨h, o, by omega, o8, d2, d1, ?_, fun j hj => ?_⟩
      · rw [r2 0 (by decide), xp_s, if_pos rfl]
      · obtain ⟨x, x1, x2, x3⟩ := p4 j (by omega)
        have hj2 : (o + j) % 8 < 8 := Nat.mod_lt _ (by decide)
        exact ⟨x, RC_cg (fun a ha => k4 (29 + 13 * ((o + j) % 8) + a) (by omega) (by omega)) x1, RM_cg (fun i hi => by rw [q1 4 (by decide) (by decide)]) x2, x3⟩
    · rw [← k3 133 (by decide) (by decide) (by decide), ← q0 12 (by decide) (by decide)]; exact g9
    · rw [← k3 133 (by decide) (by decide) (by decide), ← q0 13 (by decide) (by decide)]; exact g10
theorem q_saveSnapshot (g : GI C T) : OV (f_X8_saveSnapshot C) (f_X9_saveSnapshot T) := by
  obtain ⟨u, g1, g2, g3, g4, g5, g6, g7, g8, g9, g10⟩ := g
  have hB1 : ∀ i, i < 13 → C (xσ 14 13 1 i) = C (14 + i) := fun i hi => by rw [xS_1 hi]
  have hB2 : ∀ i, C (xσ 14 13 1 (13 + i)) = C (1 + i) := fun i => by rw [xS_2 (by omega), Nat.add_sub_cancel_left]
  obtain ⟨B, t1, t2, t3⟩ := kc_copy (S := fun i => C (xσ 14 13 1 i)) (u := u) (RC_cg (fun a ha => (hB2 a).symm) g1) g3
  have k1 : ∀ a, a < 13 → xmF (xτ 14 13 1 13) C B (14 + a) = B a := fun a ha => by funext y; rw [xF_1 (by omega), Nat.add_sub_cancel_left]
  have k3 : ∀ a, (a < 14 ∨ 27 ≤ a) → C a = xmF (xτ 14 13 1 13) C B a := fun a h1 => by
    funext y
    by_cases q : 1 ≤ a ∧ a < 14
    · rw [xF_2 (by omega) (by omega), t3 _ (by omega)]
      show _ = C (xσ 14 13 1 (13 + (a - 1))) y
      rw [hB2, show 1 + (a - 1) = a by omega]
    · rw [xF_n (by omega) (by omega)]
  have k4 : ∀ a, a ≠ 0 → (a < 14 ∨ 27 ≤ a) → C a = xput (xmF (xτ 14 13 1 13) C B) 0 2 (nI 1) a := fun a h1 h2 => by rw [xp_n h1]; exact k3 a h2
  have ht : ∃ T', f_X9_saveSnapshot T = some (nI (u 0 13), T') ∧ (∀ i, i ≠ 5 → T' i = xput (xput T 0 16 (nI 0)) 0 6 (nI 1) i) ∧ ∀ i, i < 186 → T' 5 i = T 1 i := by
    simp (disch := omega) only [f_X9_saveSnapshot, xl_s, ob_s, xb_s, rd_n, wr_n, m_1, m_1b, nI_add, pk_mul, l_0, l_1, l_2, l_3, l_4, l_5, l_6, l_7, l_8, l_9, l_10, l_11, l_12, l_13, l_14, l_15, l_16, l_17, l_18, l_19, l_20, l_21, l_22, l_23, l_24, l_30, l_31, l_32, l_40, l_41, l_48, l_57, l_59, l_64, l_90, l_97, l_99, l_100, l_119, l_122, l_186, l_200, l_255, l_600, l_999, l_1488, l_1000000]
    refine km_L12 (T := xput (xput T 0 16 (nI 0)) 0 6 (nI 1)) (Q := fun z => ∃ T', z = some (nI (u 0 13), T') ∧ (∀ i, i ≠ 5 → T' i = xput (xput T 0 16 (nI 0)) 0 6 (nI 1) i) ∧ ∀ i, i < 186 → T' 5 i = T 1 i) (fun T1 f1 f2 => ⟨T1, ?_, f1, fun i hi => ?_⟩)
    · have e3 : T1 1 3 = nI (u 0 13) := by rw [f1 1 (by decide), xp_n (by decide), xp_n (by decide)]; exact g2.2.2.2.1
      rw [e3]
    · rw [f2 i hi, xp_n (by decide), xp_n (by decide)]
  obtain ⟨T', r1, r2, r3⟩ := ht
  have q1 : ∀ a, a ≠ 0 → a ≠ 5 → T a = T' a := fun a h0 h1 => by rw [r2 a h1, xp_n h0, xp_n h0]
  have q0 : ∀ x, x ≠ 16 → x ≠ 6 → T 0 x = T' 0 x := fun x h1 h2 => by rw [r2 0 (by decide), xp_s, if_neg h2, xp_s, if_neg h1]
  have d13 : xmF (xτ 14 13 1 13) C B 1 13 = nI (u 0 13) := by rw [← k3 1 (by decide)]; exact g1.1.2.2.2.1
  refine ⟨nI (u 0 13), xput (xmF (xτ 14 13 1 13) C B) 0 2 (nI 1), T', ?_, r1, u, RC_cg (fun a ha => k4 (1 + a) (by omega) (by omega)) g1, by rw [← q1 1 (by decide) (by decide)]; exact g2, g3, g4, ⟨true, ?_, ?_, fun _ => ⟨u, RC_cg (fun a ha => ?_) t2, RM_cg (fun i hi => (r3 i hi).symm) g2, g3, g4⟩⟩, HI_cg (fun a h1 h2 => k4 a (by omega) (by omega)) (q0 5 (by decide) (by decide)) (q1 4 (by decide) (by decide)) g6, IN_cg (by rw [k4 134 (by decide) (by decide)]) (k4 135 (by decide) (by decide)) (q0 10 (by decide) (by decide)) (q1 6 (by decide) (by decide)) g7, RP_cg (by rw [k4 152 (by decide) (by decide)]) (k4 153 (by decide) (by decide)) (q0 15 (by decide) (by decide)) (q1 9 (by decide) (by decide)) g8, ?_, ?_⟩
  · simp (disch := omega) only [f_X8_saveSnapshot, xl_s, ob_s, xb_s, rd_n, wr_n, m_1, m_1b, nI_add, pk_mul, l_0, l_1, l_2, l_3, l_4, l_5, l_6, l_7, l_8, l_9, l_10, l_11, l_12, l_13, l_14, l_15, l_16, l_17, l_18, l_19, l_20, l_21, l_22, l_23, l_24, l_30, l_31, l_32, l_40, l_41, l_48, l_57, l_59, l_64, l_90, l_97, l_99, l_100, l_119, l_122, l_186, l_200, l_255, l_600, l_999, l_1488, l_1000000, t1, xp_n, d13]
  · rw [xp_s, if_pos rfl]; rfl
  · rw [r2 0 (by decide), xp_s, if_pos rfl]; rfl
  · show B a = xput _ 0 2 (nI 1) (14 + a)
    rw [xp_n (by omega), k1 a ha]
  · rw [← k4 133 (by decide) (by decide), ← q0 12 (by decide) (by decide)]; exact g9
  · rw [← k4 133 (by decide) (by decide), ← q0 13 (by decide) (by decide)]; exact g10
theorem xm_hist {D : XS} {x : Int32} : xm 27 shHist.length D (xput (xs 27 D) 0 2 x) = xput D 27 2 x := by
  have e : shHist.length = 106 := Eq.trans rfl rfl
  rw [e]
  funext a y
  by_cases h : 27 ≤ a ∧ a < 27 + 106
  · rw [xm_i h]
    by_cases h2 : a = 27
    · subst h2
      rw [Nat.sub_self, xp_s, xp_s, xs_d]
    · rw [xq_n (by omega), xq_n (by omega), xs_d, show 27 + (a - 27) = a by omega]
  · rw [xm_n (by omega), xq_n (by omega)]
theorem q_restoreSnapshot (g : GI C T) : OK [(4, 1)] (f_X8_restoreSnapshot C) (f_X9_restoreSnapshot T) := by
  have gg := g
  obtain ⟨u, g1, g2, g3, g4, g5, g6, g7, g8, g9, g10⟩ := g
  obtain ⟨b, s1, s2, s3⟩ := g5
  cases b
  · refine ok_t gg 4 1 (by decide) ?_ ?_
    · simp (disch := omega) only [f_X8_restoreSnapshot, xl_s, ob_s, xb_s, rd_n, wr_n, m_1, m_1b, nI_add, pk_mul, l_0, l_1, l_2, l_3, l_4, l_5, l_6, l_7, l_8, l_9, l_10, l_11, l_12, l_13, l_14, l_15, l_16, l_17, l_18, l_19, l_20, l_21, l_22, l_23, l_24, l_30, l_31, l_32, l_40, l_41, l_48, l_57, l_59, l_64, l_90, l_97, l_99, l_100, l_119, l_122, l_186, l_200, l_255, l_600, l_999, l_1488, l_1000000, s1, nBf0, if_true]
    · simp (disch := omega) only [f_X9_restoreSnapshot, xl_s, ob_s, xb_s, rd_n, wr_n, m_1, m_1b, nI_add, pk_mul, l_0, l_1, l_2, l_3, l_4, l_5, l_6, l_7, l_8, l_9, l_10, l_11, l_12, l_13, l_14, l_15, l_16, l_17, l_18, l_19, l_20, l_21, l_22, l_23, l_24, l_30, l_31, l_32, l_40, l_41, l_48, l_57, l_59, l_64, l_90, l_97, l_99, l_100, l_119, l_122, l_186, l_200, l_255, l_600, l_999, l_1488, l_1000000, s2, nBf0, if_true, th1_1, z10, if_false]
  obtain ⟨v, v1, v2, v3, v4⟩ := s3 rfl
  obtain ⟨h, o, h8, o8, p1, p2, p3, p4⟩ := g6
  have hB1 : ∀ i, i < 13 → C (xσ 1 13 14 i) = C (1 + i) := fun i hi => by rw [xS_1 hi]
  have hB2 : ∀ i, C (xσ 1 13 14 (13 + i)) = C (14 + i) := fun i => by rw [xS_2 (by omega), Nat.add_sub_cancel_left]
  obtain ⟨B, t1, t2, t3⟩ := kc_copy (S := fun i => C (xσ 1 13 14 i)) (u := v) (RC_cg (fun a ha => (hB2 a).symm) v1) v3
  have k1 : ∀ a, a < 13 → xmF (xτ 1 13 14 13) C B (1 + a) = B a := fun a ha => by funext y; rw [xF_1 (by omega), Nat.add_sub_cancel_left]
  have k3 : ∀ a, (a < 1 ∨ 14 ≤ a) → C a = xmF (xτ 1 13 14 13) C B a := fun a h1 => by
    funext y
    by_cases q : 14 ≤ a ∧ a < 27
    · rw [xF_2 (by omega) (by omega), t3 _ (by omega)]
      show _ = C (xσ 1 13 14 (13 + (a - 14))) y
      rw [hB2, show 14 + (a - 14) = a by omega]
    · rw [xF_n (by omega) (by omega)]
  have k4 : ∀ a, a ≠ 27 → (a < 1 ∨ 14 ≤ a) → C a = xput (xmF (xτ 1 13 14 13) C B) 27 2 (nI 0) a := fun a h1 h2 => by rw [xp_n h1]; exact k3 a h2
  have ht : ∃ T', f_X9_restoreSnapshot T = some (nI (v 0 13), T') ∧ (∀ i, i ≠ 1 → T' i = xput (xput T 0 16 (nI 0)) 0 5 (nI 0) i) ∧ ∀ i, i < 186 → T' 1 i = T 5 i := by
    simp (disch := omega) only [f_X9_restoreSnapshot, xl_s, ob_s, xb_s, rd_n, wr_n, m_1, m_1b, nI_add, pk_mul, l_0, l_1, l_2, l_3, l_4, l_5, l_6, l_7, l_8, l_9, l_10, l_11, l_12, l_13, l_14, l_15, l_16, l_17, l_18, l_19, l_20, l_21, l_22, l_23, l_24, l_30, l_31, l_32, l_40, l_41, l_48, l_57, l_59, l_64, l_90, l_97, l_99, l_100, l_119, l_122, l_186, l_200, l_255, l_600, l_999, l_1488, l_1000000, s2, nBt0, if_false, th1_0, if_true]
    refine km_L23 (T := xput T 0 16 (nI 0)) (Q := fun z => ∃ T', z = some (nI (v 0 13), T') ∧ (∀ i, i ≠ 1 → T' i = xput (xput T 0 16 (nI 0)) 0 5 (nI 0) i) ∧ ∀ i, i < 186 → T' 1 i = T 5 i) (fun T1 f1 f2 => ⟨xput T1 0 5 (nI 0), ?_, fun i hi => ?_, fun i hi => ?_⟩)
    · have e3 : xput T1 0 5 (nI 0) 1 3 = nI (v 0 13) := by rw [xp_n (by decide), f2 3 (by decide), xp_n (by decide)]; exact v2.2.2.2.1
      rw [e3]
    · by_cases q : i = 0
      · subst q
        funext y
        rw [xp_s, xp_s, f1 0 (by decide)]
      · rw [xp_n q, xp_n q, f1 i hi]
    · rw [xp_n (by decide), f2 i hi, xp_n (by decide)]
  obtain ⟨T', r1, r2, r3⟩ := ht
  have q1 : ∀ a, a ≠ 0 → a ≠ 1 → T a = T' a := fun a h0 h1 => by rw [r2 a h1, xp_n h0, xp_n h0]
  have q0 : ∀ x, x ≠ 16 → x ≠ 5 → T 0 x = T' 0 x := fun x h1 h2 => by rw [r2 0 (by decide), xp_s, if_neg h2, xp_s, if_neg h1]
  have d13 : xmF (xτ 1 13 14 13) C B 1 13 = nI (v 0 13) := by rw [show (1 : Nat) = 1 + 0 from rfl, k1 0 (by decide)]; exact t2.1.2.2.2.1
  refine ok_r (r := nI (v 0 13)) (C' := xput (xmF (xτ 1 13 14 13) C B) 27 2 (nI 0)) (T' := T') ⟨v, RC_cg (fun a ha => ?_) t2, RM_cg (fun i hi => (r3 i hi).symm) v2, v3, v4, SN_cg (by rw [k4 0 (by decide) (by decide)]) (fun a h1 h2 => k4 a (by omega) (by omega)) (q0 6 (by decide) (by decide)) (q1 5 (by decide) (by decide)) ⟨true, s1, s2, s3⟩, ⟨0, o, by decide, o8, ?_, ?_, ?_, fun j hj => absurd hj (Nat.not_lt_zero j)⟩, IN_cg (by rw [k4 134 (by decide) (by decide)]) (k4 135 (by decide) (by decide)) (q0 10 (by decide) (by decide)) (q1 6 (by decide) (by decide)) g7, RP_cg (by rw [k4 152 (by decide) (by decide)]) (k4 153 (by decide) (by decide)) (q0 15 (by decide) (by decide)) (q1 9 (by decide) (by decide)) g8, ?_, ?_⟩ ?_ ?_ r1
  · show B a = xput _ 27 2 (nI 0) (1 + a)
    rw [xp_n (by omega), k1 a ha]
  · rw [xp_s, if_pos rfl]
  · rw [xp_s, if_neg (by decide), ← k3 27 (by decide)]; exact p2
  · rw [r2 0 (by decide), xp_s, if_pos rfl]
  · rw [← k4 133 (by decide) (by decide), ← q0 12 (by decide) (by decide)]; exact g9
  · rw [← k4 133 (by decide) (by decide), ← q0 13 (by decide) (by decide)]; exact g10
  · rw [r2 0 (by decide), xp_s, if_neg (by decide), xp_s, if_pos rfl]
  · simp (disch := omega) only [f_X8_restoreSnapshot, xl_s, ob_s, xb_s, rd_n, wr_n, m_1, m_1b, nI_add, pk_mul, l_0, l_1, l_2, l_3, l_4, l_5, l_6, l_7, l_8, l_9, l_10, l_11, l_12, l_13, l_14, l_15, l_16, l_17, l_18, l_19, l_20, l_21, l_22, l_23, l_24, l_30, l_31, l_32, l_40, l_41, l_48, l_57, l_59, l_64, l_90, l_97, l_99, l_100, l_119, l_122, l_186, l_200, l_255, l_600, l_999, l_1488, l_1000000, s1, nBt0, if_false, t1, f_X2_forget, xm_hist, xp_n, d13]
end
