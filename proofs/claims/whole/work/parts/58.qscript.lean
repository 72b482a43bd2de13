/-! level 2: runScript -/
section
variable {S C T C' T' : XS} {u : QU}
/-- a change, remembered: the roof before it stands in cell 2 of the reference -/
theorem rem_all {T3 : XS} (g1 : RC (xs 1 C) u) (g2 : RM (T3 2) u) (g3 : WF u) (g4 : u 0 13 ≤ 999) (g5 : SN C T3) (g6 : HI C T3) (g7 : IN C T3) (g8 : RP C T3) (g9 : C 133 2 = T3 0 12) (g10 : C 133 3 = T3 0 13) : ∃ B, f_X2_remember (fun i => C (xσ 27 106 1 i)) = some B ∧
    ∀ u' S2 r, RC S2 u' → RM (T3 1) u' → WF u' → u' 0 13 ≤ 999 → ∃ T4, f_X9_remember T3 r = some (r, T4) ∧ GI (xm 1 13 (xmF (xτ 27 106 1 13) C B) S2) T4 ∧ T4 0 16 = T3 0 16 := by
  obtain ⟨h, o, h8, o8, p1, p2, p3, p4⟩ := g6
  have hm : (o + h) % 8 < 8 := Nat.mod_lt _ (by decide)
  have hB1 : ∀ i, i < 106 → C (xσ 27 106 1 i) = C (27 + i) := fun i hi => by rw [xS_1 hi]
  have hB2 : ∀ i, C (xσ 27 106 1 (106 + i)) = C (1 + i) := fun i => by rw [xS_2 (by omega), Nat.add_sub_cancel_left]
  obtain ⟨B, b1, b2, b3, b4, b5, b6⟩ := kc_remember (B := fun i => C (xσ 27 106 1 i)) (u := u) (h := h) (o := o) (RC_cg (fun a ha => (hB2 a).symm) g1) g3 (by rw [hB1 0 (by decide)]; exact p1) (by rw [hB1 0 (by decide)]; exact p2) h8 o8
  have k1 : ∀ a, a < 106 → xmF (xτ 27 106 1 13) C B (27 + a) = B a := fun a ha => by funext y; rw [xF_1 (by omega), Nat.add_sub_cancel_left]
  have k2 : ∀ a, a < 13 → xmF (xτ 27 106 1 13) C B (1 + a) = C (1 + a) := fun a ha => by
    funext y
    rw [xF_2 (by omega) (by omega), Nat.add_sub_cancel_left, b6 _ (by omega), hB2]
  have k3 : ∀ a, (a < 1 ∨ 14 ≤ a) → (a < 27 ∨ 133 ≤ a) → xmF (xτ 27 106 1 13) C B a = C a := fun a h1 h2 => by funext y; exact xF_n (by omega) (by omega)
  refine ⟨B, b1, ?_⟩
  intro u' S2 r hS hT hw hn
  obtain ⟨T4, r1, r2, r3, r4, r5⟩ := km_remember (T := T3) (p0 := r) (h := h) p3 h8
  have q0 : ∀ x, x ≠ 16 → x ≠ 5 → T4 0 x = T3 0 x := fun x h1 h2 => by rw [r3 x h2]
  have q1 : ∀ a, a ≠ 0 → a ≠ 1 → a ≠ 2 → a ≠ 4 → T4 a = T3 a := fun a h0 h1 h2 h4 => by rw [r2 a h4 h0]
  have m1 : ∀ a, a < 13 → xm 1 13 (xmF (xτ 27 106 1 13) C B) S2 (1 + a) = S2 a := fun a ha => by funext y; rw [xm_i (by omega), Nat.add_sub_cancel_left]
  have m2 : ∀ a, (a < 1 ∨ 14 ≤ a) → xm 1 13 (xmF (xτ 27 106 1 13) C B) S2 a = xmF (xτ 27 106 1 13) C B a := fun a ha => by funext y; exact xm_n (by omega)
  have m3 : ∀ a, (a < 1 ∨ 14 ≤ a) → (a < 27 ∨ 133 ≤ a) → C a = xm 1 13 (xmF (xτ 27 106 1 13) C B) S2 a := fun a h1 h2 => by rw [m2 a h1, k3 a h1 h2]
  have m4 : ∀ a, a < 106 → xm 1 13 (xmF (xτ 27 106 1 13) C B) S2 (27 + a) = B a := fun a ha => by rw [m2 _ (by omega), k1 a ha]
  refine ⟨T4, r1, ⟨u', RC_cg (fun a ha => (m1 a ha).symm) hS, by rw [r2 1 (by decide) (by decide)]; exact hT, hw, hn, SN_cg (by rw [m3 0 (by decide) (by decide)]) (fun a h1 h2 => m3 a (by omega) (by omega)) (q0 6 (by decide) (by decide)).symm (q1 5 (by decide) (by decide) (by decide) (by decide)).symm g5, ?_, IN_cg (by rw [m3 134 (by decide) (by decide)]) (m3 135 (by decide) (by decide)) (q0 10 (by decide) (by decide)).symm (q1 6 (by decide) (by decide) (by decide) (by decide)).symm g7, RP_cg (by rw [m3 152 (by decide) (by decide)]) (m3 153 (by decide) (by decide)) (q0 15 (by decide) (by decide)).symm (q1 9 (by decide) (by decide) (by decide) (by decide)).symm g8, ?_, ?_⟩, ?_⟩
  · have slot : ∀ j v, j < 8 → j ≠ (o + h) % 8 → RC (xs (29 + 13 * j) C) v → RC (xs (29 + 13 * j) (xm 1 13 (xmF (xτ 27 106 1 13) C B) S2)) v := fun j v hj hne hv => RC_cg (fun a ha => by
      show C (29 + 13 * j + a) = xm 1 13 (xmF (xτ 27 106 1 13) C B) S2 (29 + 13 * j + a)
      have e : 29 + 13 * j + a = 27 + (2 + 13 * j + a) := by omega
      rw [e, m4 _ (by omega), b5 j hj hne a ha, hB1 _ (by omega)]) hv
    have own : RC (xs (29 + 13 * ((o + h) % 8)) (xm 1 13 (xmF (xτ 27 106 1 13) C B) S2)) u := RC_cg (fun a ha => by
      show B (2 + 13 * ((o + h) % 8) + a) = xm 1 13 (xmF (xτ 27 106 1 13) C B) S2 (29 + 13 * ((o + h) % 8) + a)
      have e : 29 + 13 * ((o + h) % 8) + a = 27 + (2 + 13 * ((o + h) % 8) + a) := by omega
      rw [e, m4 _ (by omega)]) b4
    have d0 : xm 1 13 (xmF (xτ 27 106 1 13) C B) S2 27 = B 0 := m4 0 (by decide)
    by_cases q : h < 8
    · rw [if_pos q] at b2 b3 r4 r5
      refine ⟨h + 1, o, by omega, o8, by rw [d0]; exact b2, by rw [d0]; exact b3, r4, fun j hj => ?_⟩
      have r6 := r5 j hj
      by_cases e : j < h
      · obtain ⟨v, v1, v2, v3⟩ := p4 j e
        refine ⟨v, slot _ v (Nat.mod_lt _ (by decide)) (by omega) v1, RM_cg (fun i hi => ?_) v2, v3⟩
        show _ = T4 4 (186 * j + i)
        rw [r6 i hi, if_pos q, if_pos e]
      · obtain rfl : j = h := by omega
        refine ⟨u, own, RM_cg (fun i hi => ?_) g2, g3, g4⟩
        show _ = T4 4 (186 * j + i)
        rw [r6 i hi, if_pos q, if_neg e]
    · rw [if_neg q] at b2 b3 r4 r5
      refine ⟨h, (o + 1) % 8, by omega, Nat.mod_lt _ (by decide), by rw [d0]; exact b2, by rw [d0]; exact b3, r4, fun j hj => ?_⟩
      have r6 := r5 j hj
      by_cases e : j < 7
      · obtain ⟨v, v1, v2, v3⟩ := p4 (j + 1) (by omega)
        have e2 : ((o + 1) % 8 + j) % 8 = (o + (j + 1)) % 8 := by omega
        rw [e2]
        refine ⟨v, slot _ v (Nat.mod_lt _ (by decide)) (by omega) v1, RM_cg (fun i hi => ?_) v2, v3⟩
        show _ = T4 4 (186 * j + i)
        rw [r6 i hi, if_neg q, if_pos e]
      · have e2 : ((o + 1) % 8 + j) % 8 = (o + h) % 8 := by omega
        rw [e2]
        refine ⟨u, own, RM_cg (fun i hi => ?_) g2, g3, g4⟩
        show _ = T4 4 (186 * j + i)
        rw [r6 i hi, if_neg q, if_neg e]
  · rw [← m3 133 (by decide) (by decide), q0 12 (by decide) (by decide)]; exact g9
  · rw [← m3 133 (by decide) (by decide), q0 13 (by decide) (by decide)]; exact g10
  · exact r3 16 (by decide)
theorem km_L7 {n : Nat} (hn : n ≤ 600) (h10 : T 0 10 = nI n) {K : Int32 → XS → Option (Int32 × XS)} {Q : Option (Int32 × XS) → Prop} (hK : ∀ T', (∀ i, i ≠ 7 → T' i = T i) → (∀ i, i < n → T' 7 i = T 6 i) → Q (K (nI n) T')) : Q (f_X9_runScript_L7 K FU (nI 0) T) := by
  refine q_lp (fun f j T1 => Q (f_X9_runScript_L7 K f (nI j) T1)) (fun j T1 => (∀ i, i ≠ 7 → T1 i = T i) ∧ ∀ i, i < j → T1 7 i = T 6 i) n T (by omega) ⟨fun _ _ => rfl, fun i hi => by omega⟩ ?_ ?_
  · intro f T1 hI
    have e10 : T1 0 10 = nI n := by rw [hI.1 0 (by decide)]; exact h10
    simp (disch := omega) only [f_X9_runScript_L7, xl_s, ob_s, xb_s, rd_n, wr_n, m_1, m_1b, nI_add, pk_mul, l_0, l_1, l_2, l_3, l_4, l_5, l_6, l_7, l_8, l_9, l_10, l_11, l_12, l_13, l_14, l_15, l_16, l_17, l_18, l_19, l_20, l_21, l_22, l_23, l_24, l_30, l_31, l_32, l_40, l_41, l_48, l_57, l_59, l_64, l_90, l_97, l_99, l_100, l_119, l_122, l_186, l_200, l_255, l_600, l_999, l_1488, l_1000000, e10, i_leT]
    exact hK T1 hI.1 hI.2
  · intro f j T1 hj hI ih
    have e10 : T1 0 10 = nI n := by rw [hI.1 0 (by decide)]; exact h10
    have h1 := hI.1 6 (by decide)
    simp (disch := omega) only [f_X9_runScript_L7, xl_s, ob_s, xb_s, rd_n, wr_n, m_1, m_1b, nI_add, pk_mul, l_0, l_1, l_2, l_3, l_4, l_5, l_6, l_7, l_8, l_9, l_10, l_11, l_12, l_13, l_14, l_15, l_16, l_17, l_18, l_19, l_20, l_21, l_22, l_23, l_24, l_30, l_31, l_32, l_40, l_41, l_48, l_57, l_59, l_64, l_90, l_97, l_99, l_100, l_119, l_122, l_186, l_200, l_255, l_600, l_999, l_1488, l_1000000, e10, i_leF, h1]
    refine ih _ ⟨fun i hi => by rw [xp_n hi]; exact hI.1 i hi, fun i hi => ?_⟩
    rw [xp_s]
    by_cases e : i = j
    · rw [if_pos e, e]
    · rw [if_neg e]; exact hI.2 i (by omega)
theorem km_L59 {K : Int32 → XS → Option (Int32 × XS)} {Q : Option (Int32 × XS) → Prop} (hK : ∀ T', (∀ i, i ≠ 1 → T' i = T i) → (∀ i, i < 186 → T' 1 i = T 2 i) → Q (K (nI 186) T')) : Q (f_X9_runScript_L59 K FU (nI 0) T) := by
  refine q_lp (fun n j T1 => Q (f_X9_runScript_L59 K n (nI j) T1)) (fun j T1 => (∀ i, i ≠ 1 → T1 i = T i) ∧ ∀ i, i < j → T1 1 i = T 2 i) 186 T (by decide) ⟨fun _ _ => rfl, fun i hi => by omega⟩ ?_ ?_
  · intro n T1 hI
    simp (disch := omega) only [f_X9_runScript_L59, xl_s, ob_s, xb_s, rd_n, wr_n, m_1, m_1b, nI_add, pk_mul, l_0, l_1, l_2, l_3, l_4, l_5, l_6, l_7, l_8, l_9, l_10, l_11, l_12, l_13, l_14, l_15, l_16, l_17, l_18, l_19, l_20, l_21, l_22, l_23, l_24, l_30, l_31, l_32, l_40, l_41, l_48, l_57, l_59, l_64, l_90, l_97, l_99, l_100, l_119, l_122, l_186, l_200, l_255, l_600, l_999, l_1488, l_1000000, i_leT]
    exact hK T1 hI.1 hI.2
  · intro n j T1 hj hI ih
    have h1 := hI.1 2 (by decide)
    simp (disch := omega) only [f_X9_runScript_L59, xl_s, ob_s, xb_s, rd_n, wr_n, m_1, m_1b, nI_add, pk_mul, l_0, l_1, l_2, l_3, l_4, l_5, l_6, l_7, l_8, l_9, l_10, l_11, l_12, l_13, l_14, l_15, l_16, l_17, l_18, l_19, l_20, l_21, l_22, l_23, l_24, l_30, l_31, l_32, l_40, l_41, l_48, l_57, l_59, l_64, l_90, l_97, l_99, l_100, l_119, l_122, l_186, l_200, l_255, l_600, l_999, l_1488, l_1000000, i_leF, h1]
    refine ih _ ⟨fun i hi => by rw [xp_n hi]; exact hI.1 i hi, fun i hi => ?_⟩
    rw [xp_s]
    by_cases e : i = j
    · rw [if_pos e, e]
    · rw [if_neg e]; exact hI.2 i (by omega)
theorem len_scr : shScr.length = 19 := Eq.trans rfl rfl
theorem q_runScript (g : GI C T) : OV (f_X8_runScript C) (f_X9_runScript T) := by
  obtain ⟨u, g1, g2, g3, g4, g5, g6, g7, g8, g9, g10⟩ := g
  obtain ⟨n, n6, i1, i2, i3⟩ := g7
  have hB : ∀ i, (fun i => if i < n then (T 6 i).toInt.toNat else 0) i < 256 := fun i => by
    show (if i < n then (T 6 i).toInt.toNat else 0) < 256
    by_cases q : i < n
    · obtain ⟨b, c1, c2, c3⟩ := i3 i q
      rw [if_pos q, c3, nI_toInt (by omega)]
      omega
    · rw [if_neg q]; decide
  have ht : ∀ i, i < n → C 135 i = (nI ((fun i => if i < n then (T 6 i).toInt.toNat else 0) i)).toInt8.toInt32 ∧ T 6 i = nI ((fun i => if i < n then (T 6 i).toInt.toNat else 0) i) := fun i q => by
    show C 135 i = (nI (if i < n then (T 6 i).toInt.toNat else 0)).toInt8.toInt32 ∧ T 6 i = nI (if i < n then (T 6 i).toInt.toNat else 0)
    obtain ⟨b, c1, c2, c3⟩ := i3 i q
    have e : (T 6 i).toInt.toNat = b := by rw [c3, nI_toInt (by omega)]; rfl
    rw [if_pos q, e]
    exact ⟨c2, c3⟩
  generalize (fun i => if i < n then (T 6 i).toInt.toNat else 0) = tx at hB ht
  obtain ⟨O, o1, o2, o3⟩ := run_i (tx := tx) n6 hB
  obtain ⟨S', s1, s2⟩ := o2 (xs 133 C) i1 (fun i hi => (ht i hi).1)
  have m1 : ∀ a, a < 19 → xput (xm 133 19 C S') 134 1 (nI 0) (133 + a) = if a = 1 then xput (xm 133 19 C S') 134 1 (nI 0) 134 else S' a := fun a ha => by
    by_cases q : a = 1
    · rw [if_pos q, q]
    · rw [if_neg q, xp_n (by omega)]
      funext y
      rw [xm_i (by omega), Nat.add_sub_cancel_left]
  have m2 : ∀ a, (a < 133 ∨ 152 ≤ a) → C a = xput (xm 133 19 C S') 134 1 (nI 0) a := fun a ha => by
    rw [xp_n (by omega)]
    funext y
    rw [xm_n (by omega)]
  have d0 : xput (xm 133 19 C S') 134 1 (nI 0) 133 = S' 0 := by
    have := m1 0 (by decide)
    rw [if_neg (by decide)] at this
    exact this
  have d1 : xput (xm 133 19 C S') 134 1 (nI 0) 134 1 = nI 0 := by rw [xp_s, if_pos rfl]
  -- the reference up to what its script comes to
  have key : ∃ b T3, (∀ a, a ≠ 0 → a ≠ 1 → a ≠ 2 → a ≠ 7 → a ≠ 10 → T3 a = T a) ∧ (∀ i, i < 186 → T3 2 i = T 1 i) ∧ (∀ y, y ≠ 16 → y ≠ 10 → y ≠ 11 → y ≠ 12 → y ≠ 13 → ¬ (17 ≤ y ∧ y ≤ 21) → T3 0 y = T 0 y) ∧ T3 0 10 = nI 0 ∧ T3 0 16 = nI 0 ∧ YM1 b T3 O ∧ f_X9_runScript T = (if nB b = nI 0 then f_X9_runScript_L59 (fun v20 S21 => some (oI 0, S21)) FU (nI 0) T3 else ((xrd (nI 2) 186 (T3 1)).bind fun v13 => (xbind2 (f_X9_remember T3 v13) fun v14 S15 => some (v14, S15)))) := by
    rw [f_X9_runScript]
    simp only [l_0, l_2, m_1, m_1b, xl_s]
    refine km_L7 (T := xput T 0 16 (nI 0)) n6 (by rw [xp_s, if_neg (by decide)]; exact i2) (Q := fun z => ∃ b T3, (∀ a, a ≠ 0 → a ≠ 1 → a ≠ 2 → a ≠ 7 → a ≠ 10 → T3 a = T a) ∧ (∀ i, i < 186 → T3 2 i = T 1 i) ∧ (∀ y, y ≠ 16 → y ≠ 10 → y ≠ 11 → y ≠ 12 → y ≠ 13 → ¬ (17 ≤ y ∧ y ≤ 21) → T3 0 y = T 0 y) ∧ T3 0 10 = nI 0 ∧ T3 0 16 = nI 0 ∧ YM1 b T3 O ∧ z = (if nB b = nI 0 then f_X9_runScript_L59 (fun v20 S21 => some (oI 0, S21)) FU (nI 0) T3 else ((xrd (nI 2) 186 (T3 1)).bind fun v13 => (xbind2 (f_X9_remember T3 v13) fun v14 S15 => some (v14, S15))))) (fun T1 a1 a2 => ?_)
    have e10 : T1 0 10 = nI n := by rw [a1 0 (by decide), xp_s, if_neg (by decide)]; exact i2
    obtain ⟨T2, b1, b2, b3⟩ := km_begins (T := xput (xput T1 0 11 (nI n)) 0 10 (nI 0))
    obtain ⟨b, T3, c1, c2, c3⟩ := o3 T2 (by rw [b2 0 (by decide), xp_s, if_neg (by decide), xp_s, if_pos rfl]) (fun i hi => by
      rw [b2 7 (by decide), xp_n (by decide), xp_n (by decide), a2 i hi, xp_n (by decide)]
      exact (ht i hi).2)
    refine ⟨b, T3, fun a h0 h1 h2 h7 h10 => by rw [c2.1 a h0 h1 h10, b2 a h2, xp_n h0, xp_n h0, a1 a h7, xp_n h0], fun i hi => by rw [c2.1 2 (by decide) (by decide) (by decide), b3 i hi, xp_n (by decide), xp_n (by decide), a1 1 (by decide), xp_n (by decide)], fun y h16 h10 h11 h12 h13 h17 => by rw [c2.2 y h12 h13 h17, b2 0 (by decide), xp_s, if_neg h10, xp_s, if_neg h11, a1 0 (by decide), xp_s, if_neg h16], ?_, ?_, c3, ?_⟩
    · rw [c2.2 10 (by decide) (by decide) (by decide), b2 0 (by decide), xp_s, if_pos rfl]
    · rw [c2.2 16 (by decide) (by decide) (by decide), b2 0 (by decide), xp_s, if_neg (by decide), xp_s, if_neg (by decide), a1 0 (by decide), xp_s, if_pos rfl]
    · rw [e10, b1, ob_s, c1, xb_s]
  obtain ⟨b, T3, t1, t2, t3, t10, t16, t5, t6⟩ := key
  cases O with
  | inl e =>
    obtain ⟨rfl, e12, e13⟩ := t5
    obtain ⟨r2, r3⟩ := s2
    have fin : ∃ T4, f_X9_runScript T = some (oI 0, T4) ∧ (∀ i, i ≠ 1 → T4 i = T3 i) ∧ ∀ i, i < 186 → T4 1 i = T 1 i := by
      rw [t6, nB_f, if_pos rfl]
      refine km_L59 (T := T3) (Q := fun z => ∃ T4, z = some (oI 0, T4) ∧ (∀ i, i ≠ 1 → T4 i = T3 i) ∧ ∀ i, i < 186 → T4 1 i = T 1 i) (fun T4 a1 a2 => ⟨T4, rfl, a1, fun i hi => by rw [a2 i hi, t2 i hi]⟩)
    obtain ⟨T4, f1, f2, f3⟩ := fin
    have q1 : ∀ a, a ≠ 0 → a ≠ 1 → a ≠ 2 → a ≠ 7 → a ≠ 10 → T a = T4 a := fun a h0 h1 h2 h7 h10 => by rw [f2 a h1, t1 a h0 h1 h2 h7 h10]
    have q0 : ∀ y, y ≠ 16 → y ≠ 10 → y ≠ 11 → y ≠ 12 → y ≠ 13 → ¬ (17 ≤ y ∧ y ≤ 21) → T 0 y = T4 0 y := fun y h1 h2 h3 h4 h5 h6 => by rw [f2 0 (by decide), t3 y h1 h2 h3 h4 h5 h6]
    have e1 : e.1 ≠ 0 := by have := o1.1; omega
    have e5 : e.1 ≤ 5 := o1.2
    refine ⟨oI 0, xput (xm 133 19 C S') 134 1 (nI 0), T4, ?_, f1, u, RC_cg (fun a ha => m2 (1 + a) (by omega)) g1, RM_cg (fun i hi => (f3 i hi).symm) g2, g3, g4, SN_cg (by rw [m2 0 (by decide)]) (fun a h1 h2 => m2 a (by omega)) (q0 6 (by decide) (by decide) (by decide) (by decide) (by decide) (by decide)) (q1 5 (by decide) (by decide) (by decide) (by decide) (by decide)) g5, HI_cg (fun a h1 h2 => m2 a (by omega)) (q0 5 (by decide) (by decide) (by decide) (by decide) (by decide) (by decide)) (q1 4 (by decide) (by decide) (by decide) (by decide) (by decide)) g6, ⟨0, by decide, d1, by rw [f2 0 (by decide)]; exact t10, fun i hi => by omega⟩, RP_cg (by rw [m2 152 (by decide)]) (m2 153 (by decide)) (q0 15 (by decide) (by decide) (by decide) (by decide) (by decide) (by decide)) (q1 9 (by decide) (by decide) (by decide) (by decide) (by decide)) g8, ?_, ?_⟩
    · simp (disch := omega) only [f_X8_runScript, xl_s, ob_s, xb_s, rd_n, wr_n, m_1, m_1b, nI_add, pk_mul, l_0, l_1, l_2, l_3, l_4, l_5, l_6, l_7, l_8, l_9, l_10, l_11, l_12, l_13, l_14, l_15, l_16, l_17, l_18, l_19, l_20, l_21, l_22, l_23, l_24, l_30, l_31, l_32, l_40, l_41, l_48, l_57, l_59, l_64, l_90, l_97, l_99, l_100, l_119, l_122, l_186, l_200, l_255, l_600, l_999, l_1488, l_1000000, s1, len_scr, d0, r2, i_eqF]
    · rw [d0, r2, f2 0 (by decide), e12]
    · rw [d0, r3, f2 0 (by decide), e13]
  | inr v =>
    obtain ⟨rfl, e12, e13, e1⟩ := t5
    obtain ⟨r2, r3, r4⟩ := s2
    obtain ⟨w1, w2⟩ := o1
    have q1 : ∀ a, a ≠ 0 → a ≠ 1 → a ≠ 2 → a ≠ 7 → a ≠ 10 → T a = T3 a := fun a h0 h1 h2 h7 h10 => (t1 a h0 h1 h2 h7 h10).symm
    have q0 : ∀ y, y ≠ 16 → y ≠ 10 → y ≠ 11 → y ≠ 12 → y ≠ 13 → ¬ (17 ≤ y ∧ y ≤ 21) → T 0 y = T3 0 y := fun y h1 h2 h3 h4 h5 h6 => (t3 y h1 h2 h3 h4 h5 h6).symm
    obtain ⟨B, b1, b2⟩ := rem_all (C := xput (xm 133 19 C S') 134 1 (nI 0)) (T3 := T3) (u := u) (RC_cg (fun a ha => m2 (1 + a) (by omega)) g1) (RM_cg (fun i hi => (t2 i hi).symm) g2) g3 g4 (SN_cg (by rw [m2 0 (by decide)]) (fun a h1 h2 => m2 a (by omega)) (q0 6 (by decide) (by decide) (by decide) (by decide) (by decide) (by decide)) (q1 5 (by decide) (by decide) (by decide) (by decide) (by decide)) g5) (HI_cg (fun a h1 h2 => m2 a (by omega)) (q0 5 (by decide) (by decide) (by decide) (by decide) (by decide) (by decide)) (q1 4 (by decide) (by decide) (by decide) (by decide) (by decide)) g6) ⟨0, by decide, d1, t10, fun i hi => by omega⟩ (RP_cg (by rw [m2 152 (by decide)]) (m2 153 (by decide)) (q0 15 (by decide) (by decide) (by decide) (by decide) (by decide) (by decide)) (q1 9 (by decide) (by decide) (by decide) (by decide) (by decide)) g8) (by rw [d0, r2, e12]) (by rw [d0, r3, e13])
    generalize hD : xmF (xτ 27 106 1 13) (xput (xm 133 19 C S') 134 1 (nI 0)) B = D at b2
    have hD1 : ∀ a, 133 ≤ a → D a = xput (xm 133 19 C S') 134 1 (nI 0) a := fun a ha => by
      rw [← hD]
      funext y
      exact xF_n (by omega) (by omega)
    have hRC : RC (xs 13 (fun i => D (xσ 1 13 136 i))) v := RC_cg (fun a ha => by
      show S' (3 + a) = D (xσ 1 13 136 (13 + a))
      rw [xS_2 (by omega), hD1 _ (by omega), show 136 + (13 + a - 13) = 133 + (3 + a) by omega, m1 _ (by omega), if_neg (by omega)]) r4
    obtain ⟨S2, c1, c2, c3⟩ := kc_copy (S := fun i => D (xσ 1 13 136 i)) hRC w1
    obtain ⟨T4, x1, x2, x3⟩ := b2 v S2 (nI (v 0 7)) c2 e1 w1 w2
    have hE : ∀ a, xm 1 13 D S2 a = xmF (xτ 1 13 136 13) D S2 a := fun a => by
      funext y
      by_cases z : 1 ≤ a ∧ a < 14
      · rw [xm_i (by omega), xF_1 (by omega)]
      · rw [xm_n (by omega)]
        by_cases z2 : 136 ≤ a ∧ a < 149
        · rw [xF_2 (by omega) (by omega), c3 _ (by omega)]
          show _ = D (xσ 1 13 136 (13 + (a - 136))) y
          rw [xS_2 (by omega), show 136 + (13 + (a - 136) - 13) = a by omega]
        · rw [xF_n (by omega) (by omega)]
    have d7 : xmF (xτ 1 13 136 13) D S2 1 7 = nI (v 0 7) := by rw [← hE, xm_i (by decide)]; exact c2.1.2.2.1
    refine ⟨nI (v 0 7), xmF (xτ 1 13 136 13) D S2, T4, ?_, ?_, GI_cg (fun a _ => hE a) (fun _ _ => rfl) x2⟩
    · simp (disch := omega) only [f_X8_runScript, xl_s, ob_s, xb_s, rd_n, wr_n, m_1, m_1b, nI_add, pk_mul, l_0, l_1, l_2, l_3, l_4, l_5, l_6, l_7, l_8, l_9, l_10, l_11, l_12, l_13, l_14, l_15, l_16, l_17, l_18, l_19, l_20, l_21, l_22, l_23, l_24, l_30, l_31, l_32, l_40, l_41, l_48, l_57, l_59, l_64, l_90, l_97, l_99, l_100, l_119, l_122, l_186, l_200, l_255, l_600, l_999, l_1488, l_1000000, s1, len_scr, d0, r2, if_true, b1, hD, c1, d7]
    · have m7 : T3 1 2 = nI (v 0 7) := e1.2.2.1
      rw [t6, nB_t, if_neg (by decide)]
      simp (disch := omega) only [rd_n, ob_s, m7, x1, xb_s]
end
