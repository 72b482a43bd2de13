/-! level 2: one command of a script in the reference -/
def NR (tx : Nat → Nat) (L : Nat) (u : QU) (r p j c : Nat) (x : Nat → Nat) (T : XS) (o : Option (Int32 × XS)) : Prop := ∃ b T', o = some (nB b, T') ∧ FM T T' ∧ (b = true → tkK tx L p = 2 ∧ lt u x c (tkV tx L p) = true ∧ AM tx L (tkE tx L p) r u T' ∧ p < tkE tx L p ∧ tkE tx L p ≤ L ∧ ∀ i, T' 10 i = if i = j then nI (tkV tx L p) else T 10 i) ∧ (b = false → ∃ e, ((e = 1 ∧ tkK tx L p ≠ 2) ∨ (e = 2 ∧ tkK tx L p = 2 ∧ lt u x c (tkV tx L p) = false)) ∧ EM e (tkS tx L p) T')
def OM (tx : Nat → Nat) (L r : Nat) (b : Bool) (T' : XS) : (Nat × Nat) ⊕ (Nat × QU) → Prop
  | .inl e => b = false ∧ EM e.1 e.2 T'
  | .inr v => b = true ∧ BM tx L v.1 r v.2 T'
section
variable {tx : Nat → Nat} {L p n d r k c j : Nat} {u : QU} {S T T' : XS} {x : Nat → Nat}
theorem AM_s (h : AM tx L p r u T) : T 0 18 = nI (tkS tx L p) := h.2.2.1
theorem km_fail (h : AM tx L p r u T) (c : Nat) : ∃ T', f_X9_fail T (nI c) = some (nI 0, T') ∧ EM c (tkS tx L p) T' ∧ FM T T' := by
  have h12 : T 0 12 = nI 0 := h.1.2.1
  refine ⟨xput (xput T 0 12 (nI c)) 0 13 (nI (tkS tx L p)), ?_, ⟨?_, ?_⟩, ⟨fun a h0 h1 h2 => by rw [xp_n h0, xp_n h0], fun y h1 h2 h3 => by rw [xp_s, if_neg h2, xp_s, if_neg h1]⟩⟩
  · have h18 := AM_s h
    simp (disch := omega) only [f_X9_fail, xl_s, ob_s, xb_s, rd_n, wr_n, m_1, m_1b, nI_add, pk_mul, l_0, l_1, l_2, l_3, l_4, l_5, l_6, l_7, l_8, l_9, l_10, l_11, l_12, l_13, l_14, l_15, l_16, l_17, l_18, l_19, l_20, l_21, l_22, l_23, l_24, l_30, l_31, l_32, l_40, l_41, l_48, l_57, l_59, l_64, l_90, l_97, l_99, l_100, l_119, l_122, l_186, l_200, l_255, l_600, l_999, l_1488, l_1000000, h12, if_true, xp_s, i_F, h18]
  · simp (disch := omega) only [xp_s, i_T, i_F, if_true, if_false, and_self]
  · simp (disch := omega) only [xp_s, i_T, i_F, if_true, if_false, and_self]
theorem km_is (h : AM tx L p r u T) {e : Nat} (he : e ≤ 6) : (rk (tkK tx L p) = e → f_X9_is T (nI e) = some (nI 1, T)) ∧ (rk (tkK tx L p) ≠ e → ∃ T', f_X9_is T (nI e) = some (nI 0, T') ∧ EM 1 (tkS tx L p) T' ∧ FM T T') := by
  have h17 : T 0 17 = nI (rk (tkK tx L p)) := h.2.1
  have hk := rk_le (tkK_le (tx := tx) L p)
  constructor
  · intro q
    simp (disch := omega) only [f_X9_is, xl_s, ob_s, xb_s, rd_n, wr_n, m_1, m_1b, nI_add, pk_mul, l_0, l_1, l_2, l_3, l_4, l_5, l_6, l_7, l_8, l_9, l_10, l_11, l_12, l_13, l_14, l_15, l_16, l_17, l_18, l_19, l_20, l_21, l_22, l_23, l_24, l_30, l_31, l_32, l_40, l_41, l_48, l_57, l_59, l_64, l_90, l_97, l_99, l_100, l_119, l_122, l_186, l_200, l_255, l_600, l_999, l_1488, l_1000000, h17, i_eqT]
  · intro q
    obtain ⟨T', e1, e2, e3⟩ := km_fail h 1
    refine ⟨T', ?_, e2, e3⟩
    simp (disch := omega) only [f_X9_is, xl_s, ob_s, xb_s, rd_n, wr_n, m_1, m_1b, nI_add, pk_mul, l_0, l_1, l_2, l_3, l_4, l_5, l_6, l_7, l_8, l_9, l_10, l_11, l_12, l_13, l_14, l_15, l_16, l_17, l_18, l_19, l_20, l_21, l_22, l_23, l_24, l_30, l_31, l_32, l_40, l_41, l_48, l_57, l_59, l_64, l_90, l_97, l_99, l_100, l_119, l_122, l_186, l_200, l_255, l_600, l_999, l_1488, l_1000000, h17, i_eqF, e1, if_true]
theorem BM_cg {T2 : XS} {q : Nat} (h11 : T2 0 11 = T 0 11) (h19 : T2 0 19 = nI q) (h7 : T2 7 = T 7) (h12 : T2 0 12 = T 0 12) (h13 : T2 0 13 = T 0 13) (h21 : T2 0 21 = T 0 21) (h1 : T2 1 = T 1) (h : BM tx L p r u T) : BM tx L q r u T2 := by
  obtain ⟨⟨a1, a2, a3⟩, b1, b2, b3, b4⟩ := h
  exact ⟨⟨by rw [h11]; exact a1, h19, fun i hi => by rw [h7]; exact a3 i hi⟩, by rw [h12]; exact b1, by rw [h13]; exact b2, by rw [h21]; exact b3, by rw [h1]; exact b4⟩
theorem km_nx (h6 : L ≤ 600) (hB : ∀ i, tx i < 256) (hp : p ≤ L) (h : BM tx L p r u T) : ∃ T', f_X9_next T = some T' ∧ AM tx L p r u T' ∧ NT T T' := by
  obtain ⟨T', e1, e2, e3, e4, e5, e6⟩ := km_next h6 hB h.1.2.2 h.1.1 hp h.1.2.1
  exact ⟨T', e1, ⟨BM_cg (e6.2 11 (by decide) (by decide) (by decide) (by decide)) e2 (e6.1 7 (by decide)) (e6.2 12 (by decide) (by decide) (by decide) (by decide)) (e6.2 13 (by decide) (by decide) (by decide) (by decide)) (e6.2 21 (by decide) (by decide) (by decide) (by decide)) (e6.1 1 (by decide)) h, e3, e4, e5⟩, e6⟩
theorem xz_nb (b : Bool) (T : XS) : ((xz (nB b)).bind fun v => some (v, T)) = some (nB b, T) := by rw [xz_b, ob_s]
theorem km_number (h6 : L ≤ 600) (hB : ∀ i, tx i < 256) (hp : p ≤ L) (h : AM tx L p r u T) {lo hi : Int32} (hin : tkK tx L p = 2 → tkV tx L p ≤ 999 → f_X9_in (nI (tkV tx L p)) lo hi = some (nB (lt u x c (tkV tx L p)))) (hj : j < 4) : NR tx L u r p j c x T (f_X9_number T (nI j) lo hi) := by
  obtain ⟨i1, i2⟩ := km_is h (e := 3) (by decide)
  have hr : rk (tkK tx L p) = 3 ↔ tkK tx L p = 2 := rk_inj (a := tkK tx L p) (b := 2) (tkK_le L p) (by decide)
  by_cases q : tkK tx L p = 2
  · have i3 := i1 (hr.mpr q)
    obtain ⟨-, hv, -⟩ := tkV_le (tx := tx) hp q
    have h20 := h.2.2.2 q
    have hI := hin q hv
    have hE := tkE_b (tx := tx) hp
    have hpE := tkK_E (tx := tx) hp (by omega)
    cases hl : lt u x c (tkV tx L p)
    · rw [hl] at hI
      obtain ⟨T', e1, e2, e3⟩ := km_fail h 2
      refine ⟨false, T', ?_, e3, (fun z => by cases z), fun _ => ⟨2, Or.inr ⟨rfl, q, hl⟩, e2⟩⟩
      simp (disch := omega) only [f_X9_number, xl_s, ob_s, xb_s, rd_n, wr_n, m_1, m_1b, nI_add, pk_mul, l_0, l_1, l_2, l_3, l_4, l_5, l_6, l_7, l_8, l_9, l_10, l_11, l_12, l_13, l_14, l_15, l_16, l_17, l_18, l_19, l_20, l_21, l_22, l_23, l_24, l_30, l_31, l_32, l_40, l_41, l_48, l_57, l_59, l_64, l_90, l_97, l_99, l_100, l_119, l_122, l_186, l_200, l_255, l_600, l_999, l_1488, l_1000000, i3, z10, if_false, h20, hI, nB_f, if_true, e1, xz_0]
    · rw [hl] at hI
      have hb : BM tx L (tkE tx L p) r u (xput T 10 j (nI (tkV tx L p))) := BM_cg (by rw [xp_n (by decide)]) (by rw [xp_n (by decide)]; exact h.1.1.2.1) (xp_n (by decide)) (by rw [xp_n (by decide)]) (by rw [xp_n (by decide)]) (by rw [xp_n (by decide)]) (xp_n (by decide)) h.1
      obtain ⟨T', e1, e2, e3⟩ := km_nx h6 hB hE.2.1 hb
      refine ⟨true, T', ?_, FM_t ⟨fun a h0 h1 h2 => xp_n h2, fun y _ _ _ => by rw [xp_n (by decide)]⟩ (NT_FM e3), (fun _ => ⟨q, hl, e2, hpE, hE.2.1, fun i => by rw [e3.1 10 (by decide), xp_s]⟩), fun z => by cases z⟩
      simp (disch := omega) only [f_X9_number, xl_s, ob_s, xb_s, rd_n, wr_n, m_1, m_1b, nI_add, pk_mul, l_0, l_1, l_2, l_3, l_4, l_5, l_6, l_7, l_8, l_9, l_10, l_11, l_12, l_13, l_14, l_15, l_16, l_17, l_18, l_19, l_20, l_21, l_22, l_23, l_24, l_30, l_31, l_32, l_40, l_41, l_48, l_57, l_59, l_64, l_90, l_97, l_99, l_100, l_119, l_122, l_186, l_200, l_255, l_600, l_999, l_1488, l_1000000, i3, z10, if_false, h20, hI, nB_t, e1]
  · obtain ⟨T', e1, e2, e3⟩ := i2 (fun z => q (hr.mp z))
    refine ⟨false, T', ?_, e3, (fun z => by cases z), fun _ => ⟨1, Or.inl ⟨rfl, q⟩, e2⟩⟩
    simp (disch := omega) only [f_X9_number, xl_s, ob_s, xb_s, rd_n, wr_n, m_1, m_1b, nI_add, pk_mul, l_0, l_1, l_2, l_3, l_4, l_5, l_6, l_7, l_8, l_9, l_10, l_11, l_12, l_13, l_14, l_15, l_16, l_17, l_18, l_19, l_20, l_21, l_22, l_23, l_24, l_30, l_31, l_32, l_40, l_41, l_48, l_57, l_59, l_64, l_90, l_97, l_99, l_100, l_119, l_122, l_186, l_200, l_255, l_600, l_999, l_1488, l_1000000, e1, if_true, nB_f]
theorem in_rg {lo hi v : Nat} (hv : v ≤ 999) (hl : lo < 2 ^ 31) (hh : hi < 2 ^ 31) : f_X9_in (nI v) (nI lo) (nI hi) = some (nB (decide (lo ≤ v ∧ v ≤ hi))) := by
  rw [f_X9_in]
  exact rng (by omega) hl hh
theorem in_sub {n v : Nat} (hv : v ≤ 999) (hn : n < 2 ^ 31) : f_X9_in (nI v) (nI 0) (nI n - nI 1) = some (nB (decide (v < n))) := by
  by_cases z : n = 0
  · subst z
    rw [f_X9_in, if_neg (nI_nlt (Nat.zero_le v) (by omega)), nB_n (by omega)]
    have e : nI 0 - nI 1 < nI v := by
      show oI 0 < nI v
      have h3 : (oI 0).toInt = -1 := by decide
      apply Int32.lt_iff_toInt_lt.mpr
      rw [h3, nI_toInt (by omega)]
      omega
    rw [if_pos e]; rfl
  · rw [pk_sub (by omega), in_rg hv (by decide) (by omega)]
    congr 2
    rw [decide_eq_decide]
    omega
theorem km_at (f : XS → Int32 → Option (Int32 × XS)) (h6 : L ≤ 600) (hB : ∀ i, tx i < 256) (hp : p ≤ L) (h : AM tx L p r u T) {n : Nat} (hn : n < 2 ^ 31) (hf : f T (nI j) = (xbind2 (f_X9_number T (nI j) (nI 0) (nI n - nI 1)) fun v2 S3 => ((xz v2).bind fun v => some (v, S3)))) (hl : ∀ v, lt u x c v = decide (v < n)) (hj : j < 4) : NR tx L u r p j c x T (f T (nI j)) := by
  obtain ⟨b, T', e1, e2⟩ := km_number (x := x) (c := c) h6 hB hp h (fun _ hv => by rw [in_sub hv hn, hl]) hj
  exact ⟨b, T', by rw [hf, e1, xb_s, xz_nb], e2⟩
theorem km_chimneyAt (h6 : L ≤ 600) (hB : ∀ i, tx i < 256) (hp : p ≤ L) (h : AM tx L p r u T) (w : WF u) (hj : j < 4) : NR tx L u r p j 104 x T (f_X9_chimneyAt T (nI j)) := by
  have m0 : T 1 0 = nI (u 0 0) := h.1.2.2.2.2.1
  have b0 : u 0 0 ≤ 10 := w.2.1
  refine km_at f_X9_chimneyAt h6 hB hp h (n := u 0 0) (by omega) ?_ (fun v => lt_104) hj
  simp (disch := omega) only [f_X9_chimneyAt, xl_s, ob_s, xb_s, rd_n, wr_n, m_1, m_1b, nI_add, pk_mul, l_0, l_1, l_2, l_3, l_4, l_5, l_6, l_7, l_8, l_9, l_10, l_11, l_12, l_13, l_14, l_15, l_16, l_17, l_18, l_19, l_20, l_21, l_22, l_23, l_24, l_30, l_31, l_32, l_40, l_41, l_48, l_57, l_59, l_64, l_90, l_97, l_99, l_100, l_119, l_122, l_186, l_200, l_255, l_600, l_999, l_1488, l_1000000, m0]
theorem km_catAt (h6 : L ≤ 600) (hB : ∀ i, tx i < 256) (hp : p ≤ L) (h : AM tx L p r u T) (w : WF u) (hj : j < 4) : NR tx L u r p j 99 x T (f_X9_catAt T (nI j)) := by
  have m0 : T 1 2 = nI (u 0 7) := h.1.2.2.2.2.2.2.1
  have b0 : u 0 7 ≤ 8 := w.2.2.2.1
  refine km_at f_X9_catAt h6 hB hp h (n := u 0 7) (by omega) ?_ (fun v => lt_99) hj
  simp (disch := omega) only [f_X9_catAt, xl_s, ob_s, xb_s, rd_n, wr_n, m_1, m_1b, nI_add, pk_mul, l_0, l_1, l_2, l_3, l_4, l_5, l_6, l_7, l_8, l_9, l_10, l_11, l_12, l_13, l_14, l_15, l_16, l_17, l_18, l_19, l_20, l_21, l_22, l_23, l_24, l_30, l_31, l_32, l_40, l_41, l_48, l_57, l_59, l_64, l_90, l_97, l_99, l_100, l_119, l_122, l_186, l_200, l_255, l_600, l_999, l_1488, l_1000000, m0]
theorem km_another (h6 : L ≤ 600) (hB : ∀ i, tx i < 256) (hp : p ≤ L) (h : AM tx L p r u T) {n : Nat} (hn : n < 2 ^ 31) (h0 : T 10 0 = nI (x 0)) (hx : x 0 ≤ 999) (hl : ∀ v, lt u x c v = decide (v < n ∧ v ≠ x 0)) : NR tx L u r p 1 c x T (f_X9_another T (nI n - nI 1)) := by
  have h17 : T 0 17 = nI (rk (tkK tx L p)) := h.2.1
  have hk := rk_le (tkK_le (tx := tx) L p)
  have hr : rk (tkK tx L p) = 3 ↔ tkK tx L p = 2 := rk_inj (a := tkK tx L p) (b := 2) (tkK_le L p) (by decide)
  by_cases q : tkK tx L p = 2
  · obtain ⟨-, hv, -⟩ := tkV_le (tx := tx) hp q
    have h20 := h.2.2.2 q
    have hr3 := hr.mpr q
    by_cases z : tkV tx L p = x 0
    · obtain ⟨T', e1, e2, e3⟩ := km_fail h 2
      refine ⟨false, T', ?_, e3, (fun z => by cases z), fun _ => ⟨2, Or.inr ⟨rfl, q, by rw [hl]; exact decide_eq_false (fun t => t.2 z)⟩, e2⟩⟩
      simp (disch := omega) only [f_X9_another, xl_s, ob_s, xb_s, rd_n, wr_n, m_1, m_1b, nI_add, pk_mul, l_0, l_1, l_2, l_3, l_4, l_5, l_6, l_7, l_8, l_9, l_10, l_11, l_12, l_13, l_14, l_15, l_16, l_17, l_18, l_19, l_20, l_21, l_22, l_23, l_24, l_30, l_31, l_32, l_40, l_41, l_48, l_57, l_59, l_64, l_90, l_97, l_99, l_100, l_119, l_122, l_186, l_200, l_255, l_600, l_999, l_1488, l_1000000, h17, hr3, i_eqT, h0, h20, z, e1, xz_0, nB_f, if_true]
    · obtain ⟨b, T', e1, e2⟩ := km_number (x := x) (c := c) (j := 1) (lo := nI 0) (hi := nI n - nI 1) h6 hB hp h (fun _ hv => by
        rw [in_sub hv hn, hl]
        congr 2
        rw [decide_eq_decide]
        exact ⟨fun t => ⟨t, z⟩, fun t => t.1⟩) (by decide)
      refine ⟨b, T', ?_, e2⟩
      simp (disch := omega) only [f_X9_another, xl_s, ob_s, xb_s, rd_n, wr_n, m_1, m_1b, nI_add, pk_mul, l_0, l_1, l_2, l_3, l_4, l_5, l_6, l_7, l_8, l_9, l_10, l_11, l_12, l_13, l_14, l_15, l_16, l_17, l_18, l_19, l_20, l_21, l_22, l_23, l_24, l_30, l_31, l_32, l_40, l_41, l_48, l_57, l_59, l_64, l_90, l_97, l_99, l_100, l_119, l_122, l_186, l_200, l_255, l_600, l_999, l_1488, l_1000000, h17, hr3, i_eqT, h0, h20, i_eqF, e1, xz_b, if_true]
  · obtain ⟨b, T', e1, e2⟩ := km_number (x := x) (c := c) (j := 1) (lo := nI 0) (hi := nI n - nI 1) h6 hB hp h (fun z => absurd z q) (by decide)
    have hr3 : rk (tkK tx L p) ≠ 3 := fun z => q (hr.mp z)
    refine ⟨b, T', ?_, e2⟩
    simp (disch := omega) only [f_X9_another, xl_s, ob_s, xb_s, rd_n, wr_n, m_1, m_1b, nI_add, pk_mul, l_0, l_1, l_2, l_3, l_4, l_5, l_6, l_7, l_8, l_9, l_10, l_11, l_12, l_13, l_14, l_15, l_16, l_17, l_18, l_19, l_20, l_21, l_22, l_23, l_24, l_30, l_31, l_32, l_40, l_41, l_48, l_57, l_59, l_64, l_90, l_97, l_99, l_100, l_119, l_122, l_186, l_200, l_255, l_600, l_999, l_1488, l_1000000, h17, i_eqF, e1, xz_b]
theorem rdn_1 {F : Nat → (Nat → Nat) → (Nat × Nat) ⊕ (Nat × QU)} (h : tkK tx L p ≠ 2) : rdn tx L u k F (d + 1) j p x = .inl (1, tkS tx L p) := by rw [rdn, if_neg h]
theorem rdn_2 {F : Nat → (Nat → Nat) → (Nat × Nat) ⊕ (Nat × QU)} (h : tkK tx L p = 2) (hl : lt u x ((ll k).getD j 0) (tkV tx L p) = false) : rdn tx L u k F (d + 1) j p x = .inl (2, tkS tx L p) := by rw [rdn, if_pos h, if_neg (by rw [hl]; decide)]
theorem rdn_y {F : Nat → (Nat → Nat) → (Nat × Nat) ⊕ (Nat × QU)} (h : tkK tx L p = 2) (hl : lt u x ((ll k).getD j 0) (tkV tx L p) = true) : rdn tx L u k F (d + 1) j p x = rdn tx L u k F d (j + 1) (tkE tx L p) (xu x j (tkV tx L p)) := by rw [rdn, if_pos h, if_pos hl]
theorem km_stops (h : AM tx L p r u T) (l : Bool) : ∃ b T', f_X9_stops T (nB l) = some (nB b, T') ∧ FM T T' ∧ (b = true → tkK tx L p = 5 ∧ l = true ∧ T' = T) ∧ (b = false → ∃ e, ((e = 1 ∧ tkK tx L p ≠ 5) ∨ (e = 3 ∧ tkK tx L p = 5 ∧ l = false)) ∧ EM e (tkS tx L p) T') := by
  obtain ⟨i1, i2⟩ := km_is h (e := 1) (by decide)
  have hr : rk (tkK tx L p) = 1 ↔ tkK tx L p = 5 := rk_inj (a := tkK tx L p) (b := 5) (tkK_le L p) (by decide)
  by_cases q : tkK tx L p = 5
  · have i3 := i1 (hr.mpr q)
    cases l
    · obtain ⟨T', e1, e2, e3⟩ := km_fail h 3
      refine ⟨false, T', ?_, e3, (fun z => by cases z), fun _ => ⟨3, Or.inr ⟨rfl, q, rfl⟩, e2⟩⟩
      simp (disch := omega) only [f_X9_stops, xl_s, ob_s, xb_s, rd_n, wr_n, m_1, m_1b, nI_add, pk_mul, l_0, l_1, l_2, l_3, l_4, l_5, l_6, l_7, l_8, l_9, l_10, l_11, l_12, l_13, l_14, l_15, l_16, l_17, l_18, l_19, l_20, l_21, l_22, l_23, l_24, l_30, l_31, l_32, l_40, l_41, l_48, l_57, l_59, l_64, l_90, l_97, l_99, l_100, l_119, l_122, l_186, l_200, l_255, l_600, l_999, l_1488, l_1000000, i3, z10, if_false, nB_f, if_true, e1]
    · refine ⟨true, T, ?_, FM_r, (fun _ => ⟨q, rfl, rfl⟩), fun z => by cases z⟩
      simp (disch := omega) only [f_X9_stops, xl_s, ob_s, xb_s, rd_n, wr_n, m_1, m_1b, nI_add, pk_mul, l_0, l_1, l_2, l_3, l_4, l_5, l_6, l_7, l_8, l_9, l_10, l_11, l_12, l_13, l_14, l_15, l_16, l_17, l_18, l_19, l_20, l_21, l_22, l_23, l_24, l_30, l_31, l_32, l_40, l_41, l_48, l_57, l_59, l_64, l_90, l_97, l_99, l_100, l_119, l_122, l_186, l_200, l_255, l_600, l_999, l_1488, l_1000000, i3, z10, if_false, nB_t]
  · obtain ⟨T', e1, e2, e3⟩ := i2 (fun z => q (hr.mp z))
    refine ⟨false, T', ?_, e3, (fun z => by cases z), fun _ => ⟨1, Or.inl ⟨rfl, q⟩, e2⟩⟩
    simp (disch := omega) only [f_X9_stops, xl_s, ob_s, xb_s, rd_n, wr_n, m_1, m_1b, nI_add, pk_mul, l_0, l_1, l_2, l_3, l_4, l_5, l_6, l_7, l_8, l_9, l_10, l_11, l_12, l_13, l_14, l_15, l_16, l_17, l_18, l_19, l_20, l_21, l_22, l_23, l_24, l_30, l_31, l_32, l_40, l_41, l_48, l_57, l_59, l_64, l_90, l_97, l_99, l_100, l_119, l_122, l_186, l_200, l_255, l_600, l_999, l_1488, l_1000000, e1, if_true, nB_f]
theorem BM_op {q : Nat} {v : QU} (h : AM tx L p r u T) (hq : tkE tx L p = q) (h1 : RM (T' 1) v) (hf : ∀ i, i ≠ 1 → T' i = T i) : BM tx L q r v T' := by
  obtain ⟨⟨a1, a2, a3⟩, b1, b2, b3, b4⟩ := h.1
  subst hq
  exact ⟨⟨by rw [hf 0 (by decide)]; exact a1, by rw [hf 0 (by decide)]; exact a2, fun i hi => by rw [hf 7 (by decide)]; exact a3 i hi⟩, by rw [hf 0 (by decide)]; exact b1, by rw [hf 0 (by decide)]; exact b2, by rw [hf 0 (by decide)]; exact b3, h1⟩
theorem FM_op {T2 : XS} (h : FM T T') (hf : ∀ i, i ≠ 1 → T2 i = T' i) : FM T T2 := ⟨fun a h0 h1 h2 => by rw [hf a h1, h.1 a h0 h1 h2], fun y a b c => by rw [hf 0 (by decide), h.2 y a b c]⟩
theorem km_c0 (h6 : L ≤ 600) (hB : ∀ i, tx i < 256) (hp : p ≤ L) (h : AM tx L p r u T) (w : WF u) (hn : u 0 13 ≤ 999) : ∃ b T', f_X9_readsChimney T = some (nB b, T') ∧ FM T T' ∧ OM tx L r b T' (cmdO tx L u 0 p) := by
  have b0 : u 0 0 ≤ 10 ∧ u 0 3 ≤ 20 ∧ u 0 7 ≤ 8 := by obtain ⟨hB, w0, w3, w7, wN, wk, wg, wc, wd, wo, wv⟩ := w; exact ⟨w0, w3, w7⟩
  have hc0 : cmdO tx L u 0 p = rdn tx L u 0 (fin tx L u 0) 1 0 p (fun _ => 0) := rfl
  obtain ⟨b1, T1, e1, fm1, t1, f1⟩ := km_number (c := 119) (j := 0) (x := (fun _ => 0)) (lo := nI 0) (hi := nI 9) h6 hB hp h (fun _ hv => by rw [in_rg hv (by decide) (by decide)]; congr 2; show decide _ = decide _; rw [decide_eq_decide]; omega) (by decide)
  cases b1
  · obtain ⟨e, he, hE⟩ := f1 rfl
    refine ⟨false, T1, ?_, (FM_t FM_r fm1), ?_⟩
    · simp (disch := omega) only [f_X9_readsChimney, f_X9_sizesAt, e1, xl_s, ob_s, xb_s, rd_n, wr_n, m_1, m_1b, nI_add, pk_mul, l_0, l_1, l_2, l_3, l_4, l_5, l_6, l_7, l_8, l_9, l_10, l_11, l_12, l_13, l_14, l_15, l_16, l_17, l_18, l_19, l_20, l_21, l_22, l_23, l_24, l_30, l_31, l_32, l_40, l_41, l_48, l_57, l_59, l_64, l_90, l_97, l_99, l_100, l_119, l_122, l_186, l_200, l_255, l_600, l_999, l_1488, l_1000000, nB_t, nB_f, z10, if_true, if_false, xz_b, eq_self]
    · rw [hc0]
      rcases he with ⟨rfl, he⟩ | ⟨rfl, he, hl⟩
      · rw [rdn_1 he]; exact ⟨rfl, hE⟩
      · rw [rdn_2 he (show lt u (fun _ => 0) ((ll 0).getD 0 0) (tkV tx L p) = false from hl)]; exact ⟨rfl, hE⟩
  obtain ⟨hk1, hl1, hA1, hp1, hq1, hv1⟩ := t1 rfl
  have v9_1 := (tkV_le (tx := tx) hp hk1).2.1
  have hc1 : cmdO tx L u 0 p = rdn tx L u 0 (fin tx L u 0) 0 1 (tkE tx L p) (xu (fun _ => 0) 0 (tkV tx L p)) := hc0.trans (rdn_y hk1 (show lt u (fun _ => 0) ((ll 0).getD 0 0) (tkV tx L p) = true from hl1))
  have z0 : T1 10 0 = nI (tkV tx L p) := by
    rw [hv1, if_pos rfl]
  have y0 : xrd (nI 0) 4 (T1 10) = some (nI (tkV tx L p)) := by rw [rd_n (by decide) (by decide), z0]
  have g1 := of_decide_eq_true hl1
  have m0 : T1 1 0 = nI (u 0 0) := hA1.1.2.2.2.2.1
  have hfin : cmdO tx L u 0 p = fin tx L u 0 (tkE tx L p) (xu (fun _ => 0) 0 (tkV tx L p)) := hc1
  obtain ⟨bs, Ts, es, fms, ts, fs⟩ := km_stops hA1 (legal u 0 (xu (fun _ => 0) 0 (tkV tx L p)))
  cases hlg : legal u 0 (xu (fun _ => 0) 0 (tkV tx L p))
  · skip
    have zl : ¬ (u 0 0 < 10) := of_decide_eq_false hlg
    rw [hlg] at es ts fs
    cases bs
    · obtain ⟨e, he, hE⟩ := fs rfl
      refine ⟨false, Ts, ?_, FM_t (FM_t FM_r fm1) fms, ?_⟩
      · rw [nB_f] at es
        simp (disch := omega) only [f_X9_readsChimney, f_X9_sizesAt, e1, y0, z0, m0, i_leT, es, xl_s, ob_s, xb_s, rd_n, wr_n, m_1, m_1b, nI_add, pk_mul, l_0, l_1, l_2, l_3, l_4, l_5, l_6, l_7, l_8, l_9, l_10, l_11, l_12, l_13, l_14, l_15, l_16, l_17, l_18, l_19, l_20, l_21, l_22, l_23, l_24, l_30, l_31, l_32, l_40, l_41, l_48, l_57, l_59, l_64, l_90, l_97, l_99, l_100, l_119, l_122, l_186, l_200, l_255, l_600, l_999, l_1488, l_1000000, nB_t, nB_f, z10, if_true, if_false, xz_b, eq_self]
      · rw [hfin]
        rcases he with ⟨rfl, he⟩ | ⟨rfl, he, -⟩
        · rw [fin, if_neg he]; exact ⟨rfl, hE⟩
        · rw [fin, if_pos he, if_neg (by rw [hlg]; decide)]; exact ⟨rfl, hE⟩
    · exact absurd (ts rfl).2.1 (by decide)
  · skip
    have zl : u 0 0 < 10 := of_decide_eq_true hlg
    rw [hlg] at es ts fs
    cases bs
    · obtain ⟨e, he, hE⟩ := fs rfl
      refine ⟨false, Ts, ?_, FM_t (FM_t FM_r fm1) fms, ?_⟩
      · rw [nB_t] at es
        simp (disch := omega) only [f_X9_readsChimney, f_X9_sizesAt, e1, y0, z0, m0, i_leF, es, xl_s, ob_s, xb_s, rd_n, wr_n, m_1, m_1b, nI_add, pk_mul, l_0, l_1, l_2, l_3, l_4, l_5, l_6, l_7, l_8, l_9, l_10, l_11, l_12, l_13, l_14, l_15, l_16, l_17, l_18, l_19, l_20, l_21, l_22, l_23, l_24, l_30, l_31, l_32, l_40, l_41, l_48, l_57, l_59, l_64, l_90, l_97, l_99, l_100, l_119, l_122, l_186, l_200, l_255, l_600, l_999, l_1488, l_1000000, nB_t, nB_f, z10, if_true, if_false, xz_b, eq_self]
      · rw [hfin]
        rcases he with ⟨rfl, he⟩ | ⟨rfl, he, hx⟩
        · rw [fin, if_neg he]; exact ⟨rfl, hE⟩
        · cases hx
    · obtain ⟨h5, -, hT⟩ := ts rfl
      subst hT
      obtain ⟨To, o1, o2, o3⟩ := km_build (T := Ts) hA1.1.2.2.2.2 w zl (x := (tkV tx L p))
      refine ⟨true, To, ?_, FM_op (FM_t FM_r fm1) o3, ?_⟩
      · rw [nB_t] at es
        simp (disch := omega) only [f_X9_readsChimney, f_X9_sizesAt, e1, y0, z0, m0, i_leF, es, o1, xl_s, ob_s, xb_s, rd_n, wr_n, m_1, m_1b, nI_add, pk_mul, l_0, l_1, l_2, l_3, l_4, l_5, l_6, l_7, l_8, l_9, l_10, l_11, l_12, l_13, l_14, l_15, l_16, l_17, l_18, l_19, l_20, l_21, l_22, l_23, l_24, l_30, l_31, l_32, l_40, l_41, l_48, l_57, l_59, l_64, l_90, l_97, l_99, l_100, l_119, l_122, l_186, l_200, l_255, l_600, l_999, l_1488, l_1000000, nB_t, nB_f, z10, if_true, if_false, xz_b, eq_self]
      · rw [hfin, fin, if_pos h5, if_pos hlg]
        exact ⟨rfl, BM_op hA1 rfl o2 o3⟩
theorem km_c1 (h6 : L ≤ 600) (hB : ∀ i, tx i < 256) (hp : p ≤ L) (h : AM tx L p r u T) (w : WF u) (hn : u 0 13 ≤ 999) : ∃ b T', f_X9_readsGutter T = some (nB b, T') ∧ FM T T' ∧ OM tx L r b T' (cmdO tx L u 1 p) := by
  have b0 : u 0 0 ≤ 10 ∧ u 0 3 ≤ 20 ∧ u 0 7 ≤ 8 := by obtain ⟨hB, w0, w3, w7, wN, wk, wg, wc, wd, wo, wv⟩ := w; exact ⟨w0, w3, w7⟩
  have hc0 : cmdO tx L u 1 p = rdn tx L u 1 (fin tx L u 1) 3 0 p (fun _ => 0) := rfl
  obtain ⟨b1, T1, e1, fm1, t1, f1⟩ := km_chimneyAt (j := 0) (x := (fun _ => 0)) h6 hB hp h w (by decide)
  cases b1
  · obtain ⟨e, he, hE⟩ := f1 rfl
    refine ⟨false, T1, ?_, (FM_t FM_r fm1), ?_⟩
    · simp (disch := omega) only [f_X9_readsGutter, f_X9_sizesAt, e1, xl_s, ob_s, xb_s, rd_n, wr_n, m_1, m_1b, nI_add, pk_mul, l_0, l_1, l_2, l_3, l_4, l_5, l_6, l_7, l_8, l_9, l_10, l_11, l_12, l_13, l_14, l_15, l_16, l_17, l_18, l_19, l_20, l_21, l_22, l_23, l_24, l_30, l_31, l_32, l_40, l_41, l_48, l_57, l_59, l_64, l_90, l_97, l_99, l_100, l_119, l_122, l_186, l_200, l_255, l_600, l_999, l_1488, l_1000000, nB_t, nB_f, z10, if_true, if_false, xz_b, eq_self]
    · rw [hc0]
      rcases he with ⟨rfl, he⟩ | ⟨rfl, he, hl⟩
      · rw [rdn_1 he]; exact ⟨rfl, hE⟩
      · rw [rdn_2 he (show lt u (fun _ => 0) ((ll 1).getD 0 0) (tkV tx L p) = false from hl)]; exact ⟨rfl, hE⟩
  obtain ⟨hk1, hl1, hA1, hp1, hq1, hv1⟩ := t1 rfl
  have v9_1 := (tkV_le (tx := tx) hp hk1).2.1
  have hc1 : cmdO tx L u 1 p = rdn tx L u 1 (fin tx L u 1) 2 1 (tkE tx L p) (xu (fun _ => 0) 0 (tkV tx L p)) := hc0.trans (rdn_y hk1 (show lt u (fun _ => 0) ((ll 1).getD 0 0) (tkV tx L p) = true from hl1))
  have mz : T1 1 0 = nI (u 0 0) := hA1.1.2.2.2.2.1
  obtain ⟨b2, T2, e2, fm2, t2, f2⟩ := km_another (c := 72) (x := (xu (fun _ => 0) 0 (tkV tx L p))) (n := u 0 0) h6 hB hq1 hA1 (by omega) (by rw [hv1]; exact if_pos rfl) v9_1 (fun v => rfl)
  cases b2
  · obtain ⟨e, he, hE⟩ := f2 rfl
    refine ⟨false, T2, ?_, (FM_t (FM_t FM_r fm1) fm2), ?_⟩
    · simp (disch := omega) only [f_X9_readsGutter, f_X9_sizesAt, e1, mz, e2, xl_s, ob_s, xb_s, rd_n, wr_n, m_1, m_1b, nI_add, pk_mul, l_0, l_1, l_2, l_3, l_4, l_5, l_6, l_7, l_8, l_9, l_10, l_11, l_12, l_13, l_14, l_15, l_16, l_17, l_18, l_19, l_20, l_21, l_22, l_23, l_24, l_30, l_31, l_32, l_40, l_41, l_48, l_57, l_59, l_64, l_90, l_97, l_99, l_100, l_119, l_122, l_186, l_200, l_255, l_600, l_999, l_1488, l_1000000, nB_t, nB_f, z10, if_true, if_false, xz_b, eq_self]
    · rw [hc1]
      rcases he with ⟨rfl, he⟩ | ⟨rfl, he, hl⟩
      · rw [rdn_1 he]; exact ⟨rfl, hE⟩
      · rw [rdn_2 he (show lt u (xu (fun _ => 0) 0 (tkV tx L p)) ((ll 1).getD 1 0) (tkV tx L (tkE tx L p)) = false from hl)]; exact ⟨rfl, hE⟩
  obtain ⟨hk2, hl2, hA2, hp2, hq2, hv2⟩ := t2 rfl
  have v9_2 := (tkV_le (tx := tx) hq1 hk2).2.1
  have hc2 : cmdO tx L u 1 p = rdn tx L u 1 (fin tx L u 1) 1 2 (tkE tx L (tkE tx L p)) (xu (xu (fun _ => 0) 0 (tkV tx L p)) 1 (tkV tx L (tkE tx L p))) := hc1.trans (rdn_y hk2 (show lt u (xu (fun _ => 0) 0 (tkV tx L p)) ((ll 1).getD 1 0) (tkV tx L (tkE tx L p)) = true from hl2))
  obtain ⟨b3, T3, e3, fm3, t3, f3⟩ := km_number (c := 115) (j := 2) (x := (xu (xu (fun _ => 0) 0 (tkV tx L p)) 1 (tkV tx L (tkE tx L p)))) (lo := nI 1) (hi := nI 9) h6 hB hq2 hA2 (fun _ hv => by rw [in_rg hv (by decide) (by decide)]; rfl) (by decide)
  cases b3
  · obtain ⟨e, he, hE⟩ := f3 rfl
    refine ⟨false, T3, ?_, (FM_t (FM_t (FM_t FM_r fm1) fm2) fm3), ?_⟩
    · simp (disch := omega) only [f_X9_readsGutter, f_X9_sizesAt, e1, mz, e2, e3, xl_s, ob_s, xb_s, rd_n, wr_n, m_1, m_1b, nI_add, pk_mul, l_0, l_1, l_2, l_3, l_4, l_5, l_6, l_7, l_8, l_9, l_10, l_11, l_12, l_13, l_14, l_15, l_16, l_17, l_18, l_19, l_20, l_21, l_22, l_23, l_24, l_30, l_31, l_32, l_40, l_41, l_48, l_57, l_59, l_64, l_90, l_97, l_99, l_100, l_119, l_122, l_186, l_200, l_255, l_600, l_999, l_1488, l_1000000, nB_t, nB_f, z10, if_true, if_false, xz_b, eq_self]
    · rw [hc2]
      rcases he with ⟨rfl, he⟩ | ⟨rfl, he, hl⟩
      · rw [rdn_1 he]; exact ⟨rfl, hE⟩
      · rw [rdn_2 he (show lt u (xu (xu (fun _ => 0) 0 (tkV tx L p)) 1 (tkV tx L (tkE tx L p))) ((ll 1).getD 2 0) (tkV tx L (tkE tx L (tkE tx L p))) = false from hl)]; exact ⟨rfl, hE⟩
  obtain ⟨hk3, hl3, hA3, hp3, hq3, hv3⟩ := t3 rfl
  have v9_3 := (tkV_le (tx := tx) hq2 hk3).2.1
  have hc3 : cmdO tx L u 1 p = rdn tx L u 1 (fin tx L u 1) 0 3 (tkE tx L (tkE tx L (tkE tx L p))) (xu (xu (xu (fun _ => 0) 0 (tkV tx L p)) 1 (tkV tx L (tkE tx L p))) 2 (tkV tx L (tkE tx L (tkE tx L p)))) := hc2.trans (rdn_y hk3 (show lt u (xu (xu (fun _ => 0) 0 (tkV tx L p)) 1 (tkV tx L (tkE tx L p))) ((ll 1).getD 2 0) (tkV tx L (tkE tx L (tkE tx L p))) = true from hl3))
  have z0 : T3 10 0 = nI (tkV tx L p) := by
    rw [hv3, if_neg (by decide), hv2, if_neg (by decide), hv1, if_pos rfl]
  have y0 : xrd (nI 0) 4 (T3 10) = some (nI (tkV tx L p)) := by rw [rd_n (by decide) (by decide), z0]
  have z1 : T3 10 1 = nI (tkV tx L (tkE tx L p)) := by
    rw [hv3, if_neg (by decide), hv2, if_pos rfl]
  have y1 : xrd (nI 1) 4 (T3 10) = some (nI (tkV tx L (tkE tx L p))) := by rw [rd_n (by decide) (by decide), z1]
  have z2 : T3 10 2 = nI (tkV tx L (tkE tx L (tkE tx L p))) := by
    rw [hv3, if_pos rfl]
  have y2 : xrd (nI 2) 4 (T3 10) = some (nI (tkV tx L (tkE tx L (tkE tx L p)))) := by rw [rd_n (by decide) (by decide), z2]
  have g1 := of_decide_eq_true hl1
  have g2 := of_decide_eq_true hl2
  have g3 := of_decide_eq_true hl3
  have m0 : T3 1 1 = nI (u 0 3) := hA3.1.2.2.2.2.2.1
  have hfin : cmdO tx L u 1 p = fin tx L u 1 (tkE tx L (tkE tx L (tkE tx L p))) (xu (xu (xu (fun _ => 0) 0 (tkV tx L p)) 1 (tkV tx L (tkE tx L p))) 2 (tkV tx L (tkE tx L (tkE tx L p)))) := hc3
  obtain ⟨bs, Ts, es, fms, ts, fs⟩ := km_stops hA3 (legal u 1 (xu (xu (xu (fun _ => 0) 0 (tkV tx L p)) 1 (tkV tx L (tkE tx L p))) 2 (tkV tx L (tkE tx L (tkE tx L p)))))
  cases hlg : legal u 1 (xu (xu (xu (fun _ => 0) 0 (tkV tx L p)) 1 (tkV tx L (tkE tx L p))) 2 (tkV tx L (tkE tx L (tkE tx L p))))
  · skip
    have zl : ¬ (u 0 3 < 20) := of_decide_eq_false hlg
    rw [hlg] at es ts fs
    cases bs
    · obtain ⟨e, he, hE⟩ := fs rfl
      refine ⟨false, Ts, ?_, FM_t (FM_t (FM_t (FM_t FM_r fm1) fm2) fm3) fms, ?_⟩
      · rw [nB_f] at es
        simp (disch := omega) only [f_X9_readsGutter, f_X9_sizesAt, e1, mz, e2, e3, y0, y1, y2, z0, z1, z2, m0, i_leT, es, xl_s, ob_s, xb_s, rd_n, wr_n, m_1, m_1b, nI_add, pk_mul, l_0, l_1, l_2, l_3, l_4, l_5, l_6, l_7, l_8, l_9, l_10, l_11, l_12, l_13, l_14, l_15, l_16, l_17, l_18, l_19, l_20, l_21, l_22, l_23, l_24, l_30, l_31, l_32, l_40, l_41, l_48, l_57, l_59, l_64, l_90, l_97, l_99, l_100, l_119, l_122, l_186, l_200, l_255, l_600, l_999, l_1488, l_1000000, nB_t, nB_f, z10, if_true, if_false, xz_b, eq_self]
      · rw [hfin]
        rcases he with ⟨rfl, he⟩ | ⟨rfl, he, -⟩
        · rw [fin, if_neg he]; exact ⟨rfl, hE⟩
        · rw [fin, if_pos he, if_neg (by rw [hlg]; decide)]; exact ⟨rfl, hE⟩
    · exact absurd (ts rfl).2.1 (by decide)
  · skip
    have zl : u 0 3 < 20 := of_decide_eq_true hlg
    rw [hlg] at es ts fs
    cases bs
    · obtain ⟨e, he, hE⟩ := fs rfl
      refine ⟨false, Ts, ?_, FM_t (FM_t (FM_t (FM_t FM_r fm1) fm2) fm3) fms, ?_⟩
      · rw [nB_t] at es
        simp (disch := omega) only [f_X9_readsGutter, f_X9_sizesAt, e1, mz, e2, e3, y0, y1, y2, z0, z1, z2, m0, i_leF, es, xl_s, ob_s, xb_s, rd_n, wr_n, m_1, m_1b, nI_add, pk_mul, l_0, l_1, l_2, l_3, l_4, l_5, l_6, l_7, l_8, l_9, l_10, l_11, l_12, l_13, l_14, l_15, l_16, l_17, l_18, l_19, l_20, l_21, l_22, l_23, l_24, l_30, l_31, l_32, l_40, l_41, l_48, l_57, l_59, l_64, l_90, l_97, l_99, l_100, l_119, l_122, l_186, l_200, l_255, l_600, l_999, l_1488, l_1000000, nB_t, nB_f, z10, if_true, if_false, xz_b, eq_self]
      · rw [hfin]
        rcases he with ⟨rfl, he⟩ | ⟨rfl, he, hx⟩
        · rw [fin, if_neg he]; exact ⟨rfl, hE⟩
        · cases hx
    · obtain ⟨h5, -, hT⟩ := ts rfl
      subst hT
      obtain ⟨To, o1, o2, o3⟩ := km_lay (T := Ts) hA3.1.2.2.2.2 w zl (a := (tkV tx L p)) (b := (tkV tx L (tkE tx L p))) (x := (tkV tx L (tkE tx L (tkE tx L p))))
      refine ⟨true, To, ?_, FM_op (FM_t (FM_t (FM_t FM_r fm1) fm2) fm3) o3, ?_⟩
      · rw [nB_t] at es
        simp (disch := omega) only [f_X9_readsGutter, f_X9_sizesAt, e1, mz, e2, e3, y0, y1, y2, z0, z1, z2, m0, i_leF, es, o1, xl_s, ob_s, xb_s, rd_n, wr_n, m_1, m_1b, nI_add, pk_mul, l_0, l_1, l_2, l_3, l_4, l_5, l_6, l_7, l_8, l_9, l_10, l_11, l_12, l_13, l_14, l_15, l_16, l_17, l_18, l_19, l_20, l_21, l_22, l_23, l_24, l_30, l_31, l_32, l_40, l_41, l_48, l_57, l_59, l_64, l_90, l_97, l_99, l_100, l_119, l_122, l_186, l_200, l_255, l_600, l_999, l_1488, l_1000000, nB_t, nB_f, z10, if_true, if_false, xz_b, eq_self]
      · rw [hfin, fin, if_pos h5, if_pos hlg]
        exact ⟨rfl, BM_op hA3 rfl o2 o3⟩
theorem km_c2 (h6 : L ≤ 600) (hB : ∀ i, tx i < 256) (hp : p ≤ L) (h : AM tx L p r u T) (w : WF u) (hn : u 0 13 ≤ 999) : ∃ b T', f_X9_readsCat T = some (nB b, T') ∧ FM T T' ∧ OM tx L r b T' (cmdO tx L u 2 p) := by
  have b0 : u 0 0 ≤ 10 ∧ u 0 3 ≤ 20 ∧ u 0 7 ≤ 8 := by obtain ⟨hB, w0, w3, w7, wN, wk, wg, wc, wd, wo, wv⟩ := w; exact ⟨w0, w3, w7⟩
  have hc0 : cmdO tx L u 2 p = rdn tx L u 2 (fin tx L u 2) 3 0 p (fun _ => 0) := rfl
  obtain ⟨b1, T1, e1, fm1, t1, f1⟩ := km_chimneyAt (j := 0) (x := (fun _ => 0)) h6 hB hp h w (by decide)
  cases b1
  · obtain ⟨e, he, hE⟩ := f1 rfl
    refine ⟨false, T1, ?_, (FM_t FM_r fm1), ?_⟩
    · simp (disch := omega) only [f_X9_readsCat, f_X9_sizesAt, e1, xl_s, ob_s, xb_s, rd_n, wr_n, m_1, m_1b, nI_add, pk_mul, l_0, l_1, l_2, l_3, l_4, l_5, l_6, l_7, l_8, l_9, l_10, l_11, l_12, l_13, l_14, l_15, l_16, l_17, l_18, l_19, l_20, l_21, l_22, l_23, l_24, l_30, l_31, l_32, l_40, l_41, l_48, l_57, l_59, l_64, l_90, l_97, l_99, l_100, l_119, l_122, l_186, l_200, l_255, l_600, l_999, l_1488, l_1000000, nB_t, nB_f, z10, if_true, if_false, xz_b, eq_self]
    · rw [hc0]
      rcases he with ⟨rfl, he⟩ | ⟨rfl, he, hl⟩
      · rw [rdn_1 he]; exact ⟨rfl, hE⟩
      · rw [rdn_2 he (show lt u (fun _ => 0) ((ll 2).getD 0 0) (tkV tx L p) = false from hl)]; exact ⟨rfl, hE⟩
  obtain ⟨hk1, hl1, hA1, hp1, hq1, hv1⟩ := t1 rfl
  have v9_1 := (tkV_le (tx := tx) hp hk1).2.1
  have hc1 : cmdO tx L u 2 p = rdn tx L u 2 (fin tx L u 2) 2 1 (tkE tx L p) (xu (fun _ => 0) 0 (tkV tx L p)) := hc0.trans (rdn_y hk1 (show lt u (fun _ => 0) ((ll 2).getD 0 0) (tkV tx L p) = true from hl1))
  obtain ⟨b2, T2, e2, fm2, t2, f2⟩ := km_number (c := 115) (j := 1) (x := (xu (fun _ => 0) 0 (tkV tx L p))) (lo := nI 1) (hi := nI 9) h6 hB hq1 hA1 (fun _ hv => by rw [in_rg hv (by decide) (by decide)]; rfl) (by decide)
  cases b2
  · obtain ⟨e, he, hE⟩ := f2 rfl
    refine ⟨false, T2, ?_, (FM_t (FM_t FM_r fm1) fm2), ?_⟩
    · simp (disch := omega) only [f_X9_readsCat, f_X9_sizesAt, e1, e2, xl_s, ob_s, xb_s, rd_n, wr_n, m_1, m_1b, nI_add, pk_mul, l_0, l_1, l_2, l_3, l_4, l_5, l_6, l_7, l_8, l_9, l_10, l_11, l_12, l_13, l_14, l_15, l_16, l_17, l_18, l_19, l_20, l_21, l_22, l_23, l_24, l_30, l_31, l_32, l_40, l_41, l_48, l_57, l_59, l_64, l_90, l_97, l_99, l_100, l_119, l_122, l_186, l_200, l_255, l_600, l_999, l_1488, l_1000000, nB_t, nB_f, z10, if_true, if_false, xz_b, eq_self]
    · rw [hc1]
      rcases he with ⟨rfl, he⟩ | ⟨rfl, he, hl⟩
      · rw [rdn_1 he]; exact ⟨rfl, hE⟩
      · rw [rdn_2 he (show lt u (xu (fun _ => 0) 0 (tkV tx L p)) ((ll 2).getD 1 0) (tkV tx L (tkE tx L p)) = false from hl)]; exact ⟨rfl, hE⟩
  obtain ⟨hk2, hl2, hA2, hp2, hq2, hv2⟩ := t2 rfl
  have v9_2 := (tkV_le (tx := tx) hq1 hk2).2.1
  have hc2 : cmdO tx L u 2 p = rdn tx L u 2 (fin tx L u 2) 1 2 (tkE tx L (tkE tx L p)) (xu (xu (fun _ => 0) 0 (tkV tx L p)) 1 (tkV tx L (tkE tx L p))) := hc1.trans (rdn_y hk2 (show lt u (xu (fun _ => 0) 0 (tkV tx L p)) ((ll 2).getD 1 0) (tkV tx L (tkE tx L p)) = true from hl2))
  obtain ⟨b3, T3, e3, fm3, t3, f3⟩ := km_number (c := 115) (j := 2) (x := (xu (xu (fun _ => 0) 0 (tkV tx L p)) 1 (tkV tx L (tkE tx L p)))) (lo := nI 1) (hi := nI 9) h6 hB hq2 hA2 (fun _ hv => by rw [in_rg hv (by decide) (by decide)]; rfl) (by decide)
  cases b3
  · obtain ⟨e, he, hE⟩ := f3 rfl
    refine ⟨false, T3, ?_, (FM_t (FM_t (FM_t FM_r fm1) fm2) fm3), ?_⟩
    · simp (disch := omega) only [f_X9_readsCat, f_X9_sizesAt, e1, e2, e3, xl_s, ob_s, xb_s, rd_n, wr_n, m_1, m_1b, nI_add, pk_mul, l_0, l_1, l_2, l_3, l_4, l_5, l_6, l_7, l_8, l_9, l_10, l_11, l_12, l_13, l_14, l_15, l_16, l_17, l_18, l_19, l_20, l_21, l_22, l_23, l_24, l_30, l_31, l_32, l_40, l_41, l_48, l_57, l_59, l_64, l_90, l_97, l_99, l_100, l_119, l_122, l_186, l_200, l_255, l_600, l_999, l_1488, l_1000000, nB_t, nB_f, z10, if_true, if_false, xz_b, eq_self]
    · rw [hc2]
      rcases he with ⟨rfl, he⟩ | ⟨rfl, he, hl⟩
      · rw [rdn_1 he]; exact ⟨rfl, hE⟩
      · rw [rdn_2 he (show lt u (xu (xu (fun _ => 0) 0 (tkV tx L p)) 1 (tkV tx L (tkE tx L p))) ((ll 2).getD 2 0) (tkV tx L (tkE tx L (tkE tx L p))) = false from hl)]; exact ⟨rfl, hE⟩
  obtain ⟨hk3, hl3, hA3, hp3, hq3, hv3⟩ := t3 rfl
  have v9_3 := (tkV_le (tx := tx) hq2 hk3).2.1
  have hc3 : cmdO tx L u 2 p = rdn tx L u 2 (fin tx L u 2) 0 3 (tkE tx L (tkE tx L (tkE tx L p))) (xu (xu (xu (fun _ => 0) 0 (tkV tx L p)) 1 (tkV tx L (tkE tx L p))) 2 (tkV tx L (tkE tx L (tkE tx L p)))) := hc2.trans (rdn_y hk3 (show lt u (xu (xu (fun _ => 0) 0 (tkV tx L p)) 1 (tkV tx L (tkE tx L p))) ((ll 2).getD 2 0) (tkV tx L (tkE tx L (tkE tx L p))) = true from hl3))
  have z0 : T3 10 0 = nI (tkV tx L p) := by
    rw [hv3, if_neg (by decide), hv2, if_neg (by decide), hv1, if_pos rfl]
  have y0 : xrd (nI 0) 4 (T3 10) = some (nI (tkV tx L p)) := by rw [rd_n (by decide) (by decide), z0]
  have z1 : T3 10 1 = nI (tkV tx L (tkE tx L p)) := by
    rw [hv3, if_neg (by decide), hv2, if_pos rfl]
  have y1 : xrd (nI 1) 4 (T3 10) = some (nI (tkV tx L (tkE tx L p))) := by rw [rd_n (by decide) (by decide), z1]
  have z2 : T3 10 2 = nI (tkV tx L (tkE tx L (tkE tx L p))) := by
    rw [hv3, if_pos rfl]
  have y2 : xrd (nI 2) 4 (T3 10) = some (nI (tkV tx L (tkE tx L (tkE tx L p)))) := by rw [rd_n (by decide) (by decide), z2]
  have g1 := of_decide_eq_true hl1
  have g2 := of_decide_eq_true hl2
  have g3 := of_decide_eq_true hl3
  have q2 := km_canEnter (T := T3) hA3.1.2.2.2.2 w (k := (tkV tx L p)) (by omega)
  have hfin : cmdO tx L u 2 p = fin tx L u 2 (tkE tx L (tkE tx L (tkE tx L p))) (xu (xu (xu (fun _ => 0) 0 (tkV tx L p)) 1 (tkV tx L (tkE tx L p))) 2 (tkV tx L (tkE tx L (tkE tx L p)))) := hc3
  obtain ⟨bs, Ts, es, fms, ts, fs⟩ := km_stops hA3 (legal u 2 (xu (xu (xu (fun _ => 0) 0 (tkV tx L p)) 1 (tkV tx L (tkE tx L p))) 2 (tkV tx L (tkE tx L (tkE tx L p)))))
  cases hlg : legal u 2 (xu (xu (xu (fun _ => 0) 0 (tkV tx L p)) 1 (tkV tx L (tkE tx L p))) 2 (tkV tx L (tkE tx L (tkE tx L p))))
  · skip
    have zl : ¬ (u 0 7 < 8 ∧ qsit u (tkV tx L p) = 0) := of_decide_eq_false hlg
    rw [hlg] at es ts fs
    cases bs
    · obtain ⟨e, he, hE⟩ := fs rfl
      refine ⟨false, Ts, ?_, FM_t (FM_t (FM_t (FM_t FM_r fm1) fm2) fm3) fms, ?_⟩
      · rw [nB_f] at es
        simp (disch := omega) only [f_X9_readsCat, f_X9_sizesAt, e1, e2, e3, y0, y1, y2, z0, z1, z2, q2, decide_eq_false zl, es, xl_s, ob_s, xb_s, rd_n, wr_n, m_1, m_1b, nI_add, pk_mul, l_0, l_1, l_2, l_3, l_4, l_5, l_6, l_7, l_8, l_9, l_10, l_11, l_12, l_13, l_14, l_15, l_16, l_17, l_18, l_19, l_20, l_21, l_22, l_23, l_24, l_30, l_31, l_32, l_40, l_41, l_48, l_57, l_59, l_64, l_90, l_97, l_99, l_100, l_119, l_122, l_186, l_200, l_255, l_600, l_999, l_1488, l_1000000, nB_t, nB_f, z10, if_true, if_false, xz_b, eq_self]
      · rw [hfin]
        rcases he with ⟨rfl, he⟩ | ⟨rfl, he, -⟩
        · rw [fin, if_neg he]; exact ⟨rfl, hE⟩
        · rw [fin, if_pos he, if_neg (by rw [hlg]; decide)]; exact ⟨rfl, hE⟩
    · exact absurd (ts rfl).2.1 (by decide)
  · skip
    have zl : u 0 7 < 8 ∧ qsit u (tkV tx L p) = 0 := of_decide_eq_true hlg
    rw [hlg] at es ts fs
    cases bs
    · obtain ⟨e, he, hE⟩ := fs rfl
      refine ⟨false, Ts, ?_, FM_t (FM_t (FM_t (FM_t FM_r fm1) fm2) fm3) fms, ?_⟩
      · rw [nB_t] at es
        simp (disch := omega) only [f_X9_readsCat, f_X9_sizesAt, e1, e2, e3, y0, y1, y2, z0, z1, z2, q2, decide_eq_true zl, es, xl_s, ob_s, xb_s, rd_n, wr_n, m_1, m_1b, nI_add, pk_mul, l_0, l_1, l_2, l_3, l_4, l_5, l_6, l_7, l_8, l_9, l_10, l_11, l_12, l_13, l_14, l_15, l_16, l_17, l_18, l_19, l_20, l_21, l_22, l_23, l_24, l_30, l_31, l_32, l_40, l_41, l_48, l_57, l_59, l_64, l_90, l_97, l_99, l_100, l_119, l_122, l_186, l_200, l_255, l_600, l_999, l_1488, l_1000000, nB_t, nB_f, z10, if_true, if_false, xz_b, eq_self]
      · rw [hfin]
        rcases he with ⟨rfl, he⟩ | ⟨rfl, he, hx⟩
        · rw [fin, if_neg he]; exact ⟨rfl, hE⟩
        · cases hx
    · obtain ⟨h5, -, hT⟩ := ts rfl
      subst hT
      obtain ⟨To, o1, o2, o3⟩ := km_put (T := Ts) hA3.1.2.2.2.2 w zl.1 (x := (tkV tx L p)) (g := (tkV tx L (tkE tx L p))) (s := (tkV tx L (tkE tx L (tkE tx L p))))
      refine ⟨true, To, ?_, FM_op (FM_t (FM_t (FM_t FM_r fm1) fm2) fm3) o3, ?_⟩
      · rw [nB_t] at es
        simp (disch := omega) only [f_X9_readsCat, f_X9_sizesAt, e1, e2, e3, y0, y1, y2, z0, z1, z2, q2, decide_eq_true zl, es, o1, xl_s, ob_s, xb_s, rd_n, wr_n, m_1, m_1b, nI_add, pk_mul, l_0, l_1, l_2, l_3, l_4, l_5, l_6, l_7, l_8, l_9, l_10, l_11, l_12, l_13, l_14, l_15, l_16, l_17, l_18, l_19, l_20, l_21, l_22, l_23, l_24, l_30, l_31, l_32, l_40, l_41, l_48, l_57, l_59, l_64, l_90, l_97, l_99, l_100, l_119, l_122, l_186, l_200, l_255, l_600, l_999, l_1488, l_1000000, nB_t, nB_f, z10, if_true, if_false, xz_b, eq_self]
      · rw [hfin, fin, if_pos h5, if_pos hlg]
        exact ⟨rfl, BM_op hA3 rfl o2 o3⟩
theorem km_c3 (h6 : L ≤ 600) (hB : ∀ i, tx i < 256) (hp : p ≤ L) (h : AM tx L p r u T) (w : WF u) (hn : u 0 13 ≤ 999) : ∃ b T', f_X9_readsStep T = some (nB b, T') ∧ FM T T' ∧ OM tx L r b T' (cmdO tx L u 3 p) := by
  have b0 : u 0 0 ≤ 10 ∧ u 0 3 ≤ 20 ∧ u 0 7 ≤ 8 := by obtain ⟨hB, w0, w3, w7, wN, wk, wg, wc, wd, wo, wv⟩ := w; exact ⟨w0, w3, w7⟩
  have hc0 : cmdO tx L u 3 p = rdn tx L u 3 (fin tx L u 3) 2 0 p (fun _ => 0) := rfl
  obtain ⟨b1, T1, e1, fm1, t1, f1⟩ := km_catAt (j := 0) (x := (fun _ => 0)) h6 hB hp h w (by decide)
  cases b1
  · obtain ⟨e, he, hE⟩ := f1 rfl
    refine ⟨false, T1, ?_, (FM_t FM_r fm1), ?_⟩
    · simp (disch := omega) only [f_X9_readsStep, f_X9_sizesAt, e1, xl_s, ob_s, xb_s, rd_n, wr_n, m_1, m_1b, nI_add, pk_mul, l_0, l_1, l_2, l_3, l_4, l_5, l_6, l_7, l_8, l_9, l_10, l_11, l_12, l_13, l_14, l_15, l_16, l_17, l_18, l_19, l_20, l_21, l_22, l_23, l_24, l_30, l_31, l_32, l_40, l_41, l_48, l_57, l_59, l_64, l_90, l_97, l_99, l_100, l_119, l_122, l_186, l_200, l_255, l_600, l_999, l_1488, l_1000000, nB_t, nB_f, z10, if_true, if_false, xz_b, eq_self]
    · rw [hc0]
      rcases he with ⟨rfl, he⟩ | ⟨rfl, he, hl⟩
      · rw [rdn_1 he]; exact ⟨rfl, hE⟩
      · rw [rdn_2 he (show lt u (fun _ => 0) ((ll 3).getD 0 0) (tkV tx L p) = false from hl)]; exact ⟨rfl, hE⟩
  obtain ⟨hk1, hl1, hA1, hp1, hq1, hv1⟩ := t1 rfl
  have v9_1 := (tkV_le (tx := tx) hp hk1).2.1
  have hc1 : cmdO tx L u 3 p = rdn tx L u 3 (fin tx L u 3) 1 1 (tkE tx L p) (xu (fun _ => 0) 0 (tkV tx L p)) := hc0.trans (rdn_y hk1 (show lt u (fun _ => 0) ((ll 3).getD 0 0) (tkV tx L p) = true from hl1))
  have mz : T1 1 1 = nI (u 0 3) := hA1.1.2.2.2.2.2.1
  obtain ⟨b2, T2, e2, fm2, t2, f2⟩ := km_number (c := 103) (j := 1) (x := (xu (fun _ => 0) 0 (tkV tx L p))) (lo := nI 0) (hi := nI (u 0 3) - nI 1) h6 hB hq1 hA1 (fun _ hv => by rw [in_sub hv (by omega)]; rfl) (by decide)
  cases b2
  · obtain ⟨e, he, hE⟩ := f2 rfl
    refine ⟨false, T2, ?_, (FM_t (FM_t FM_r fm1) fm2), ?_⟩
    · simp (disch := omega) only [f_X9_readsStep, f_X9_sizesAt, e1, mz, e2, xl_s, ob_s, xb_s, rd_n, wr_n, m_1, m_1b, nI_add, pk_mul, l_0, l_1, l_2, l_3, l_4, l_5, l_6, l_7, l_8, l_9, l_10, l_11, l_12, l_13, l_14, l_15, l_16, l_17, l_18, l_19, l_20, l_21, l_22, l_23, l_24, l_30, l_31, l_32, l_40, l_41, l_48, l_57, l_59, l_64, l_90, l_97, l_99, l_100, l_119, l_122, l_186, l_200, l_255, l_600, l_999, l_1488, l_1000000, nB_t, nB_f, z10, if_true, if_false, xz_b, eq_self]
    · rw [hc1]
      rcases he with ⟨rfl, he⟩ | ⟨rfl, he, hl⟩
      · rw [rdn_1 he]; exact ⟨rfl, hE⟩
      · rw [rdn_2 he (show lt u (xu (fun _ => 0) 0 (tkV tx L p)) ((ll 3).getD 1 0) (tkV tx L (tkE tx L p)) = false from hl)]; exact ⟨rfl, hE⟩
  obtain ⟨hk2, hl2, hA2, hp2, hq2, hv2⟩ := t2 rfl
  have v9_2 := (tkV_le (tx := tx) hq1 hk2).2.1
  have hc2 : cmdO tx L u 3 p = rdn tx L u 3 (fin tx L u 3) 0 2 (tkE tx L (tkE tx L p)) (xu (xu (fun _ => 0) 0 (tkV tx L p)) 1 (tkV tx L (tkE tx L p))) := hc1.trans (rdn_y hk2 (show lt u (xu (fun _ => 0) 0 (tkV tx L p)) ((ll 3).getD 1 0) (tkV tx L (tkE tx L p)) = true from hl2))
  have z0 : T2 10 0 = nI (tkV tx L p) := by
    rw [hv2, if_neg (by decide), hv1, if_pos rfl]
  have y0 : xrd (nI 0) 4 (T2 10) = some (nI (tkV tx L p)) := by rw [rd_n (by decide) (by decide), z0]
  have z1 : T2 10 1 = nI (tkV tx L (tkE tx L p)) := by
    rw [hv2, if_pos rfl]
  have y1 : xrd (nI 1) 4 (T2 10) = some (nI (tkV tx L (tkE tx L p))) := by rw [rd_n (by decide) (by decide), z1]
  have g1 := of_decide_eq_true hl1
  have g2 := of_decide_eq_true hl2
  have q2 := km_step (T := T2) hA2.1.2.2.2.2 w g1 g2
  have q3 := qstep_le u (tkV tx L p) (tkV tx L (tkE tx L p))
  have hfin : cmdO tx L u 3 p = fin tx L u 3 (tkE tx L (tkE tx L p)) (xu (xu (fun _ => 0) 0 (tkV tx L p)) 1 (tkV tx L (tkE tx L p))) := hc2
  obtain ⟨bs, Ts, es, fms, ts, fs⟩ := km_stops hA2 (legal u 3 (xu (xu (fun _ => 0) 0 (tkV tx L p)) 1 (tkV tx L (tkE tx L p))))
  cases hlg : legal u 3 (xu (xu (fun _ => 0) 0 (tkV tx L p)) 1 (tkV tx L (tkE tx L p)))
  · skip
    have zl : ¬ (qstep u (tkV tx L p) (tkV tx L (tkE tx L p)) = 0) := of_decide_eq_false hlg
    rw [hlg] at es ts fs
    cases bs
    · obtain ⟨e, he, hE⟩ := fs rfl
      refine ⟨false, Ts, ?_, FM_t (FM_t (FM_t FM_r fm1) fm2) fms, ?_⟩
      · rw [nB_f] at es
        simp (disch := omega) only [f_X9_readsStep, f_X9_sizesAt, e1, mz, e2, y0, y1, z0, z1, q2, i_eqF, es, xl_s, ob_s, xb_s, rd_n, wr_n, m_1, m_1b, nI_add, pk_mul, l_0, l_1, l_2, l_3, l_4, l_5, l_6, l_7, l_8, l_9, l_10, l_11, l_12, l_13, l_14, l_15, l_16, l_17, l_18, l_19, l_20, l_21, l_22, l_23, l_24, l_30, l_31, l_32, l_40, l_41, l_48, l_57, l_59, l_64, l_90, l_97, l_99, l_100, l_119, l_122, l_186, l_200, l_255, l_600, l_999, l_1488, l_1000000, nB_t, nB_f, z10, if_true, if_false, xz_b, eq_self]
      · rw [hfin]
        rcases he with ⟨rfl, he⟩ | ⟨rfl, he, -⟩
        · rw [fin, if_neg he]; exact ⟨rfl, hE⟩
        · rw [fin, if_pos he, if_neg (by rw [hlg]; decide)]; exact ⟨rfl, hE⟩
    · exact absurd (ts rfl).2.1 (by decide)
  · skip
    have zl : qstep u (tkV tx L p) (tkV tx L (tkE tx L p)) = 0 := of_decide_eq_true hlg
    rw [hlg] at es ts fs
    cases bs
    · obtain ⟨e, he, hE⟩ := fs rfl
      refine ⟨false, Ts, ?_, FM_t (FM_t (FM_t FM_r fm1) fm2) fms, ?_⟩
      · rw [nB_t] at es
        simp (disch := omega) only [f_X9_readsStep, f_X9_sizesAt, e1, mz, e2, y0, y1, z0, z1, q2, zl, es, xl_s, ob_s, xb_s, rd_n, wr_n, m_1, m_1b, nI_add, pk_mul, l_0, l_1, l_2, l_3, l_4, l_5, l_6, l_7, l_8, l_9, l_10, l_11, l_12, l_13, l_14, l_15, l_16, l_17, l_18, l_19, l_20, l_21, l_22, l_23, l_24, l_30, l_31, l_32, l_40, l_41, l_48, l_57, l_59, l_64, l_90, l_97, l_99, l_100, l_119, l_122, l_186, l_200, l_255, l_600, l_999, l_1488, l_1000000, nB_t, nB_f, z10, if_true, if_false, xz_b, eq_self]
      · rw [hfin]
        rcases he with ⟨rfl, he⟩ | ⟨rfl, he, hx⟩
        · rw [fin, if_neg he]; exact ⟨rfl, hE⟩
        · cases hx
    · obtain ⟨h5, -, hT⟩ := ts rfl
      subst hT
      obtain ⟨To, o1, o2, o3⟩ := km_go (T := Ts) hA2.1.2.2.2.2 w g1 g2 zl
      refine ⟨true, To, ?_, FM_op (FM_t (FM_t FM_r fm1) fm2) o3, ?_⟩
      · rw [nB_t] at es
        simp (disch := omega) only [f_X9_readsStep, f_X9_sizesAt, e1, mz, e2, y0, y1, z0, z1, q2, zl, es, o1, xl_s, ob_s, xb_s, rd_n, wr_n, m_1, m_1b, nI_add, pk_mul, l_0, l_1, l_2, l_3, l_4, l_5, l_6, l_7, l_8, l_9, l_10, l_11, l_12, l_13, l_14, l_15, l_16, l_17, l_18, l_19, l_20, l_21, l_22, l_23, l_24, l_30, l_31, l_32, l_40, l_41, l_48, l_57, l_59, l_64, l_90, l_97, l_99, l_100, l_119, l_122, l_186, l_200, l_255, l_600, l_999, l_1488, l_1000000, nB_t, nB_f, z10, if_true, if_false, xz_b, eq_self]
      · rw [hfin, fin, if_pos h5, if_pos hlg]
        exact ⟨rfl, BM_op hA2 rfl o2 o3⟩
theorem km_c4 (h6 : L ≤ 600) (hB : ∀ i, tx i < 256) (hp : p ≤ L) (h : AM tx L p r u T) (w : WF u) (hn : u 0 13 ≤ 999) : ∃ b T', f_X9_readsClaim T = some (nB b, T') ∧ FM T T' ∧ OM tx L r b T' (cmdO tx L u 4 p) := by
  have b0 : u 0 0 ≤ 10 ∧ u 0 3 ≤ 20 ∧ u 0 7 ≤ 8 := by obtain ⟨hB, w0, w3, w7, wN, wk, wg, wc, wd, wo, wv⟩ := w; exact ⟨w0, w3, w7⟩
  have hc0 : cmdO tx L u 4 p = rdn tx L u 4 (fin tx L u 4) 1 0 p (fun _ => 0) := rfl
  obtain ⟨b1, T1, e1, fm1, t1, f1⟩ := km_catAt (j := 0) (x := (fun _ => 0)) h6 hB hp h w (by decide)
  cases b1
  · obtain ⟨e, he, hE⟩ := f1 rfl
    refine ⟨false, T1, ?_, (FM_t FM_r fm1), ?_⟩
    · simp (disch := omega) only [f_X9_readsClaim, f_X9_sizesAt, e1, xl_s, ob_s, xb_s, rd_n, wr_n, m_1, m_1b, nI_add, pk_mul, l_0, l_1, l_2, l_3, l_4, l_5, l_6, l_7, l_8, l_9, l_10, l_11, l_12, l_13, l_14, l_15, l_16, l_17, l_18, l_19, l_20, l_21, l_22, l_23, l_24, l_30, l_31, l_32, l_40, l_41, l_48, l_57, l_59, l_64, l_90, l_97, l_99, l_100, l_119, l_122, l_186, l_200, l_255, l_600, l_999, l_1488, l_1000000, nB_t, nB_f, z10, if_true, if_false, xz_b, eq_self]
    · rw [hc0]
      rcases he with ⟨rfl, he⟩ | ⟨rfl, he, hl⟩
      · rw [rdn_1 he]; exact ⟨rfl, hE⟩
      · rw [rdn_2 he (show lt u (fun _ => 0) ((ll 4).getD 0 0) (tkV tx L p) = false from hl)]; exact ⟨rfl, hE⟩
  obtain ⟨hk1, hl1, hA1, hp1, hq1, hv1⟩ := t1 rfl
  have v9_1 := (tkV_le (tx := tx) hp hk1).2.1
  have hc1 : cmdO tx L u 4 p = rdn tx L u 4 (fin tx L u 4) 0 1 (tkE tx L p) (xu (fun _ => 0) 0 (tkV tx L p)) := hc0.trans (rdn_y hk1 (show lt u (fun _ => 0) ((ll 4).getD 0 0) (tkV tx L p) = true from hl1))
  have z0 : T1 10 0 = nI (tkV tx L p) := by
    rw [hv1, if_pos rfl]
  have y0 : xrd (nI 0) 4 (T1 10) = some (nI (tkV tx L p)) := by rw [rd_n (by decide) (by decide), z0]
  have g1 := of_decide_eq_true hl1
  have q2 := km_claim (T := T1) hA1.1.2.2.2.2 w g1
  have q3 := qclaim_le u (tkV tx L p)
  have hfin : cmdO tx L u 4 p = fin tx L u 4 (tkE tx L p) (xu (fun _ => 0) 0 (tkV tx L p)) := hc1
  obtain ⟨bs, Ts, es, fms, ts, fs⟩ := km_stops hA1 (legal u 4 (xu (fun _ => 0) 0 (tkV tx L p)))
  cases hlg : legal u 4 (xu (fun _ => 0) 0 (tkV tx L p))
  · skip
    have zl : ¬ (qclaim u (tkV tx L p) = 0) := of_decide_eq_false hlg
    rw [hlg] at es ts fs
    cases bs
    · obtain ⟨e, he, hE⟩ := fs rfl
      refine ⟨false, Ts, ?_, FM_t (FM_t FM_r fm1) fms, ?_⟩
      · rw [nB_f] at es
        simp (disch := omega) only [f_X9_readsClaim, f_X9_sizesAt, e1, y0, z0, q2, i_eqF, es, xl_s, ob_s, xb_s, rd_n, wr_n, m_1, m_1b, nI_add, pk_mul, l_0, l_1, l_2, l_3, l_4, l_5, l_6, l_7, l_8, l_9, l_10, l_11, l_12, l_13, l_14, l_15, l_16, l_17, l_18, l_19, l_20, l_21, l_22, l_23, l_24, l_30, l_31, l_32, l_40, l_41, l_48, l_57, l_59, l_64, l_90, l_97, l_99, l_100, l_119, l_122, l_186, l_200, l_255, l_600, l_999, l_1488, l_1000000, nB_t, nB_f, z10, if_true, if_false, xz_b, eq_self]
      · rw [hfin]
        rcases he with ⟨rfl, he⟩ | ⟨rfl, he, -⟩
        · rw [fin, if_neg he]; exact ⟨rfl, hE⟩
        · rw [fin, if_pos he, if_neg (by rw [hlg]; decide)]; exact ⟨rfl, hE⟩
    · exact absurd (ts rfl).2.1 (by decide)
  · skip
    have zl : qclaim u (tkV tx L p) = 0 := of_decide_eq_true hlg
    rw [hlg] at es ts fs
    cases bs
    · obtain ⟨e, he, hE⟩ := fs rfl
      refine ⟨false, Ts, ?_, FM_t (FM_t FM_r fm1) fms, ?_⟩
      · rw [nB_t] at es
        simp (disch := omega) only [f_X9_readsClaim, f_X9_sizesAt, e1, y0, z0, q2, zl, es, xl_s, ob_s, xb_s, rd_n, wr_n, m_1, m_1b, nI_add, pk_mul, l_0, l_1, l_2, l_3, l_4, l_5, l_6, l_7, l_8, l_9, l_10, l_11, l_12, l_13, l_14, l_15, l_16, l_17, l_18, l_19, l_20, l_21, l_22, l_23, l_24, l_30, l_31, l_32, l_40, l_41, l_48, l_57, l_59, l_64, l_90, l_97, l_99, l_100, l_119, l_122, l_186, l_200, l_255, l_600, l_999, l_1488, l_1000000, nB_t, nB_f, z10, if_true, if_false, xz_b, eq_self]
      · rw [hfin]
        rcases he with ⟨rfl, he⟩ | ⟨rfl, he, hx⟩
        · rw [fin, if_neg he]; exact ⟨rfl, hE⟩
        · cases hx
    · obtain ⟨h5, -, hT⟩ := ts rfl
      subst hT
      obtain ⟨To, o1, o2, o3⟩ := km_take (T := Ts) hA1.1.2.2.2.2 w g1 (wf_take w g1 zl)
      refine ⟨true, To, ?_, FM_op (FM_t FM_r fm1) o3, ?_⟩
      · rw [nB_t] at es
        simp (disch := omega) only [f_X9_readsClaim, f_X9_sizesAt, e1, y0, z0, q2, zl, es, o1, xl_s, ob_s, xb_s, rd_n, wr_n, m_1, m_1b, nI_add, pk_mul, l_0, l_1, l_2, l_3, l_4, l_5, l_6, l_7, l_8, l_9, l_10, l_11, l_12, l_13, l_14, l_15, l_16, l_17, l_18, l_19, l_20, l_21, l_22, l_23, l_24, l_30, l_31, l_32, l_40, l_41, l_48, l_57, l_59, l_64, l_90, l_97, l_99, l_100, l_119, l_122, l_186, l_200, l_255, l_600, l_999, l_1488, l_1000000, nB_t, nB_f, z10, if_true, if_false, xz_b, eq_self]
      · rw [hfin, fin, if_pos h5, if_pos hlg]
        exact ⟨rfl, BM_op hA1 rfl o2 o3⟩
theorem km_c5 (h6 : L ≤ 600) (hB : ∀ i, tx i < 256) (hp : p ≤ L) (h : AM tx L p r u T) (w : WF u) (hn : u 0 13 ≤ 999) : ∃ b T', f_X9_readsAbandon T = some (nB b, T') ∧ FM T T' ∧ OM tx L r b T' (cmdO tx L u 5 p) := by
  have b0 : u 0 0 ≤ 10 ∧ u 0 3 ≤ 20 ∧ u 0 7 ≤ 8 := by obtain ⟨hB, w0, w3, w7, wN, wk, wg, wc, wd, wo, wv⟩ := w; exact ⟨w0, w3, w7⟩
  have hc0 : cmdO tx L u 5 p = rdn tx L u 5 (fin tx L u 5) 1 0 p (fun _ => 0) := rfl
  obtain ⟨b1, T1, e1, fm1, t1, f1⟩ := km_chimneyAt (j := 0) (x := (fun _ => 0)) h6 hB hp h w (by decide)
  cases b1
  · obtain ⟨e, he, hE⟩ := f1 rfl
    refine ⟨false, T1, ?_, (FM_t FM_r fm1), ?_⟩
    · simp (disch := omega) only [f_X9_readsAbandon, f_X9_sizesAt, e1, xl_s, ob_s, xb_s, rd_n, wr_n, m_1, m_1b, nI_add, pk_mul, l_0, l_1, l_2, l_3, l_4, l_5, l_6, l_7, l_8, l_9, l_10, l_11, l_12, l_13, l_14, l_15, l_16, l_17, l_18, l_19, l_20, l_21, l_22, l_23, l_24, l_30, l_31, l_32, l_40, l_41, l_48, l_57, l_59, l_64, l_90, l_97, l_99, l_100, l_119, l_122, l_186, l_200, l_255, l_600, l_999, l_1488, l_1000000, nB_t, nB_f, z10, if_true, if_false, xz_b, eq_self]
    · rw [hc0]
      rcases he with ⟨rfl, he⟩ | ⟨rfl, he, hl⟩
      · rw [rdn_1 he]; exact ⟨rfl, hE⟩
      · rw [rdn_2 he (show lt u (fun _ => 0) ((ll 5).getD 0 0) (tkV tx L p) = false from hl)]; exact ⟨rfl, hE⟩
  obtain ⟨hk1, hl1, hA1, hp1, hq1, hv1⟩ := t1 rfl
  have v9_1 := (tkV_le (tx := tx) hp hk1).2.1
  have hc1 : cmdO tx L u 5 p = rdn tx L u 5 (fin tx L u 5) 0 1 (tkE tx L p) (xu (fun _ => 0) 0 (tkV tx L p)) := hc0.trans (rdn_y hk1 (show lt u (fun _ => 0) ((ll 5).getD 0 0) (tkV tx L p) = true from hl1))
  have z0 : T1 10 0 = nI (tkV tx L p) := by
    rw [hv1, if_pos rfl]
  have y0 : xrd (nI 0) 4 (T1 10) = some (nI (tkV tx L p)) := by rw [rd_n (by decide) (by decide), z0]
  have g1 := of_decide_eq_true hl1
  have g1b : (tkV tx L p) < u 0 0 := g1
  have q2 := km_owner (T := T1) hA1.1.2.2.2.2 (k := (tkV tx L p)) (by omega)
  have q3 : u 2 (tkV tx L p) < 1048576 := by obtain ⟨hB, w0, w3, w7, wN, wk, wg, wc, wd, wo, wv⟩ := w; exact hB 2 _ (by decide)
  have hfin : cmdO tx L u 5 p = fin tx L u 5 (tkE tx L p) (xu (fun _ => 0) 0 (tkV tx L p)) := hc1
  obtain ⟨bs, Ts, es, fms, ts, fs⟩ := km_stops hA1 (legal u 5 (xu (fun _ => 0) 0 (tkV tx L p)))
  cases hlg : legal u 5 (xu (fun _ => 0) 0 (tkV tx L p))
  · skip
    have zl : ¬ (u 2 (tkV tx L p) ≠ 0) := of_decide_eq_false hlg
    rw [hlg] at es ts fs
    cases bs
    · obtain ⟨e, he, hE⟩ := fs rfl
      refine ⟨false, Ts, ?_, FM_t (FM_t FM_r fm1) fms, ?_⟩
      · rw [nB_f] at es
        simp (disch := omega) only [f_X9_readsAbandon, f_X9_sizesAt, e1, y0, z0, q2, i_oT, es, xl_s, ob_s, xb_s, rd_n, wr_n, m_1, m_1b, nI_add, pk_mul, l_0, l_1, l_2, l_3, l_4, l_5, l_6, l_7, l_8, l_9, l_10, l_11, l_12, l_13, l_14, l_15, l_16, l_17, l_18, l_19, l_20, l_21, l_22, l_23, l_24, l_30, l_31, l_32, l_40, l_41, l_48, l_57, l_59, l_64, l_90, l_97, l_99, l_100, l_119, l_122, l_186, l_200, l_255, l_600, l_999, l_1488, l_1000000, nB_t, nB_f, z10, if_true, if_false, xz_b, eq_self]
      · rw [hfin]
        rcases he with ⟨rfl, he⟩ | ⟨rfl, he, -⟩
        · rw [fin, if_neg he]; exact ⟨rfl, hE⟩
        · rw [fin, if_pos he, if_neg (by rw [hlg]; decide)]; exact ⟨rfl, hE⟩
    · exact absurd (ts rfl).2.1 (by decide)
  · skip
    have zl : u 2 (tkV tx L p) ≠ 0 := of_decide_eq_true hlg
    rw [hlg] at es ts fs
    cases bs
    · obtain ⟨e, he, hE⟩ := fs rfl
      refine ⟨false, Ts, ?_, FM_t (FM_t FM_r fm1) fms, ?_⟩
      · rw [nB_t] at es
        simp (disch := omega) only [f_X9_readsAbandon, f_X9_sizesAt, e1, y0, z0, q2, i_oF, es, xl_s, ob_s, xb_s, rd_n, wr_n, m_1, m_1b, nI_add, pk_mul, l_0, l_1, l_2, l_3, l_4, l_5, l_6, l_7, l_8, l_9, l_10, l_11, l_12, l_13, l_14, l_15, l_16, l_17, l_18, l_19, l_20, l_21, l_22, l_23, l_24, l_30, l_31, l_32, l_40, l_41, l_48, l_57, l_59, l_64, l_90, l_97, l_99, l_100, l_119, l_122, l_186, l_200, l_255, l_600, l_999, l_1488, l_1000000, nB_t, nB_f, z10, if_true, if_false, xz_b, eq_self]
      · rw [hfin]
        rcases he with ⟨rfl, he⟩ | ⟨rfl, he, hx⟩
        · rw [fin, if_neg he]; exact ⟨rfl, hE⟩
        · cases hx
    · obtain ⟨h5, -, hT⟩ := ts rfl
      subst hT
      obtain ⟨To, o1, o2, o3⟩ := km_rel (T := Ts) hA1.1.2.2.2.2 w g1
      refine ⟨true, To, ?_, FM_op (FM_t FM_r fm1) o3, ?_⟩
      · rw [nB_t] at es
        simp (disch := omega) only [f_X9_readsAbandon, f_X9_sizesAt, e1, y0, z0, q2, i_oF, es, o1, xl_s, ob_s, xb_s, rd_n, wr_n, m_1, m_1b, nI_add, pk_mul, l_0, l_1, l_2, l_3, l_4, l_5, l_6, l_7, l_8, l_9, l_10, l_11, l_12, l_13, l_14, l_15, l_16, l_17, l_18, l_19, l_20, l_21, l_22, l_23, l_24, l_30, l_31, l_32, l_40, l_41, l_48, l_57, l_59, l_64, l_90, l_97, l_99, l_100, l_119, l_122, l_186, l_200, l_255, l_600, l_999, l_1488, l_1000000, nB_t, nB_f, z10, if_true, if_false, xz_b, eq_self]
      · rw [hfin, fin, if_pos h5, if_pos hlg]
        exact ⟨rfl, BM_op hA1 rfl o2 o3⟩
theorem km_c6 (h6 : L ≤ 600) (hB : ∀ i, tx i < 256) (hp : p ≤ L) (h : AM tx L p r u T) (w : WF u) (hn : u 0 13 ≤ 999) : ∃ b T', f_X9_readsChase T = some (nB b, T') ∧ FM T T' ∧ OM tx L r b T' (cmdO tx L u 6 p) := by
  have b0 : u 0 0 ≤ 10 ∧ u 0 3 ≤ 20 ∧ u 0 7 ≤ 8 := by obtain ⟨hB, w0, w3, w7, wN, wk, wg, wc, wd, wo, wv⟩ := w; exact ⟨w0, w3, w7⟩
  have hc0 : cmdO tx L u 6 p = rdn tx L u 6 (fin tx L u 6) 2 0 p (fun _ => 0) := rfl
  obtain ⟨b1, T1, e1, fm1, t1, f1⟩ := km_catAt (j := 0) (x := (fun _ => 0)) h6 hB hp h w (by decide)
  cases b1
  · obtain ⟨e, he, hE⟩ := f1 rfl
    refine ⟨false, T1, ?_, (FM_t FM_r fm1), ?_⟩
    · simp (disch := omega) only [f_X9_readsChase, f_X9_sizesAt, e1, xl_s, ob_s, xb_s, rd_n, wr_n, m_1, m_1b, nI_add, pk_mul, l_0, l_1, l_2, l_3, l_4, l_5, l_6, l_7, l_8, l_9, l_10, l_11, l_12, l_13, l_14, l_15, l_16, l_17, l_18, l_19, l_20, l_21, l_22, l_23, l_24, l_30, l_31, l_32, l_40, l_41, l_48, l_57, l_59, l_64, l_90, l_97, l_99, l_100, l_119, l_122, l_186, l_200, l_255, l_600, l_999, l_1488, l_1000000, nB_t, nB_f, z10, if_true, if_false, xz_b, eq_self]
    · rw [hc0]
      rcases he with ⟨rfl, he⟩ | ⟨rfl, he, hl⟩
      · rw [rdn_1 he]; exact ⟨rfl, hE⟩
      · rw [rdn_2 he (show lt u (fun _ => 0) ((ll 6).getD 0 0) (tkV tx L p) = false from hl)]; exact ⟨rfl, hE⟩
  obtain ⟨hk1, hl1, hA1, hp1, hq1, hv1⟩ := t1 rfl
  have v9_1 := (tkV_le (tx := tx) hp hk1).2.1
  have hc1 : cmdO tx L u 6 p = rdn tx L u 6 (fin tx L u 6) 1 1 (tkE tx L p) (xu (fun _ => 0) 0 (tkV tx L p)) := hc0.trans (rdn_y hk1 (show lt u (fun _ => 0) ((ll 6).getD 0 0) (tkV tx L p) = true from hl1))
  have mz : T1 1 2 = nI (u 0 7) := hA1.1.2.2.2.2.2.2.1
  obtain ⟨b2, T2, e2, fm2, t2, f2⟩ := km_another (c := 67) (x := (xu (fun _ => 0) 0 (tkV tx L p))) (n := u 0 7) h6 hB hq1 hA1 (by omega) (by rw [hv1]; exact if_pos rfl) v9_1 (fun v => rfl)
  cases b2
  · obtain ⟨e, he, hE⟩ := f2 rfl
    refine ⟨false, T2, ?_, (FM_t (FM_t FM_r fm1) fm2), ?_⟩
    · simp (disch := omega) only [f_X9_readsChase, f_X9_sizesAt, e1, mz, e2, xl_s, ob_s, xb_s, rd_n, wr_n, m_1, m_1b, nI_add, pk_mul, l_0, l_1, l_2, l_3, l_4, l_5, l_6, l_7, l_8, l_9, l_10, l_11, l_12, l_13, l_14, l_15, l_16, l_17, l_18, l_19, l_20, l_21, l_22, l_23, l_24, l_30, l_31, l_32, l_40, l_41, l_48, l_57, l_59, l_64, l_90, l_97, l_99, l_100, l_119, l_122, l_186, l_200, l_255, l_600, l_999, l_1488, l_1000000, nB_t, nB_f, z10, if_true, if_false, xz_b, eq_self]
    · rw [hc1]
      rcases he with ⟨rfl, he⟩ | ⟨rfl, he, hl⟩
      · rw [rdn_1 he]; exact ⟨rfl, hE⟩
      · rw [rdn_2 he (show lt u (xu (fun _ => 0) 0 (tkV tx L p)) ((ll 6).getD 1 0) (tkV tx L (tkE tx L p)) = false from hl)]; exact ⟨rfl, hE⟩
  obtain ⟨hk2, hl2, hA2, hp2, hq2, hv2⟩ := t2 rfl
  have v9_2 := (tkV_le (tx := tx) hq1 hk2).2.1
  have hc2 : cmdO tx L u 6 p = rdn tx L u 6 (fin tx L u 6) 0 2 (tkE tx L (tkE tx L p)) (xu (xu (fun _ => 0) 0 (tkV tx L p)) 1 (tkV tx L (tkE tx L p))) := hc1.trans (rdn_y hk2 (show lt u (xu (fun _ => 0) 0 (tkV tx L p)) ((ll 6).getD 1 0) (tkV tx L (tkE tx L p)) = true from hl2))
  have z0 : T2 10 0 = nI (tkV tx L p) := by
    rw [hv2, if_neg (by decide), hv1, if_pos rfl]
  have y0 : xrd (nI 0) 4 (T2 10) = some (nI (tkV tx L p)) := by rw [rd_n (by decide) (by decide), z0]
  have z1 : T2 10 1 = nI (tkV tx L (tkE tx L p)) := by
    rw [hv2, if_pos rfl]
  have y1 : xrd (nI 1) 4 (T2 10) = some (nI (tkV tx L (tkE tx L p))) := by rw [rd_n (by decide) (by decide), z1]
  have g1 := of_decide_eq_true hl1
  have g2 := of_decide_eq_true hl2
  have q2 := km_chase (T := T2) hA2.1.2.2.2.2 w g1 g2.1
  have q3 := qchase_le u (tkV tx L p) (tkV tx L (tkE tx L p))
  have hfin : cmdO tx L u 6 p = fin tx L u 6 (tkE tx L (tkE tx L p)) (xu (xu (fun _ => 0) 0 (tkV tx L p)) 1 (tkV tx L (tkE tx L p))) := hc2
  obtain ⟨bs, Ts, es, fms, ts, fs⟩ := km_stops hA2 (legal u 6 (xu (xu (fun _ => 0) 0 (tkV tx L p)) 1 (tkV tx L (tkE tx L p))))
  cases hlg : legal u 6 (xu (xu (fun _ => 0) 0 (tkV tx L p)) 1 (tkV tx L (tkE tx L p)))
  · skip
    have zl : ¬ (qchase u (tkV tx L p) (tkV tx L (tkE tx L p)) = 0) := of_decide_eq_false hlg
    rw [hlg] at es ts fs
    cases bs
    · obtain ⟨e, he, hE⟩ := fs rfl
      refine ⟨false, Ts, ?_, FM_t (FM_t (FM_t FM_r fm1) fm2) fms, ?_⟩
      · rw [nB_f] at es
        simp (disch := omega) only [f_X9_readsChase, f_X9_sizesAt, e1, mz, e2, y0, y1, z0, z1, q2, i_eqF, es, xl_s, ob_s, xb_s, rd_n, wr_n, m_1, m_1b, nI_add, pk_mul, l_0, l_1, l_2, l_3, l_4, l_5, l_6, l_7, l_8, l_9, l_10, l_11, l_12, l_13, l_14, l_15, l_16, l_17, l_18, l_19, l_20, l_21, l_22, l_23, l_24, l_30, l_31, l_32, l_40, l_41, l_48, l_57, l_59, l_64, l_90, l_97, l_99, l_100, l_119, l_122, l_186, l_200, l_255, l_600, l_999, l_1488, l_1000000, nB_t, nB_f, z10, if_true, if_false, xz_b, eq_self]
      · rw [hfin]
        rcases he with ⟨rfl, he⟩ | ⟨rfl, he, -⟩
        · rw [fin, if_neg he]; exact ⟨rfl, hE⟩
        · rw [fin, if_pos he, if_neg (by rw [hlg]; decide)]; exact ⟨rfl, hE⟩
    · exact absurd (ts rfl).2.1 (by decide)
  · skip
    have zl : qchase u (tkV tx L p) (tkV tx L (tkE tx L p)) = 0 := of_decide_eq_true hlg
    rw [hlg] at es ts fs
    cases bs
    · obtain ⟨e, he, hE⟩ := fs rfl
      refine ⟨false, Ts, ?_, FM_t (FM_t (FM_t FM_r fm1) fm2) fms, ?_⟩
      · rw [nB_t] at es
        simp (disch := omega) only [f_X9_readsChase, f_X9_sizesAt, e1, mz, e2, y0, y1, z0, z1, q2, zl, es, xl_s, ob_s, xb_s, rd_n, wr_n, m_1, m_1b, nI_add, pk_mul, l_0, l_1, l_2, l_3, l_4, l_5, l_6, l_7, l_8, l_9, l_10, l_11, l_12, l_13, l_14, l_15, l_16, l_17, l_18, l_19, l_20, l_21, l_22, l_23, l_24, l_30, l_31, l_32, l_40, l_41, l_48, l_57, l_59, l_64, l_90, l_97, l_99, l_100, l_119, l_122, l_186, l_200, l_255, l_600, l_999, l_1488, l_1000000, nB_t, nB_f, z10, if_true, if_false, xz_b, eq_self]
      · rw [hfin]
        rcases he with ⟨rfl, he⟩ | ⟨rfl, he, hx⟩
        · rw [fin, if_neg he]; exact ⟨rfl, hE⟩
        · cases hx
    · obtain ⟨h5, -, hT⟩ := ts rfl
      subst hT
      obtain ⟨To, o1, o2, o3⟩ := km_drive (T := Ts) hA2.1.2.2.2.2 w g1 g2.1 (fun q => g2.2 q.symm)
      refine ⟨true, To, ?_, FM_op (FM_t (FM_t FM_r fm1) fm2) o3, ?_⟩
      · rw [nB_t] at es
        simp (disch := omega) only [f_X9_readsChase, f_X9_sizesAt, e1, mz, e2, y0, y1, z0, z1, q2, zl, es, o1, xl_s, ob_s, xb_s, rd_n, wr_n, m_1, m_1b, nI_add, pk_mul, l_0, l_1, l_2, l_3, l_4, l_5, l_6, l_7, l_8, l_9, l_10, l_11, l_12, l_13, l_14, l_15, l_16, l_17, l_18, l_19, l_20, l_21, l_22, l_23, l_24, l_30, l_31, l_32, l_40, l_41, l_48, l_57, l_59, l_64, l_90, l_97, l_99, l_100, l_119, l_122, l_186, l_200, l_255, l_600, l_999, l_1488, l_1000000, nB_t, nB_f, z10, if_true, if_false, xz_b, eq_self]
      · rw [hfin, fin, if_pos h5, if_pos hlg]
        exact ⟨rfl, BM_op hA2 rfl o2 o3⟩
theorem km_c7 (h6 : L ≤ 600) (hB : ∀ i, tx i < 256) (hp : p ≤ L) (h : AM tx L p r u T) (w : WF u) (hn : u 0 13 ≤ 999) : ∃ b T', f_X9_readsTruce T = some (nB b, T') ∧ FM T T' ∧ OM tx L r b T' (cmdO tx L u 7 p) := by
  have b0 : u 0 0 ≤ 10 ∧ u 0 3 ≤ 20 ∧ u 0 7 ≤ 8 := by obtain ⟨hB, w0, w3, w7, wN, wk, wg, wc, wd, wo, wv⟩ := w; exact ⟨w0, w3, w7⟩
  have hc0 : cmdO tx L u 7 p = rdn tx L u 7 (fin tx L u 7) 4 0 p (fun _ => 0) := rfl
  obtain ⟨b1, T1, e1, fm1, t1, f1⟩ := km_catAt (j := 0) (x := (fun _ => 0)) h6 hB hp h w (by decide)
  cases b1
  · obtain ⟨e, he, hE⟩ := f1 rfl
    refine ⟨false, T1, ?_, (FM_t FM_r fm1), ?_⟩
    · simp (disch := omega) only [f_X9_readsTruce, f_X9_sizesAt, e1, xl_s, ob_s, xb_s, rd_n, wr_n, m_1, m_1b, nI_add, pk_mul, l_0, l_1, l_2, l_3, l_4, l_5, l_6, l_7, l_8, l_9, l_10, l_11, l_12, l_13, l_14, l_15, l_16, l_17, l_18, l_19, l_20, l_21, l_22, l_23, l_24, l_30, l_31, l_32, l_40, l_41, l_48, l_57, l_59, l_64, l_90, l_97, l_99, l_100, l_119, l_122, l_186, l_200, l_255, l_600, l_999, l_1488, l_1000000, nB_t, nB_f, z10, if_true, if_false, xz_b, eq_self]
    · rw [hc0]
      rcases he with ⟨rfl, he⟩ | ⟨rfl, he, hl⟩
      · rw [rdn_1 he]; exact ⟨rfl, hE⟩
      · rw [rdn_2 he (show lt u (fun _ => 0) ((ll 7).getD 0 0) (tkV tx L p) = false from hl)]; exact ⟨rfl, hE⟩
  obtain ⟨hk1, hl1, hA1, hp1, hq1, hv1⟩ := t1 rfl
  have v9_1 := (tkV_le (tx := tx) hp hk1).2.1
  have hc1 : cmdO tx L u 7 p = rdn tx L u 7 (fin tx L u 7) 3 1 (tkE tx L p) (xu (fun _ => 0) 0 (tkV tx L p)) := hc0.trans (rdn_y hk1 (show lt u (fun _ => 0) ((ll 7).getD 0 0) (tkV tx L p) = true from hl1))
  have mz : T1 1 2 = nI (u 0 7) := hA1.1.2.2.2.2.2.2.1
  obtain ⟨b2, T2, e2, fm2, t2, f2⟩ := km_another (c := 67) (x := (xu (fun _ => 0) 0 (tkV tx L p))) (n := u 0 7) h6 hB hq1 hA1 (by omega) (by rw [hv1]; exact if_pos rfl) v9_1 (fun v => rfl)
  cases b2
  · obtain ⟨e, he, hE⟩ := f2 rfl
    refine ⟨false, T2, ?_, (FM_t (FM_t FM_r fm1) fm2), ?_⟩
    · simp (disch := omega) only [f_X9_readsTruce, f_X9_sizesAt, e1, mz, e2, xl_s, ob_s, xb_s, rd_n, wr_n, m_1, m_1b, nI_add, pk_mul, l_0, l_1, l_2, l_3, l_4, l_5, l_6, l_7, l_8, l_9, l_10, l_11, l_12, l_13, l_14, l_15, l_16, l_17, l_18, l_19, l_20, l_21, l_22, l_23, l_24, l_30, l_31, l_32, l_40, l_41, l_48, l_57, l_59, l_64, l_90, l_97, l_99, l_100, l_119, l_122, l_186, l_200, l_255, l_600, l_999, l_1488, l_1000000, nB_t, nB_f, z10, if_true, if_false, xz_b, eq_self]
    · rw [hc1]
      rcases he with ⟨rfl, he⟩ | ⟨rfl, he, hl⟩
      · rw [rdn_1 he]; exact ⟨rfl, hE⟩
      · rw [rdn_2 he (show lt u (xu (fun _ => 0) 0 (tkV tx L p)) ((ll 7).getD 1 0) (tkV tx L (tkE tx L p)) = false from hl)]; exact ⟨rfl, hE⟩
  obtain ⟨hk2, hl2, hA2, hp2, hq2, hv2⟩ := t2 rfl
  have v9_2 := (tkV_le (tx := tx) hq1 hk2).2.1
  have hc2 : cmdO tx L u 7 p = rdn tx L u 7 (fin tx L u 7) 2 2 (tkE tx L (tkE tx L p)) (xu (xu (fun _ => 0) 0 (tkV tx L p)) 1 (tkV tx L (tkE tx L p))) := hc1.trans (rdn_y hk2 (show lt u (xu (fun _ => 0) 0 (tkV tx L p)) ((ll 7).getD 1 0) (tkV tx L (tkE tx L p)) = true from hl2))
  obtain ⟨b3, T3, e3, fm3, t3, f3⟩ := km_number (c := 102) (j := 2) (x := (xu (xu (fun _ => 0) 0 (tkV tx L p)) 1 (tkV tx L (tkE tx L p)))) (lo := nI 1) (hi := nI 9) h6 hB hq2 hA2 (fun _ hv => by rw [in_rg hv (by decide) (by decide)]; rfl) (by decide)
  cases b3
  · obtain ⟨e, he, hE⟩ := f3 rfl
    refine ⟨false, T3, ?_, (FM_t (FM_t (FM_t FM_r fm1) fm2) fm3), ?_⟩
    · simp (disch := omega) only [f_X9_readsTruce, f_X9_sizesAt, e1, mz, e2, e3, xl_s, ob_s, xb_s, rd_n, wr_n, m_1, m_1b, nI_add, pk_mul, l_0, l_1, l_2, l_3, l_4, l_5, l_6, l_7, l_8, l_9, l_10, l_11, l_12, l_13, l_14, l_15, l_16, l_17, l_18, l_19, l_20, l_21, l_22, l_23, l_24, l_30, l_31, l_32, l_40, l_41, l_48, l_57, l_59, l_64, l_90, l_97, l_99, l_100, l_119, l_122, l_186, l_200, l_255, l_600, l_999, l_1488, l_1000000, nB_t, nB_f, z10, if_true, if_false, xz_b, eq_self]
    · rw [hc2]
      rcases he with ⟨rfl, he⟩ | ⟨rfl, he, hl⟩
      · rw [rdn_1 he]; exact ⟨rfl, hE⟩
      · rw [rdn_2 he (show lt u (xu (xu (fun _ => 0) 0 (tkV tx L p)) 1 (tkV tx L (tkE tx L p))) ((ll 7).getD 2 0) (tkV tx L (tkE tx L (tkE tx L p))) = false from hl)]; exact ⟨rfl, hE⟩
  obtain ⟨hk3, hl3, hA3, hp3, hq3, hv3⟩ := t3 rfl
  have v9_3 := (tkV_le (tx := tx) hq2 hk3).2.1
  have hc3 : cmdO tx L u 7 p = rdn tx L u 7 (fin tx L u 7) 1 3 (tkE tx L (tkE tx L (tkE tx L p))) (xu (xu (xu (fun _ => 0) 0 (tkV tx L p)) 1 (tkV tx L (tkE tx L p))) 2 (tkV tx L (tkE tx L (tkE tx L p)))) := hc2.trans (rdn_y hk3 (show lt u (xu (xu (fun _ => 0) 0 (tkV tx L p)) 1 (tkV tx L (tkE tx L p))) ((ll 7).getD 2 0) (tkV tx L (tkE tx L (tkE tx L p))) = true from hl3))
  obtain ⟨b4, T4, e4, fm4, t4, f4⟩ := km_number (c := 116) (j := 3) (x := (xu (xu (xu (fun _ => 0) 0 (tkV tx L p)) 1 (tkV tx L (tkE tx L p))) 2 (tkV tx L (tkE tx L (tkE tx L p))))) (lo := nI 1) (hi := nI 20) h6 hB hq3 hA3 (fun _ hv => by rw [in_rg hv (by decide) (by decide)]; rfl) (by decide)
  cases b4
  · obtain ⟨e, he, hE⟩ := f4 rfl
    refine ⟨false, T4, ?_, (FM_t (FM_t (FM_t (FM_t FM_r fm1) fm2) fm3) fm4), ?_⟩
    · simp (disch := omega) only [f_X9_readsTruce, f_X9_sizesAt, e1, mz, e2, e3, e4, xl_s, ob_s, xb_s, rd_n, wr_n, m_1, m_1b, nI_add, pk_mul, l_0, l_1, l_2, l_3, l_4, l_5, l_6, l_7, l_8, l_9, l_10, l_11, l_12, l_13, l_14, l_15, l_16, l_17, l_18, l_19, l_20, l_21, l_22, l_23, l_24, l_30, l_31, l_32, l_40, l_41, l_48, l_57, l_59, l_64, l_90, l_97, l_99, l_100, l_119, l_122, l_186, l_200, l_255, l_600, l_999, l_1488, l_1000000, nB_t, nB_f, z10, if_true, if_false, xz_b, eq_self]
    · rw [hc3]
      rcases he with ⟨rfl, he⟩ | ⟨rfl, he, hl⟩
      · rw [rdn_1 he]; exact ⟨rfl, hE⟩
      · rw [rdn_2 he (show lt u (xu (xu (xu (fun _ => 0) 0 (tkV tx L p)) 1 (tkV tx L (tkE tx L p))) 2 (tkV tx L (tkE tx L (tkE tx L p)))) ((ll 7).getD 3 0) (tkV tx L (tkE tx L (tkE tx L (tkE tx L p)))) = false from hl)]; exact ⟨rfl, hE⟩
  obtain ⟨hk4, hl4, hA4, hp4, hq4, hv4⟩ := t4 rfl
  have v9_4 := (tkV_le (tx := tx) hq3 hk4).2.1
  have hc4 : cmdO tx L u 7 p = rdn tx L u 7 (fin tx L u 7) 0 4 (tkE tx L (tkE tx L (tkE tx L (tkE tx L p)))) (xu (xu (xu (xu (fun _ => 0) 0 (tkV tx L p)) 1 (tkV tx L (tkE tx L p))) 2 (tkV tx L (tkE tx L (tkE tx L p)))) 3 (tkV tx L (tkE tx L (tkE tx L (tkE tx L p))))) := hc3.trans (rdn_y hk4 (show lt u (xu (xu (xu (fun _ => 0) 0 (tkV tx L p)) 1 (tkV tx L (tkE tx L p))) 2 (tkV tx L (tkE tx L (tkE tx L p)))) ((ll 7).getD 3 0) (tkV tx L (tkE tx L (tkE tx L (tkE tx L p)))) = true from hl4))
  have z0 : T4 10 0 = nI (tkV tx L p) := by
    rw [hv4, if_neg (by decide), hv3, if_neg (by decide), hv2, if_neg (by decide), hv1, if_pos rfl]
  have y0 : xrd (nI 0) 4 (T4 10) = some (nI (tkV tx L p)) := by rw [rd_n (by decide) (by decide), z0]
  have z1 : T4 10 1 = nI (tkV tx L (tkE tx L p)) := by
    rw [hv4, if_neg (by decide), hv3, if_neg (by decide), hv2, if_pos rfl]
  have y1 : xrd (nI 1) 4 (T4 10) = some (nI (tkV tx L (tkE tx L p))) := by rw [rd_n (by decide) (by decide), z1]
  have z2 : T4 10 2 = nI (tkV tx L (tkE tx L (tkE tx L p))) := by
    rw [hv4, if_neg (by decide), hv3, if_pos rfl]
  have y2 : xrd (nI 2) 4 (T4 10) = some (nI (tkV tx L (tkE tx L (tkE tx L p)))) := by rw [rd_n (by decide) (by decide), z2]
  have z3 : T4 10 3 = nI (tkV tx L (tkE tx L (tkE tx L (tkE tx L p)))) := by
    rw [hv4, if_pos rfl]
  have y3 : xrd (nI 3) 4 (T4 10) = some (nI (tkV tx L (tkE tx L (tkE tx L (tkE tx L p))))) := by rw [rd_n (by decide) (by decide), z3]
  have g1 := of_decide_eq_true hl1
  have g2 := of_decide_eq_true hl2
  have g3 := of_decide_eq_true hl3
  have g4 := of_decide_eq_true hl4
  have q2 := km_canBuy (T := T4) hA4.1.2.2.2.2 w g1 g2.1 (f := (tkV tx L (tkE tx L (tkE tx L p)))) (by omega)
  have hfin : cmdO tx L u 7 p = fin tx L u 7 (tkE tx L (tkE tx L (tkE tx L (tkE tx L p)))) (xu (xu (xu (xu (fun _ => 0) 0 (tkV tx L p)) 1 (tkV tx L (tkE tx L p))) 2 (tkV tx L (tkE tx L (tkE tx L p)))) 3 (tkV tx L (tkE tx L (tkE tx L (tkE tx L p))))) := hc4
  obtain ⟨bs, Ts, es, fms, ts, fs⟩ := km_stops hA4 (legal u 7 (xu (xu (xu (xu (fun _ => 0) 0 (tkV tx L p)) 1 (tkV tx L (tkE tx L p))) 2 (tkV tx L (tkE tx L (tkE tx L p)))) 3 (tkV tx L (tkE tx L (tkE tx L (tkE tx L p))))))
  cases hlg : legal u 7 (xu (xu (xu (xu (fun _ => 0) 0 (tkV tx L p)) 1 (tkV tx L (tkE tx L p))) 2 (tkV tx L (tkE tx L (tkE tx L p)))) 3 (tkV tx L (tkE tx L (tkE tx L (tkE tx L p)))))
  · skip
    have zl : qbuy u (tkV tx L p) (tkV tx L (tkE tx L p)) (tkV tx L (tkE tx L (tkE tx L p))) = false := hlg
    rw [hlg] at es ts fs
    cases bs
    · obtain ⟨e, he, hE⟩ := fs rfl
      refine ⟨false, Ts, ?_, FM_t (FM_t (FM_t (FM_t (FM_t FM_r fm1) fm2) fm3) fm4) fms, ?_⟩
      · rw [nB_f] at es
        simp (disch := omega) only [f_X9_readsTruce, f_X9_sizesAt, e1, mz, e2, e3, e4, y0, y1, y2, y3, z0, z1, z2, z3, q2, zl, es, xl_s, ob_s, xb_s, rd_n, wr_n, m_1, m_1b, nI_add, pk_mul, l_0, l_1, l_2, l_3, l_4, l_5, l_6, l_7, l_8, l_9, l_10, l_11, l_12, l_13, l_14, l_15, l_16, l_17, l_18, l_19, l_20, l_21, l_22, l_23, l_24, l_30, l_31, l_32, l_40, l_41, l_48, l_57, l_59, l_64, l_90, l_97, l_99, l_100, l_119, l_122, l_186, l_200, l_255, l_600, l_999, l_1488, l_1000000, nB_t, nB_f, z10, if_true, if_false, xz_b, eq_self]
      · rw [hfin]
        rcases he with ⟨rfl, he⟩ | ⟨rfl, he, -⟩
        · rw [fin, if_neg he]; exact ⟨rfl, hE⟩
        · rw [fin, if_pos he, if_neg (by rw [hlg]; decide)]; exact ⟨rfl, hE⟩
    · exact absurd (ts rfl).2.1 (by decide)
  · skip
    have zl : qbuy u (tkV tx L p) (tkV tx L (tkE tx L p)) (tkV tx L (tkE tx L (tkE tx L p))) = true := hlg
    rw [hlg] at es ts fs
    cases bs
    · obtain ⟨e, he, hE⟩ := fs rfl
      refine ⟨false, Ts, ?_, FM_t (FM_t (FM_t (FM_t (FM_t FM_r fm1) fm2) fm3) fm4) fms, ?_⟩
      · rw [nB_t] at es
        simp (disch := omega) only [f_X9_readsTruce, f_X9_sizesAt, e1, mz, e2, e3, e4, y0, y1, y2, y3, z0, z1, z2, z3, q2, zl, es, xl_s, ob_s, xb_s, rd_n, wr_n, m_1, m_1b, nI_add, pk_mul, l_0, l_1, l_2, l_3, l_4, l_5, l_6, l_7, l_8, l_9, l_10, l_11, l_12, l_13, l_14, l_15, l_16, l_17, l_18, l_19, l_20, l_21, l_22, l_23, l_24, l_30, l_31, l_32, l_40, l_41, l_48, l_57, l_59, l_64, l_90, l_97, l_99, l_100, l_119, l_122, l_186, l_200, l_255, l_600, l_999, l_1488, l_1000000, nB_t, nB_f, z10, if_true, if_false, xz_b, eq_self]
      · rw [hfin]
        rcases he with ⟨rfl, he⟩ | ⟨rfl, he, hx⟩
        · rw [fin, if_neg he]; exact ⟨rfl, hE⟩
        · cases hx
    · obtain ⟨h5, -, hT⟩ := ts rfl
      subst hT
      obtain ⟨To, o1, o2, o3⟩ := km_agree (T := Ts) hA4.1.2.2.2.2 w g1 g2.1 (fun q => g2.2 q.symm) (f := (tkV tx L (tkE tx L (tkE tx L p)))) (n := (tkV tx L (tkE tx L (tkE tx L (tkE tx L p))))) zl
      refine ⟨true, To, ?_, FM_op (FM_t (FM_t (FM_t (FM_t FM_r fm1) fm2) fm3) fm4) o3, ?_⟩
      · rw [nB_t] at es
        simp (disch := omega) only [f_X9_readsTruce, f_X9_sizesAt, e1, mz, e2, e3, e4, y0, y1, y2, y3, z0, z1, z2, z3, q2, zl, es, o1, xl_s, ob_s, xb_s, rd_n, wr_n, m_1, m_1b, nI_add, pk_mul, l_0, l_1, l_2, l_3, l_4, l_5, l_6, l_7, l_8, l_9, l_10, l_11, l_12, l_13, l_14, l_15, l_16, l_17, l_18, l_19, l_20, l_21, l_22, l_23, l_24, l_30, l_31, l_32, l_40, l_41, l_48, l_57, l_59, l_64, l_90, l_97, l_99, l_100, l_119, l_122, l_186, l_200, l_255, l_600, l_999, l_1488, l_1000000, nB_t, nB_f, z10, if_true, if_false, xz_b, eq_self]
      · rw [hfin, fin, if_pos h5, if_pos hlg]
        exact ⟨rfl, BM_op hA4 rfl o2 o3⟩
theorem km_c8 (h6 : L ≤ 600) (hB : ∀ i, tx i < 256) (hp : p ≤ L) (h : AM tx L p r u T) (w : WF u) (hn : u 0 13 ≤ 999) : ∃ b T', f_X9_readsKitten T = some (nB b, T') ∧ FM T T' ∧ OM tx L r b T' (cmdO tx L u 8 p) := by
  have b0 : u 0 0 ≤ 10 ∧ u 0 3 ≤ 20 ∧ u 0 7 ≤ 8 := by obtain ⟨hB, w0, w3, w7, wN, wk, wg, wc, wd, wo, wv⟩ := w; exact ⟨w0, w3, w7⟩
  have hc0 : cmdO tx L u 8 p = rdn tx L u 8 (fin tx L u 8) 2 0 p (fun _ => 0) := rfl
  obtain ⟨b1, T1, e1, fm1, t1, f1⟩ := km_number (c := 115) (j := 0) (x := (fun _ => 0)) (lo := nI 1) (hi := nI 9) h6 hB hp h (fun _ hv => by rw [in_rg hv (by decide) (by decide)]; rfl) (by decide)
  cases b1
  · obtain ⟨e, he, hE⟩ := f1 rfl
    refine ⟨false, T1, ?_, (FM_t FM_r fm1), ?_⟩
    · simp (disch := omega) only [f_X9_readsKitten, f_X9_sizesAt, e1, xl_s, ob_s, xb_s, rd_n, wr_n, m_1, m_1b, nI_add, pk_mul, l_0, l_1, l_2, l_3, l_4, l_5, l_6, l_7, l_8, l_9, l_10, l_11, l_12, l_13, l_14, l_15, l_16, l_17, l_18, l_19, l_20, l_21, l_22, l_23, l_24, l_30, l_31, l_32, l_40, l_41, l_48, l_57, l_59, l_64, l_90, l_97, l_99, l_100, l_119, l_122, l_186, l_200, l_255, l_600, l_999, l_1488, l_1000000, nB_t, nB_f, z10, if_true, if_false, xz_b, eq_self]
    · rw [hc0]
      rcases he with ⟨rfl, he⟩ | ⟨rfl, he, hl⟩
      · rw [rdn_1 he]; exact ⟨rfl, hE⟩
      · rw [rdn_2 he (show lt u (fun _ => 0) ((ll 8).getD 0 0) (tkV tx L p) = false from hl)]; exact ⟨rfl, hE⟩
  obtain ⟨hk1, hl1, hA1, hp1, hq1, hv1⟩ := t1 rfl
  have v9_1 := (tkV_le (tx := tx) hp hk1).2.1
  have hc1 : cmdO tx L u 8 p = rdn tx L u 8 (fin tx L u 8) 1 1 (tkE tx L p) (xu (fun _ => 0) 0 (tkV tx L p)) := hc0.trans (rdn_y hk1 (show lt u (fun _ => 0) ((ll 8).getD 0 0) (tkV tx L p) = true from hl1))
  obtain ⟨b2, T2, e2, fm2, t2, f2⟩ := km_number (c := 115) (j := 1) (x := (xu (fun _ => 0) 0 (tkV tx L p))) (lo := nI 1) (hi := nI 9) h6 hB hq1 hA1 (fun _ hv => by rw [in_rg hv (by decide) (by decide)]; rfl) (by decide)
  cases b2
  · obtain ⟨e, he, hE⟩ := f2 rfl
    refine ⟨false, T2, ?_, (FM_t (FM_t FM_r fm1) fm2), ?_⟩
    · simp (disch := omega) only [f_X9_readsKitten, f_X9_sizesAt, e1, e2, xl_s, ob_s, xb_s, rd_n, wr_n, m_1, m_1b, nI_add, pk_mul, l_0, l_1, l_2, l_3, l_4, l_5, l_6, l_7, l_8, l_9, l_10, l_11, l_12, l_13, l_14, l_15, l_16, l_17, l_18, l_19, l_20, l_21, l_22, l_23, l_24, l_30, l_31, l_32, l_40, l_41, l_48, l_57, l_59, l_64, l_90, l_97, l_99, l_100, l_119, l_122, l_186, l_200, l_255, l_600, l_999, l_1488, l_1000000, nB_t, nB_f, z10, if_true, if_false, xz_b, eq_self]
    · rw [hc1]
      rcases he with ⟨rfl, he⟩ | ⟨rfl, he, hl⟩
      · rw [rdn_1 he]; exact ⟨rfl, hE⟩
      · rw [rdn_2 he (show lt u (xu (fun _ => 0) 0 (tkV tx L p)) ((ll 8).getD 1 0) (tkV tx L (tkE tx L p)) = false from hl)]; exact ⟨rfl, hE⟩
  obtain ⟨hk2, hl2, hA2, hp2, hq2, hv2⟩ := t2 rfl
  have v9_2 := (tkV_le (tx := tx) hq1 hk2).2.1
  have hc2 : cmdO tx L u 8 p = rdn tx L u 8 (fin tx L u 8) 0 2 (tkE tx L (tkE tx L p)) (xu (xu (fun _ => 0) 0 (tkV tx L p)) 1 (tkV tx L (tkE tx L p))) := hc1.trans (rdn_y hk2 (show lt u (xu (fun _ => 0) 0 (tkV tx L p)) ((ll 8).getD 1 0) (tkV tx L (tkE tx L p)) = true from hl2))
  have z0 : T2 10 0 = nI (tkV tx L p) := by
    rw [hv2, if_neg (by decide), hv1, if_pos rfl]
  have y0 : xrd (nI 0) 4 (T2 10) = some (nI (tkV tx L p)) := by rw [rd_n (by decide) (by decide), z0]
  have z1 : T2 10 1 = nI (tkV tx L (tkE tx L p)) := by
    rw [hv2, if_pos rfl]
  have y1 : xrd (nI 1) 4 (T2 10) = some (nI (tkV tx L (tkE tx L p))) := by rw [rd_n (by decide) (by decide), z1]
  have g1 := of_decide_eq_true hl1
  have g2 := of_decide_eq_true hl2
  have q2 := km_canNom (T := T2) hA2.1.2.2.2.2 w
  have hfin : cmdO tx L u 8 p = fin tx L u 8 (tkE tx L (tkE tx L p)) (xu (xu (fun _ => 0) 0 (tkV tx L p)) 1 (tkV tx L (tkE tx L p))) := hc2
  obtain ⟨bs, Ts, es, fms, ts, fs⟩ := km_stops hA2 (legal u 8 (xu (xu (fun _ => 0) 0 (tkV tx L p)) 1 (tkV tx L (tkE tx L p))))
  cases hlg : legal u 8 (xu (xu (fun _ => 0) 0 (tkV tx L p)) 1 (tkV tx L (tkE tx L p)))
  · skip
    have zl : qnom u = false := hlg
    rw [hlg] at es ts fs
    cases bs
    · obtain ⟨e, he, hE⟩ := fs rfl
      refine ⟨false, Ts, ?_, FM_t (FM_t (FM_t FM_r fm1) fm2) fms, ?_⟩
      · rw [nB_f] at es
        simp (disch := omega) only [f_X9_readsKitten, f_X9_sizesAt, e1, e2, y0, y1, z0, z1, q2, zl, es, xl_s, ob_s, xb_s, rd_n, wr_n, m_1, m_1b, nI_add, pk_mul, l_0, l_1, l_2, l_3, l_4, l_5, l_6, l_7, l_8, l_9, l_10, l_11, l_12, l_13, l_14, l_15, l_16, l_17, l_18, l_19, l_20, l_21, l_22, l_23, l_24, l_30, l_31, l_32, l_40, l_41, l_48, l_57, l_59, l_64, l_90, l_97, l_99, l_100, l_119, l_122, l_186, l_200, l_255, l_600, l_999, l_1488, l_1000000, nB_t, nB_f, z10, if_true, if_false, xz_b, eq_self]
      · rw [hfin]
        rcases he with ⟨rfl, he⟩ | ⟨rfl, he, -⟩
        · rw [fin, if_neg he]; exact ⟨rfl, hE⟩
        · rw [fin, if_pos he, if_neg (by rw [hlg]; decide)]; exact ⟨rfl, hE⟩
    · exact absurd (ts rfl).2.1 (by decide)
  · skip
    have zl : qnom u = true := hlg
    rw [hlg] at es ts fs
    cases bs
    · obtain ⟨e, he, hE⟩ := fs rfl
      refine ⟨false, Ts, ?_, FM_t (FM_t (FM_t FM_r fm1) fm2) fms, ?_⟩
      · rw [nB_t] at es
        simp (disch := omega) only [f_X9_readsKitten, f_X9_sizesAt, e1, e2, y0, y1, z0, z1, q2, zl, es, xl_s, ob_s, xb_s, rd_n, wr_n, m_1, m_1b, nI_add, pk_mul, l_0, l_1, l_2, l_3, l_4, l_5, l_6, l_7, l_8, l_9, l_10, l_11, l_12, l_13, l_14, l_15, l_16, l_17, l_18, l_19, l_20, l_21, l_22, l_23, l_24, l_30, l_31, l_32, l_40, l_41, l_48, l_57, l_59, l_64, l_90, l_97, l_99, l_100, l_119, l_122, l_186, l_200, l_255, l_600, l_999, l_1488, l_1000000, nB_t, nB_f, z10, if_true, if_false, xz_b, eq_self]
      · rw [hfin]
        rcases he with ⟨rfl, he⟩ | ⟨rfl, he, hx⟩
        · rw [fin, if_neg he]; exact ⟨rfl, hE⟩
        · cases hx
    · obtain ⟨h5, -, hT⟩ := ts rfl
      subst hT
      obtain ⟨To, o1, o2, o3⟩ := km_nom (T := Ts) hA2.1.2.2.2.2 (a := (tkV tx L p)) (b := (tkV tx L (tkE tx L p)))
      refine ⟨true, To, ?_, FM_op (FM_t (FM_t FM_r fm1) fm2) o3, ?_⟩
      · rw [nB_t] at es
        simp (disch := omega) only [f_X9_readsKitten, f_X9_sizesAt, e1, e2, y0, y1, z0, z1, q2, zl, es, o1, xl_s, ob_s, xb_s, rd_n, wr_n, m_1, m_1b, nI_add, pk_mul, l_0, l_1, l_2, l_3, l_4, l_5, l_6, l_7, l_8, l_9, l_10, l_11, l_12, l_13, l_14, l_15, l_16, l_17, l_18, l_19, l_20, l_21, l_22, l_23, l_24, l_30, l_31, l_32, l_40, l_41, l_48, l_57, l_59, l_64, l_90, l_97, l_99, l_100, l_119, l_122, l_186, l_200, l_255, l_600, l_999, l_1488, l_1000000, nB_t, nB_f, z10, if_true, if_false, xz_b, eq_self]
      · rw [hfin, fin, if_pos h5, if_pos hlg]
        exact ⟨rfl, BM_op hA2 rfl o2 o3⟩
theorem km_c9 (h6 : L ≤ 600) (hB : ∀ i, tx i < 256) (hp : p ≤ L) (h : AM tx L p r u T) (w : WF u) (hn : u 0 13 ≤ 999) : ∃ b T', f_X9_readsVote T (nI 1) = some (nB b, T') ∧ FM T T' ∧ OM tx L r b T' (cmdO tx L u 9 p) := by
  have b0 : u 0 0 ≤ 10 ∧ u 0 3 ≤ 20 ∧ u 0 7 ≤ 8 := by obtain ⟨hB, w0, w3, w7, wN, wk, wg, wc, wd, wo, wv⟩ := w; exact ⟨w0, w3, w7⟩
  have hc0 : cmdO tx L u 9 p = rdn tx L u 9 (fin tx L u 9) 1 0 p (fun _ => 0) := rfl
  obtain ⟨b1, T1, e1, fm1, t1, f1⟩ := km_catAt (j := 0) (x := (fun _ => 0)) h6 hB hp h w (by decide)
  cases b1
  · obtain ⟨e, he, hE⟩ := f1 rfl
    refine ⟨false, T1, ?_, (FM_t FM_r fm1), ?_⟩
    · simp (disch := omega) only [f_X9_readsVote, f_X9_sizesAt, e1, xl_s, ob_s, xb_s, rd_n, wr_n, m_1, m_1b, nI_add, pk_mul, l_0, l_1, l_2, l_3, l_4, l_5, l_6, l_7, l_8, l_9, l_10, l_11, l_12, l_13, l_14, l_15, l_16, l_17, l_18, l_19, l_20, l_21, l_22, l_23, l_24, l_30, l_31, l_32, l_40, l_41, l_48, l_57, l_59, l_64, l_90, l_97, l_99, l_100, l_119, l_122, l_186, l_200, l_255, l_600, l_999, l_1488, l_1000000, nB_t, nB_f, z10, if_true, if_false, xz_b, eq_self]
    · rw [hc0]
      rcases he with ⟨rfl, he⟩ | ⟨rfl, he, hl⟩
      · rw [rdn_1 he]; exact ⟨rfl, hE⟩
      · rw [rdn_2 he (show lt u (fun _ => 0) ((ll 9).getD 0 0) (tkV tx L p) = false from hl)]; exact ⟨rfl, hE⟩
  obtain ⟨hk1, hl1, hA1, hp1, hq1, hv1⟩ := t1 rfl
  have v9_1 := (tkV_le (tx := tx) hp hk1).2.1
  have hc1 : cmdO tx L u 9 p = rdn tx L u 9 (fin tx L u 9) 0 1 (tkE tx L p) (xu (fun _ => 0) 0 (tkV tx L p)) := hc0.trans (rdn_y hk1 (show lt u (fun _ => 0) ((ll 9).getD 0 0) (tkV tx L p) = true from hl1))
  have z0 : T1 10 0 = nI (tkV tx L p) := by
    rw [hv1, if_pos rfl]
  have y0 : xrd (nI 0) 4 (T1 10) = some (nI (tkV tx L p)) := by rw [rd_n (by decide) (by decide), z0]
  have g1 := of_decide_eq_true hl1
  have g1b : (tkV tx L p) < u 0 7 := g1
  have q2 := km_canVote (T := T1) hA1.1.2.2.2.2 w (c := (tkV tx L p)) (by omega)
  have hfin : cmdO tx L u 9 p = fin tx L u 9 (tkE tx L p) (xu (fun _ => 0) 0 (tkV tx L p)) := hc1
  obtain ⟨bs, Ts, es, fms, ts, fs⟩ := km_stops hA1 (legal u 9 (xu (fun _ => 0) 0 (tkV tx L p)))
  cases hlg : legal u 9 (xu (fun _ => 0) 0 (tkV tx L p))
  · skip
    have zl : qvot u (tkV tx L p) = false := hlg
    rw [hlg] at es ts fs
    cases bs
    · obtain ⟨e, he, hE⟩ := fs rfl
      refine ⟨false, Ts, ?_, FM_t (FM_t FM_r fm1) fms, ?_⟩
      · rw [nB_f] at es
        simp (disch := omega) only [f_X9_readsVote, f_X9_sizesAt, e1, y0, z0, q2, zl, es, xl_s, ob_s, xb_s, rd_n, wr_n, m_1, m_1b, nI_add, pk_mul, l_0, l_1, l_2, l_3, l_4, l_5, l_6, l_7, l_8, l_9, l_10, l_11, l_12, l_13, l_14, l_15, l_16, l_17, l_18, l_19, l_20, l_21, l_22, l_23, l_24, l_30, l_31, l_32, l_40, l_41, l_48, l_57, l_59, l_64, l_90, l_97, l_99, l_100, l_119, l_122, l_186, l_200, l_255, l_600, l_999, l_1488, l_1000000, nB_t, nB_f, z10, if_true, if_false, xz_b, eq_self]
      · rw [hfin]
        rcases he with ⟨rfl, he⟩ | ⟨rfl, he, -⟩
        · rw [fin, if_neg he]; exact ⟨rfl, hE⟩
        · rw [fin, if_pos he, if_neg (by rw [hlg]; decide)]; exact ⟨rfl, hE⟩
    · exact absurd (ts rfl).2.1 (by decide)
  · skip
    have zl : qvot u (tkV tx L p) = true := hlg
    rw [hlg] at es ts fs
    cases bs
    · obtain ⟨e, he, hE⟩ := fs rfl
      refine ⟨false, Ts, ?_, FM_t (FM_t FM_r fm1) fms, ?_⟩
      · rw [nB_t] at es
        simp (disch := omega) only [f_X9_readsVote, f_X9_sizesAt, e1, y0, z0, q2, zl, es, xl_s, ob_s, xb_s, rd_n, wr_n, m_1, m_1b, nI_add, pk_mul, l_0, l_1, l_2, l_3, l_4, l_5, l_6, l_7, l_8, l_9, l_10, l_11, l_12, l_13, l_14, l_15, l_16, l_17, l_18, l_19, l_20, l_21, l_22, l_23, l_24, l_30, l_31, l_32, l_40, l_41, l_48, l_57, l_59, l_64, l_90, l_97, l_99, l_100, l_119, l_122, l_186, l_200, l_255, l_600, l_999, l_1488, l_1000000, nB_t, nB_f, z10, if_true, if_false, xz_b, eq_self]
      · rw [hfin]
        rcases he with ⟨rfl, he⟩ | ⟨rfl, he, hx⟩
        · rw [fin, if_neg he]; exact ⟨rfl, hE⟩
        · cases hx
    · obtain ⟨h5, -, hT⟩ := ts rfl
      subst hT
      obtain ⟨To, o1, o2, o3⟩ := km_vote (T := Ts) hA1.1.2.2.2.2 w g1 zl true
      rw [nB_t] at o1
      refine ⟨true, To, ?_, FM_op (FM_t FM_r fm1) o3, ?_⟩
      · rw [nB_t] at es
        simp (disch := omega) only [f_X9_readsVote, f_X9_sizesAt, e1, y0, z0, q2, zl, es, o1, xl_s, ob_s, xb_s, rd_n, wr_n, m_1, m_1b, nI_add, pk_mul, l_0, l_1, l_2, l_3, l_4, l_5, l_6, l_7, l_8, l_9, l_10, l_11, l_12, l_13, l_14, l_15, l_16, l_17, l_18, l_19, l_20, l_21, l_22, l_23, l_24, l_30, l_31, l_32, l_40, l_41, l_48, l_57, l_59, l_64, l_90, l_97, l_99, l_100, l_119, l_122, l_186, l_200, l_255, l_600, l_999, l_1488, l_1000000, nB_t, nB_f, z10, if_true, if_false, xz_b, eq_self]
      · rw [hfin, fin, if_pos h5, if_pos hlg]
        exact ⟨rfl, BM_op hA1 rfl o2 o3⟩
theorem km_c10 (h6 : L ≤ 600) (hB : ∀ i, tx i < 256) (hp : p ≤ L) (h : AM tx L p r u T) (w : WF u) (hn : u 0 13 ≤ 999) : ∃ b T', f_X9_readsVote T (nI 0) = some (nB b, T') ∧ FM T T' ∧ OM tx L r b T' (cmdO tx L u 10 p) := by
  have b0 : u 0 0 ≤ 10 ∧ u 0 3 ≤ 20 ∧ u 0 7 ≤ 8 := by obtain ⟨hB, w0, w3, w7, wN, wk, wg, wc, wd, wo, wv⟩ := w; exact ⟨w0, w3, w7⟩
  have hc0 : cmdO tx L u 10 p = rdn tx L u 10 (fin tx L u 10) 1 0 p (fun _ => 0) := rfl
  obtain ⟨b1, T1, e1, fm1, t1, f1⟩ := km_catAt (j := 0) (x := (fun _ => 0)) h6 hB hp h w (by decide)
  cases b1
  · obtain ⟨e, he, hE⟩ := f1 rfl
    refine ⟨false, T1, ?_, (FM_t FM_r fm1), ?_⟩
    · simp (disch := omega) only [f_X9_readsVote, f_X9_sizesAt, e1, xl_s, ob_s, xb_s, rd_n, wr_n, m_1, m_1b, nI_add, pk_mul, l_0, l_1, l_2, l_3, l_4, l_5, l_6, l_7, l_8, l_9, l_10, l_11, l_12, l_13, l_14, l_15, l_16, l_17, l_18, l_19, l_20, l_21, l_22, l_23, l_24, l_30, l_31, l_32, l_40, l_41, l_48, l_57, l_59, l_64, l_90, l_97, l_99, l_100, l_119, l_122, l_186, l_200, l_255, l_600, l_999, l_1488, l_1000000, nB_t, nB_f, z10, if_true, if_false, xz_b, eq_self]
    · rw [hc0]
      rcases he with ⟨rfl, he⟩ | ⟨rfl, he, hl⟩
      · rw [rdn_1 he]; exact ⟨rfl, hE⟩
      · rw [rdn_2 he (show lt u (fun _ => 0) ((ll 10).getD 0 0) (tkV tx L p) = false from hl)]; exact ⟨rfl, hE⟩
  obtain ⟨hk1, hl1, hA1, hp1, hq1, hv1⟩ := t1 rfl
  have v9_1 := (tkV_le (tx := tx) hp hk1).2.1
  have hc1 : cmdO tx L u 10 p = rdn tx L u 10 (fin tx L u 10) 0 1 (tkE tx L p) (xu (fun _ => 0) 0 (tkV tx L p)) := hc0.trans (rdn_y hk1 (show lt u (fun _ => 0) ((ll 10).getD 0 0) (tkV tx L p) = true from hl1))
  have z0 : T1 10 0 = nI (tkV tx L p) := by
    rw [hv1, if_pos rfl]
  have y0 : xrd (nI 0) 4 (T1 10) = some (nI (tkV tx L p)) := by rw [rd_n (by decide) (by decide), z0]
  have g1 := of_decide_eq_true hl1
  have g1b : (tkV tx L p) < u 0 7 := g1
  have q2 := km_canVote (T := T1) hA1.1.2.2.2.2 w (c := (tkV tx L p)) (by omega)
  have hfin : cmdO tx L u 10 p = fin tx L u 10 (tkE tx L p) (xu (fun _ => 0) 0 (tkV tx L p)) := hc1
  obtain ⟨bs, Ts, es, fms, ts, fs⟩ := km_stops hA1 (legal u 10 (xu (fun _ => 0) 0 (tkV tx L p)))
  cases hlg : legal u 10 (xu (fun _ => 0) 0 (tkV tx L p))
  · skip
    have zl : qvot u (tkV tx L p) = false := hlg
    rw [hlg] at es ts fs
    cases bs
    · obtain ⟨e, he, hE⟩ := fs rfl
      refine ⟨false, Ts, ?_, FM_t (FM_t FM_r fm1) fms, ?_⟩
      · rw [nB_f] at es
        simp (disch := omega) only [f_X9_readsVote, f_X9_sizesAt, e1, y0, z0, q2, zl, es, xl_s, ob_s, xb_s, rd_n, wr_n, m_1, m_1b, nI_add, pk_mul, l_0, l_1, l_2, l_3, l_4, l_5, l_6, l_7, l_8, l_9, l_10, l_11, l_12, l_13, l_14, l_15, l_16, l_17, l_18, l_19, l_20, l_21, l_22, l_23, l_24, l_30, l_31, l_32, l_40, l_41, l_48, l_57, l_59, l_64, l_90, l_97, l_99, l_100, l_119, l_122, l_186, l_200, l_255, l_600, l_999, l_1488, l_1000000, nB_t, nB_f, z10, if_true, if_false, xz_b, eq_self]
      · rw [hfin]
        rcases he with ⟨rfl, he⟩ | ⟨rfl, he, -⟩
        · rw [fin, if_neg he]; exact ⟨rfl, hE⟩
        · rw [fin, if_pos he, if_neg (by rw [hlg]; decide)]; exact ⟨rfl, hE⟩
    · exact absurd (ts rfl).2.1 (by decide)
  · skip
    have zl : qvot u (tkV tx L p) = true := hlg
    rw [hlg] at es ts fs
    cases bs
    · obtain ⟨e, he, hE⟩ := fs rfl
      refine ⟨false, Ts, ?_, FM_t (FM_t FM_r fm1) fms, ?_⟩
      · rw [nB_t] at es
        simp (disch := omega) only [f_X9_readsVote, f_X9_sizesAt, e1, y0, z0, q2, zl, es, xl_s, ob_s, xb_s, rd_n, wr_n, m_1, m_1b, nI_add, pk_mul, l_0, l_1, l_2, l_3, l_4, l_5, l_6, l_7, l_8, l_9, l_10, l_11, l_12, l_13, l_14, l_15, l_16, l_17, l_18, l_19, l_20, l_21, l_22, l_23, l_24, l_30, l_31, l_32, l_40, l_41, l_48, l_57, l_59, l_64, l_90, l_97, l_99, l_100, l_119, l_122, l_186, l_200, l_255, l_600, l_999, l_1488, l_1000000, nB_t, nB_f, z10, if_true, if_false, xz_b, eq_self]
      · rw [hfin]
        rcases he with ⟨rfl, he⟩ | ⟨rfl, he, hx⟩
        · rw [fin, if_neg he]; exact ⟨rfl, hE⟩
        · cases hx
    · obtain ⟨h5, -, hT⟩ := ts rfl
      subst hT
      obtain ⟨To, o1, o2, o3⟩ := km_vote (T := Ts) hA1.1.2.2.2.2 w g1 zl false
      rw [nB_f] at o1
      refine ⟨true, To, ?_, FM_op (FM_t FM_r fm1) o3, ?_⟩
      · rw [nB_t] at es
        simp (disch := omega) only [f_X9_readsVote, f_X9_sizesAt, e1, y0, z0, q2, zl, es, o1, xl_s, ob_s, xb_s, rd_n, wr_n, m_1, m_1b, nI_add, pk_mul, l_0, l_1, l_2, l_3, l_4, l_5, l_6, l_7, l_8, l_9, l_10, l_11, l_12, l_13, l_14, l_15, l_16, l_17, l_18, l_19, l_20, l_21, l_22, l_23, l_24, l_30, l_31, l_32, l_40, l_41, l_48, l_57, l_59, l_64, l_90, l_97, l_99, l_100, l_119, l_122, l_186, l_200, l_255, l_600, l_999, l_1488, l_1000000, nB_t, nB_f, z10, if_true, if_false, xz_b, eq_self]
      · rw [hfin, fin, if_pos h5, if_pos hlg]
        exact ⟨rfl, BM_op hA1 rfl o2 o3⟩
theorem km_c11 (h6 : L ≤ 600) (hB : ∀ i, tx i < 256) (hp : p ≤ L) (h : AM tx L p r u T) (w : WF u) (hn : u 0 13 ≤ 999) : ∃ b T', f_X9_readsNights T = some (nB b, T') ∧ FM T T' ∧ OM tx L r b T' (cmdO tx L u 11 p) := by
  have b0 : u 0 0 ≤ 10 ∧ u 0 3 ≤ 20 ∧ u 0 7 ≤ 8 := by obtain ⟨hB, w0, w3, w7, wN, wk, wg, wc, wd, wo, wv⟩ := w; exact ⟨w0, w3, w7⟩
  have hc0 : cmdO tx L u 11 p = rdn tx L u 11 (fin tx L u 11) 1 0 p (fun _ => 0) := rfl
  obtain ⟨b1, T1, e1, fm1, t1, f1⟩ := km_number (c := 110) (j := 0) (x := (fun _ => 0)) (lo := nI 1) (hi := nI 30) h6 hB hp h (fun _ hv => by rw [in_rg hv (by decide) (by decide)]; rfl) (by decide)
  cases b1
  · obtain ⟨e, he, hE⟩ := f1 rfl
    refine ⟨false, T1, ?_, (FM_t FM_r fm1), ?_⟩
    · simp (disch := omega) only [f_X9_readsNights, f_X9_sizesAt, e1, xl_s, ob_s, xb_s, rd_n, wr_n, m_1, m_1b, nI_add, pk_mul, l_0, l_1, l_2, l_3, l_4, l_5, l_6, l_7, l_8, l_9, l_10, l_11, l_12, l_13, l_14, l_15, l_16, l_17, l_18, l_19, l_20, l_21, l_22, l_23, l_24, l_30, l_31, l_32, l_40, l_41, l_48, l_57, l_59, l_64, l_90, l_97, l_99, l_100, l_119, l_122, l_186, l_200, l_255, l_600, l_999, l_1488, l_1000000, nB_t, nB_f, z10, if_true, if_false, xz_b, eq_self]
    · rw [hc0]
      rcases he with ⟨rfl, he⟩ | ⟨rfl, he, hl⟩
      · rw [rdn_1 he]; exact ⟨rfl, hE⟩
      · rw [rdn_2 he (show lt u (fun _ => 0) ((ll 11).getD 0 0) (tkV tx L p) = false from hl)]; exact ⟨rfl, hE⟩
  obtain ⟨hk1, hl1, hA1, hp1, hq1, hv1⟩ := t1 rfl
  have v9_1 := (tkV_le (tx := tx) hp hk1).2.1
  have hc1 : cmdO tx L u 11 p = rdn tx L u 11 (fin tx L u 11) 0 1 (tkE tx L p) (xu (fun _ => 0) 0 (tkV tx L p)) := hc0.trans (rdn_y hk1 (show lt u (fun _ => 0) ((ll 11).getD 0 0) (tkV tx L p) = true from hl1))
  have z0 : T1 10 0 = nI (tkV tx L p) := by
    rw [hv1, if_pos rfl]
  have y0 : xrd (nI 0) 4 (T1 10) = some (nI (tkV tx L p)) := by rw [rd_n (by decide) (by decide), z0]
  have g1 := of_decide_eq_true hl1
  have m0 : T1 1 3 = nI (u 0 13) := hA1.1.2.2.2.2.2.2.2.1
  have hfin : cmdO tx L u 11 p = fin tx L u 11 (tkE tx L p) (xu (fun _ => 0) 0 (tkV tx L p)) := hc1
  obtain ⟨bs, Ts, es, fms, ts, fs⟩ := km_stops hA1 (legal u 11 (xu (fun _ => 0) 0 (tkV tx L p)))
  cases hlg : legal u 11 (xu (fun _ => 0) 0 (tkV tx L p))
  · skip
    have zl : ¬ (u 0 13 + (tkV tx L p) ≤ 999) := of_decide_eq_false hlg
    rw [hlg] at es ts fs
    cases bs
    · obtain ⟨e, he, hE⟩ := fs rfl
      refine ⟨false, Ts, ?_, FM_t (FM_t FM_r fm1) fms, ?_⟩
      · rw [nB_f] at es
        simp (disch := omega) only [f_X9_readsNights, f_X9_sizesAt, e1, y0, z0, m0, i_ltT, es, xl_s, ob_s, xb_s, rd_n, wr_n, m_1, m_1b, nI_add, pk_mul, l_0, l_1, l_2, l_3, l_4, l_5, l_6, l_7, l_8, l_9, l_10, l_11, l_12, l_13, l_14, l_15, l_16, l_17, l_18, l_19, l_20, l_21, l_22, l_23, l_24, l_30, l_31, l_32, l_40, l_41, l_48, l_57, l_59, l_64, l_90, l_97, l_99, l_100, l_119, l_122, l_186, l_200, l_255, l_600, l_999, l_1488, l_1000000, nB_t, nB_f, z10, if_true, if_false, xz_b, eq_self]
      · rw [hfin]
        rcases he with ⟨rfl, he⟩ | ⟨rfl, he, -⟩
        · rw [fin, if_neg he]; exact ⟨rfl, hE⟩
        · rw [fin, if_pos he, if_neg (by rw [hlg]; decide)]; exact ⟨rfl, hE⟩
    · exact absurd (ts rfl).2.1 (by decide)
  · skip
    have zl : u 0 13 + (tkV tx L p) ≤ 999 := of_decide_eq_true hlg
    rw [hlg] at es ts fs
    cases bs
    · obtain ⟨e, he, hE⟩ := fs rfl
      refine ⟨false, Ts, ?_, FM_t (FM_t FM_r fm1) fms, ?_⟩
      · rw [nB_t] at es
        simp (disch := omega) only [f_X9_readsNights, f_X9_sizesAt, e1, y0, z0, m0, i_ltF, es, xl_s, ob_s, xb_s, rd_n, wr_n, m_1, m_1b, nI_add, pk_mul, l_0, l_1, l_2, l_3, l_4, l_5, l_6, l_7, l_8, l_9, l_10, l_11, l_12, l_13, l_14, l_15, l_16, l_17, l_18, l_19, l_20, l_21, l_22, l_23, l_24, l_30, l_31, l_32, l_40, l_41, l_48, l_57, l_59, l_64, l_90, l_97, l_99, l_100, l_119, l_122, l_186, l_200, l_255, l_600, l_999, l_1488, l_1000000, nB_t, nB_f, z10, if_true, if_false, xz_b, eq_self]
      · rw [hfin]
        rcases he with ⟨rfl, he⟩ | ⟨rfl, he, hx⟩
        · rw [fin, if_neg he]; exact ⟨rfl, hE⟩
        · cases hx
    · obtain ⟨h5, -, hT⟩ := ts rfl
      subst hT
      obtain ⟨To, o1, o2, o3⟩ := km_passes (T := Ts) hA1.1.2.2.2.2 w (N := (tkV tx L p)) (by omega) (by omega)
      refine ⟨true, To, ?_, FM_op (FM_t FM_r fm1) o3, ?_⟩
      · rw [nB_t] at es
        simp (disch := omega) only [f_X9_readsNights, f_X9_sizesAt, e1, y0, z0, m0, i_ltF, es, o1, xl_s, ob_s, xb_s, rd_n, wr_n, m_1, m_1b, nI_add, pk_mul, l_0, l_1, l_2, l_3, l_4, l_5, l_6, l_7, l_8, l_9, l_10, l_11, l_12, l_13, l_14, l_15, l_16, l_17, l_18, l_19, l_20, l_21, l_22, l_23, l_24, l_30, l_31, l_32, l_40, l_41, l_48, l_57, l_59, l_64, l_90, l_97, l_99, l_100, l_119, l_122, l_186, l_200, l_255, l_600, l_999, l_1488, l_1000000, nB_t, nB_f, z10, if_true, if_false, xz_b, eq_self]
      · rw [hfin, fin, if_pos h5, if_pos hlg]
        exact ⟨rfl, BM_op hA1 rfl o2 o3⟩
theorem km_readsWord (hk : k < 12) (h6 : L ≤ 600) (hB : ∀ i, tx i < 256) (hp : p ≤ L) (h : AM tx L p r u T) (w : WF u) (hn : u 0 13 ≤ 999) : ∃ b T', f_X9_readsWord T (nI k) = some (nB b, T') ∧ FM T T' ∧ OM tx L r b T' (cmdO tx L u k p) := by
  have h12 : k = 0 ∨ k = 1 ∨ k = 2 ∨ k = 3 ∨ k = 4 ∨ k = 5 ∨ k = 6 ∨ k = 7 ∨ k = 8 ∨ k = 9 ∨ k = 10 ∨ k = 11 := by omega
  rcases h12 with rfl | rfl | rfl | rfl | rfl | rfl | rfl | rfl | rfl | rfl | rfl | rfl
  · obtain ⟨b, T', e1, e2⟩ := km_c0 h6 hB hp h w hn
    refine ⟨b, T', ?_, e2⟩
    rw [f_X9_readsWord, if_pos (by decide)]
    simp only [l_0, l_1, e1, xb_s, xz_b, ob_s]
  · obtain ⟨b, T', e1, e2⟩ := km_c1 h6 hB hp h w hn
    refine ⟨b, T', ?_, e2⟩
    rw [f_X9_readsWord, if_neg (by decide), if_pos (by decide)]
    simp only [l_0, l_1, e1, xb_s, xz_b, ob_s]
  · obtain ⟨b, T', e1, e2⟩ := km_c2 h6 hB hp h w hn
    refine ⟨b, T', ?_, e2⟩
    rw [f_X9_readsWord, if_neg (by decide), if_neg (by decide), if_pos (by decide)]
    simp only [l_0, l_1, e1, xb_s, xz_b, ob_s]
  · obtain ⟨b, T', e1, e2⟩ := km_c3 h6 hB hp h w hn
    refine ⟨b, T', ?_, e2⟩
    rw [f_X9_readsWord, if_neg (by decide), if_neg (by decide), if_neg (by decide), if_pos (by decide)]
    simp only [l_0, l_1, e1, xb_s, xz_b, ob_s]
  · obtain ⟨b, T', e1, e2⟩ := km_c4 h6 hB hp h w hn
    refine ⟨b, T', ?_, e2⟩
    rw [f_X9_readsWord, if_neg (by decide), if_neg (by decide), if_neg (by decide), if_neg (by decide), if_pos (by decide)]
    simp only [l_0, l_1, e1, xb_s, xz_b, ob_s]
  · obtain ⟨b, T', e1, e2⟩ := km_c5 h6 hB hp h w hn
    refine ⟨b, T', ?_, e2⟩
    rw [f_X9_readsWord, if_neg (by decide), if_neg (by decide), if_neg (by decide), if_neg (by decide), if_neg (by decide), if_pos (by decide)]
    simp only [l_0, l_1, e1, xb_s, xz_b, ob_s]
  · obtain ⟨b, T', e1, e2⟩ := km_c6 h6 hB hp h w hn
    refine ⟨b, T', ?_, e2⟩
    rw [f_X9_readsWord, if_neg (by decide), if_neg (by decide), if_neg (by decide), if_neg (by decide), if_neg (by decide), if_neg (by decide), if_pos (by decide)]
    simp only [l_0, l_1, e1, xb_s, xz_b, ob_s]
  · obtain ⟨b, T', e1, e2⟩ := km_c7 h6 hB hp h w hn
    refine ⟨b, T', ?_, e2⟩
    rw [f_X9_readsWord, if_neg (by decide), if_neg (by decide), if_neg (by decide), if_neg (by decide), if_neg (by decide), if_neg (by decide), if_neg (by decide), if_pos (by decide)]
    simp only [l_0, l_1, e1, xb_s, xz_b, ob_s]
  · obtain ⟨b, T', e1, e2⟩ := km_c8 h6 hB hp h w hn
    refine ⟨b, T', ?_, e2⟩
    rw [f_X9_readsWord, if_neg (by decide), if_neg (by decide), if_neg (by decide), if_neg (by decide), if_neg (by decide), if_neg (by decide), if_neg (by decide), if_neg (by decide), if_pos (by decide)]
    simp only [l_0, l_1, e1, xb_s, xz_b, ob_s]
  · obtain ⟨b, T', e1, e2⟩ := km_c9 h6 hB hp h w hn
    refine ⟨b, T', ?_, e2⟩
    rw [f_X9_readsWord, if_neg (by decide), if_neg (by decide), if_neg (by decide), if_neg (by decide), if_neg (by decide), if_neg (by decide), if_neg (by decide), if_neg (by decide), if_neg (by decide), if_pos (by decide)]
    simp only [l_0, l_1, e1, xb_s, xz_b, ob_s]
  · obtain ⟨b, T', e1, e2⟩ := km_c10 h6 hB hp h w hn
    refine ⟨b, T', ?_, e2⟩
    rw [f_X9_readsWord, if_neg (by decide), if_neg (by decide), if_neg (by decide), if_neg (by decide), if_neg (by decide), if_neg (by decide), if_neg (by decide), if_neg (by decide), if_neg (by decide), if_neg (by decide), if_pos (by decide)]
    simp only [l_0, l_1, e1, xb_s, xz_b, ob_s]
  · obtain ⟨b, T', e1, e2⟩ := km_c11 h6 hB hp h w hn
    refine ⟨b, T', ?_, e2⟩
    rw [f_X9_readsWord, if_neg (by decide), if_neg (by decide), if_neg (by decide), if_neg (by decide), if_neg (by decide), if_neg (by decide), if_neg (by decide), if_neg (by decide), if_neg (by decide), if_neg (by decide), if_neg (by decide)]
    simp only [l_0, l_1, e1, xb_s, xz_b, ob_s]
end
