/-! level 2: one statement of a script that is no repeat, on both sides -/
def MTf (tx : Nat → Nat) (L : Nat) : Nat → Nat → Nat → Nat → Prop
  | 0, _, _, _ => False
  | f + 1, l, p, q => if tkK tx L p = 4 then (if l = 0 then p = q else MTf tx L f (l - 1) (tkE tx L p) q) else if tkK tx L p = 3 then MTf tx L f (l + 1) (tkE tx L p) q else MTf tx L f l (tkE tx L p) q
/-- q is the place of the bracket that closes what stands open at p, l deeper ones aside -/
def MT (tx : Nat → Nat) (L l p q : Nat) : Prop := ∃ f, MTf tx L f l p q
/-- so many rounds of the class's loop lead from S to S' -/
def ST (c : Nat) (S S' : XS) : Prop := ∀ K f m, m + c ≤ 1000000 → f_X7_execute_L10 K (f + c) (nI m) S = f_X7_execute_L10 K f (nI (m + c)) S'
/-- what a statement comes to: an error, or the place behind it, the count and the roof -/
abbrev QO : Type := (Nat × Nat) ⊕ (Nat × Nat × QU)
def OC (tx : Nat → Nat) (L d : Nat) (S' : XS) : QO → Prop
  | .inl e => EC e.1 e.2 S'
  | .inr v => BC tx L v.1 v.2.1 d v.2.2 S'
def OT (tx : Nat → Nat) (L : Nat) (b : Bool) (T' : XS) : QO → Prop
  | .inl e => b = false ∧ EM e.1 e.2 T'
  | .inr v => b = true ∧ BM tx L v.1 v.2.1 v.2.2 T'
/-- the statement's tail in the class, its first token read -/
def tl (S1 : XS) : Option (Option Nat × XS) := (xbind2 (f_X7_commandHere S1) fun q2 S3 => (xopt q2 ((f_X7_fail S3 1).bind fun S5 => some (none, S5)) fun k4 => xif13 k4 (if k4 = 12 then ((f_X7_openRepeat S3).bind fun S11 => some (none, S11)) else (if (S3 0 6) < 200 then (xbind2 (f_X7_readNumbers S3 k4) fun v6 S7 => (if v6 = 0 then some (none, S7) else (xbind2 (f_X7_expect S7 5) fun v8 S9 => (if v8 = 0 then some (none, S9) else some ((some k4), S9))))) else ((f_X7_fail S3 5).bind fun S10 => some (none, S10))))))
section
variable {tx : Nat → Nat} {L p n d r k c j : Nat} {u : QU} {S S' T T' : XS} {x : Nat → Nat}
theorem MT_uf : ∀ {f f' l p q q' : Nat}, MTf tx L f l p q → MTf tx L f' l p q' → q = q' := by
  intro f
  induction f with
  | zero => intro f' l p q q' h _; exact h.elim
  | succ f ih =>
    intro f' l p q q' h g
    cases f' with
    | zero => exact g.elim
    | succ f' =>
      rw [MTf] at h g
      split at h
      · rename_i k4
        rw [if_pos k4] at g
        split at h
        · rename_i l0
          rw [if_pos l0] at g
          omega
        · rename_i l0
          rw [if_neg l0] at g
          exact ih h g
      · rename_i k4
        rw [if_neg k4] at g
        split at h
        · rename_i k3
          rw [if_pos k3] at g
          exact ih h g
        · rename_i k3
          rw [if_neg k3] at g
          exact ih h g
theorem MT_u {l q q' : Nat} (h : MT tx L l p q) (g : MT tx L l p q') : q = q' := by
  obtain ⟨f, h⟩ := h
  obtain ⟨f', g⟩ := g
  exact MT_uf h g
theorem MT_z (h : tkK tx L p = 4) : MT tx L 0 p p := ⟨1, by rw [MTf, if_pos h, if_pos rfl]⟩
theorem MT_c {l q : Nat} (h : tkK tx L p = 4) (g : MT tx L l (tkE tx L p) q) : MT tx L (l + 1) p q := by
  obtain ⟨f, g⟩ := g
  exact ⟨f + 1, by rw [MTf, if_pos h, if_neg (by omega)]; exact g⟩
theorem MT_o {l q : Nat} (h : tkK tx L p = 3) (g : MT tx L (l + 1) (tkE tx L p) q) : MT tx L l p q := by
  obtain ⟨f, g⟩ := g
  exact ⟨f + 1, by rw [MTf, if_neg (by omega), if_pos h]; exact g⟩
theorem MT_s {l q : Nat} (h3 : tkK tx L p ≠ 3) (h4 : tkK tx L p ≠ 4) (g : MT tx L l (tkE tx L p) q) : MT tx L l p q := by
  obtain ⟨f, g⟩ := g
  exact ⟨f + 1, by rw [MTf, if_neg h4, if_neg h3]; exact g⟩
theorem ST_t {c2 : Nat} {S2 : XS} (h1 : ST c S S') (h2 : ST c2 S' S2) : ST (c + c2) S S2 := fun K f m hm => by
  have e1 := h1 K (f + c2) m (by omega)
  have e2 := h2 K f (m + c) (by omega)
  rw [show f + (c + c2) = f + c2 + c by omega, e1, e2, Nat.add_assoc]
theorem ST_0 : ST 0 S S := fun _ _ _ _ => rfl
theorem ST_n (h5 : S 0 5 = nI 1) (h : f_X7_readStatement S = some (none, S')) : ST 1 S S' := fun K f m hm => by
  rw [f_X7_execute_L10]
  simp (disch := omega) only [xl_s, ob_s, xb_s, rd_n, wr_n, m_1, m_1b, nI_add, pk_mul, l_0, l_1, l_2, l_3, l_4, l_5, l_6, l_7, l_8, l_9, l_10, l_11, l_12, l_13, l_14, l_15, l_16, l_17, l_18, l_19, l_20, l_21, l_22, l_23, l_24, l_30, l_31, l_32, l_40, l_41, l_48, l_57, l_59, l_64, l_90, l_97, l_99, l_100, l_119, l_122, l_186, l_200, l_255, l_600, l_999, l_1488, l_1000000, i_leF, h5, z10, if_false, h, xopt]
theorem ST_f {S2 : XS} (hk : k < 13) (h5 : S 0 5 = nI 1) (h : f_X7_readStatement S = some (some k, S2)) (hr : f_X7_isRefused S2 k = some (nI 1)) (hf : f_X7_fail S2 (nI 3) = some S') : ST 1 S S' := fun K f m hm => by
  rw [f_X7_execute_L10]
  simp (disch := omega) only [xl_s, ob_s, xb_s, rd_n, wr_n, m_1, m_1b, nI_add, pk_mul, l_0, l_1, l_2, l_3, l_4, l_5, l_6, l_7, l_8, l_9, l_10, l_11, l_12, l_13, l_14, l_15, l_16, l_17, l_18, l_19, l_20, l_21, l_22, l_23, l_24, l_30, l_31, l_32, l_40, l_41, l_48, l_57, l_59, l_64, l_90, l_97, l_99, l_100, l_119, l_122, l_186, l_200, l_255, l_600, l_999, l_1488, l_1000000, i_leF, h5, z10, if_false, h, xopt, xif13, hr, hf]
  rw [if_pos hk]
theorem ST_a {S2 : XS} (hk : k < 13) (h5 : S 0 5 = nI 1) (h6 : S2 0 6 = nI n) (h : f_X7_readStatement S = some (some k, S2)) (hr : f_X7_isRefused S2 k = some (nI 0)) (hf : f_X7_apply (xput S2 0 6 (nI (n + 1))) k = some S') : ST 1 S S' := fun K f m hm => by
  rw [f_X7_execute_L10]
  simp (disch := omega) only [xl_s, ob_s, xb_s, rd_n, wr_n, m_1, m_1b, nI_add, pk_mul, l_0, l_1, l_2, l_3, l_4, l_5, l_6, l_7, l_8, l_9, l_10, l_11, l_12, l_13, l_14, l_15, l_16, l_17, l_18, l_19, l_20, l_21, l_22, l_23, l_24, l_30, l_31, l_32, l_40, l_41, l_48, l_57, l_59, l_64, l_90, l_97, l_99, l_100, l_119, l_122, l_186, l_200, l_255, l_600, l_999, l_1488, l_1000000, i_leF, h5, z10, if_false, h, xopt, xif13, hr, h6, hf, if_true]
  rw [if_pos hk]
theorem kc_tl (h6 : L ≤ 600) (hB : ∀ i, tx i < 256) (hp : p ≤ L) (h : BC tx L p n d u S) (hd : d ≤ 2) (h0 : d = 0 → tkK tx L p ≠ 0) (h4 : d ≠ 0 → tkK tx L p ≠ 4) : ∃ S1, f_X7_readStatement S = tl S1 ∧ DC tx L p n d u S1 ∧ ∀ a, a ≠ 1 → S1 a = S a := by
  obtain ⟨R, r1, r2, r3⟩ := kc_nx h6 hB hp h
  have hk := tkK_le (tx := tx) L p
  have k3 := r2.2.1
  have k7 : xm 1 2 S R 0 7 = nI d := r2.1.2.2.2.2.2.1
  refine ⟨xm 1 2 S R, ?_, r2, r3⟩
  rw [f_X7_readStatement]
  rw [r1, ob_s, xl_s, len_read, k3, k7]
  simp only [l_0, l_4]
  by_cases q0 : tkK tx L p = 0
  · have hd0 : d ≠ 0 := fun z => h0 z q0
    rw [i_eqT q0, i_eqF hd0 (by omega) (by decide), i_eqF (by omega) (by omega) (by decide)]
    rfl
  · rw [i_eqF q0 (by omega) (by decide)]
    by_cases q4 : tkK tx L p = 4
    · have hd0 : d = 0 := by
        by_cases z : d = 0
        · exact z
        · exact absurd q4 (h4 z)
      rw [i_eqT q4, i_leT (by omega) (by decide)]
      rfl
    · rw [i_eqF q4 (by omega) (by decide)]
      rfl
theorem kc_tl0 (h6 : L ≤ 600) (hB : ∀ i, tx i < 256) (hp : p ≤ L) (h : DC tx L p n d u S) (hq : qcm tx (tkK tx L p) (tkS tx L p) (tkE tx L p) = 0) : ∃ S', tl S = some (none, S') ∧ EC 1 (tkS tx L p) S' := by
  have hS := tkS_b (tx := tx) hp
  have hE := tkE_b (tx := tx) hp
  have hc := kc_here (S := S) h6 hB h.1.1.2.2 h.1.1.2.1 h.2.1 h.2.2.1 (tkK_le L p) hE.1 hE.2.1
  obtain ⟨S', s1, s2⟩ := kc_fail (S := S) 1 h.2.2.1
  refine ⟨S', ?_, s2⟩
  rw [tl, hc, hq]
  simp only [xl_s, ob_s, xb_s, rd_n, wr_n, m_1, m_1b, nI_add, pk_mul, l_0, l_1, l_2, l_3, l_4, l_5, l_6, l_7, l_8, l_9, l_10, l_11, l_12, l_13, l_14, l_15, l_16, l_17, l_18, l_19, l_20, l_21, l_22, l_23, l_24, l_30, l_31, l_32, l_40, l_41, l_48, l_57, l_59, l_64, l_90, l_97, l_99, l_100, l_119, l_122, l_186, l_200, l_255, l_600, l_999, l_1488, l_1000000, qco, if_true, xopt, s1]
theorem kc_here1 (h6 : L ≤ 600) (hB : ∀ i, tx i < 256) (hp : p ≤ L) (h : DC tx L p n d u S) (hq : qcm tx (tkK tx L p) (tkS tx L p) (tkE tx L p) = k + 1) : f_X7_commandHere S = some (some k, S) := by
  have hE := tkE_b (tx := tx) hp
  have hc := kc_here (S := S) h6 hB h.1.1.2.2 h.1.1.2.1 h.2.1 h.2.2.1 (tkK_le L p) hE.1 hE.2.1
  rw [hq] at hc
  exact hc
/-- a command of the class: k's numbers, its end, whether it may be done, what it does -/
theorem kc_cmd (h6 : L ≤ 600) (hB : ∀ i, tx i < 256) (hp : p ≤ L) (h : BC tx L p n d u S) (hd : d ≤ 2) (h0 : d = 0 → tkK tx L p ≠ 0) (h4 : d ≠ 0 → tkK tx L p ≠ 4) (hk : k < 12) (hq : qcm tx (tkK tx L p) (tkS tx L p) (tkE tx L p) = k + 1) (w : WF u) (hn : u 0 13 ≤ 999) (n2 : n < 200) : ∃ S', ST 1 S S' ∧ (∀ e, cmdO tx L u k (tkE tx L p) = .inl e → EC e.1 e.2 S') ∧ (∀ v, cmdO tx L u k (tkE tx L p) = .inr v → BC tx L v.1 (n + 1) d v.2 S' ∧ WF v.2 ∧ v.2 0 13 ≤ 999 ∧ S' 17 = S 17 ∧ S' 18 = S 18) := by
  have h5 : S 0 5 = nI 1 := h.2.2.2.1
  have hE := tkE_b (tx := tx) hp
  obtain ⟨S1, s1, s2, s3⟩ := kc_tl h6 hB hp h hd h0 h4
  have hc := kc_here1 h6 hB hp s2 hq
  have e6 : S1 0 6 = nI n := s2.1.2.2.2.2.1
  obtain ⟨hl1, hl2, hl3⟩ := ll_len k (by omega)
  obtain ⟨b, S2, a1, a2, a3⟩ := kc_nums (tx := tx) h6 hB (k := k) (by omega) w (ll k).length FU 0 (tkE tx L p) (fun _ => 0) S1 (by omega) (L_lt (by omega)) hE.2.1 s2.1 ⟨fun _ => Nat.zero_le _, fun i hi => by omega⟩ (fun i hi => by omega)
  have hrn : f_X7_readNumbers S1 k = some (nB b, S2) := a1
  have htl : tl S1 = (if nB b = nI 0 then some (none, S2) else (xbind2 (f_X7_expect S2 (nI 5)) fun v8 S9 => (if v8 = nI 0 then some (none, S9) else some ((some k), S9)))) := by
    rw [tl, hc, xb_s, xopt, xif13, if_pos (by omega), if_neg (by omega), e6]
    simp (disch := omega) only [xl_s, ob_s, xb_s, rd_n, wr_n, m_1, m_1b, nI_add, pk_mul, l_0, l_1, l_2, l_3, l_4, l_5, l_6, l_7, l_8, l_9, l_10, l_11, l_12, l_13, l_14, l_15, l_16, l_17, l_18, l_19, l_20, l_21, l_22, l_23, l_24, l_30, l_31, l_32, l_40, l_41, l_48, l_57, l_59, l_64, l_90, l_97, l_99, l_100, l_119, l_122, l_186, l_200, l_255, l_600, l_999, l_1488, l_1000000, i_ltT, hrn]
  cases b
  · obtain ⟨c, o, c1, c2, c3, c4⟩ := a2 rfl
    refine ⟨S2, ST_n h5 (by rw [s1, htl, nB_f, if_pos rfl]), fun e he => ?_, fun v hv => ?_⟩
    · have : cmdO tx L u k (tkE tx L p) = .inl (c, o) := c4 _
      rw [this] at he
      cases he
      exact c3
    · have : cmdO tx L u k (tkE tx L p) = .inl (c, o) := c4 _
      rw [this] at hv
      cases hv
  obtain ⟨p', x', b1, b2, b3, b4, b5, b6, b7, b8⟩ := a3 rfl
  have hcm : cmdO tx L u k (tkE tx L p) = fin tx L u k p' x' := b8 _
  obtain ⟨y1, y2⟩ := kc_expect h6 hB b2 b4 5 (by decide)
  have hf := NX_f b5
  by_cases q5 : tkK tx L p' = 5
  · obtain ⟨S3, t1, t2, t3⟩ := y1 q5
    have hst : f_X7_readStatement S = some (some k, S3) := by
      rw [s1, htl, nB_t]
      simp (disch := omega) only [xl_s, ob_s, xb_s, rd_n, wr_n, m_1, m_1b, nI_add, pk_mul, l_0, l_1, l_2, l_3, l_4, l_5, l_6, l_7, l_8, l_9, l_10, l_11, l_12, l_13, l_14, l_15, l_16, l_17, l_18, l_19, l_20, l_21, l_22, l_23, l_24, l_30, l_31, l_32, l_40, l_41, l_48, l_57, l_59, l_64, l_90, l_97, l_99, l_100, l_119, l_122, l_186, l_200, l_255, l_600, l_999, l_1488, l_1000000, z10, if_false, t1]
    have hx : ∀ i, i < (ll k).length → S3 16 i = nI (x' i) := fun i hi => by rw [t3 16 (by decide)]; exact b6 i hi
    have hR : RC (xs 3 S3) u := t2.1.2.2.2.2.2.2
    have hr := kc_refused (S := S3) hk hR w hn hf hx
    cases hlg : legal u k x'
    · rw [hlg] at hr
      obtain ⟨S4, f1, f2⟩ := kc_fail (S := S3) 3 t2.2.2.1
      refine ⟨S4, ST_f (by omega) h5 hst hr f1, fun e he => ?_, fun v hv => ?_⟩
      · rw [hcm, fin, if_pos q5, if_neg (by rw [hlg]; decide)] at he
        cases he
        exact f2
      · rw [hcm, fin, if_pos q5, if_neg (by rw [hlg]; decide)] at hv
        cases hv
    · rw [hlg] at hr
      have e36 : S3 0 6 = nI n := t2.1.2.2.2.2.1
      have g : ∀ a, a ≠ 0 → xput S3 0 6 (nI (n + 1)) a = S3 a := fun a ha => xp_n ha
      obtain ⟨S4, f1, f2, f3⟩ := kc_apply (S := xput S3 0 6 (nI (n + 1))) hk (RC_cg (fun a ha => (g (3 + a) (by omega)).symm) hR) w hn hf hlg (fun i hi => by rw [g 16 (by decide)]; exact hx i hi)
      refine ⟨S4, ST_a (by omega) h5 e36 hst hr f1, fun e he => ?_, fun v hv => ?_⟩
      · rw [hcm, fin, if_pos q5, if_pos hlg] at he
        cases he
      · rw [hcm, fin, if_pos q5, if_pos hlg] at hv
        cases hv
        obtain ⟨wa, na⟩ := wf_app hk w hn hf hlg
        obtain ⟨⟨z1, z2, z3⟩, z4, z5, z6, z7, z8, z9⟩ := t2.1
        refine ⟨⟨⟨?_, ?_, fun i hi => ?_⟩, ?_, ?_, ?_, ?_, ?_, f2⟩, wa, na, ?_, ?_⟩
        · rw [f3 1 (by decide), g 1 (by decide)]; exact z1
        · rw [f3 1 (by decide), g 1 (by decide)]; exact z2
        · show S4 2 i = _
          rw [f3 2 (by decide), g 2 (by decide)]; exact z3 i hi
        · rw [f3 0 (by decide), xp_s, if_neg (by decide)]; exact z4
        · rw [f3 0 (by decide), xp_s, if_neg (by decide)]; exact z5
        · rw [f3 0 (by decide), xp_s, if_neg (by decide)]; exact z6
        · rw [f3 0 (by decide), xp_s, if_pos rfl]
        · rw [f3 0 (by decide), xp_s, if_neg (by decide)]; exact z8
        · rw [f3 17 (by decide), g 17 (by decide), t3 17 (by decide), b7 17 (by decide) (by decide), s3 17 (by decide)]
        · rw [f3 18 (by decide), g 18 (by decide), t3 18 (by decide), b7 18 (by decide) (by decide), s3 18 (by decide)]
  · obtain ⟨S3, t1, t2⟩ := y2 q5
    refine ⟨S3, ST_n h5 ?_, fun e he => ?_, fun v hv => ?_⟩
    · rw [s1, htl, nB_t]
      simp (disch := omega) only [xl_s, ob_s, xb_s, rd_n, wr_n, m_1, m_1b, nI_add, pk_mul, l_0, l_1, l_2, l_3, l_4, l_5, l_6, l_7, l_8, l_9, l_10, l_11, l_12, l_13, l_14, l_15, l_16, l_17, l_18, l_19, l_20, l_21, l_22, l_23, l_24, l_30, l_31, l_32, l_40, l_41, l_48, l_57, l_59, l_64, l_90, l_97, l_99, l_100, l_119, l_122, l_186, l_200, l_255, l_600, l_999, l_1488, l_1000000, z10, if_false, t1, if_true]
    · rw [hcm, fin, if_neg q5] at he
      cases he
      exact t2
    · rw [hcm, fin, if_neg q5] at hv
      cases hv
theorem kc_full (h6 : L ≤ 600) (hB : ∀ i, tx i < 256) (hp : p ≤ L) (h : BC tx L p 200 d u S) (hd : d ≤ 2) (h0 : d = 0 → tkK tx L p ≠ 0) (h4 : d ≠ 0 → tkK tx L p ≠ 4) (hk : k < 12) (hq : qcm tx (tkK tx L p) (tkS tx L p) (tkE tx L p) = k + 1) : ∃ S', ST 1 S S' ∧ EC 5 (tkS tx L p) S' := by
  have h5 : S 0 5 = nI 1 := h.2.2.2.1
  obtain ⟨S1, s1, s2, s3⟩ := kc_tl h6 hB hp h hd h0 h4
  have hc := kc_here1 h6 hB hp s2 hq
  have e6 : S1 0 6 = nI 200 := s2.1.2.2.2.2.1
  obtain ⟨S4, f1, f2⟩ := kc_fail (S := S1) 5 s2.2.2.1
  refine ⟨S4, ST_n h5 ?_, f2⟩
  rw [s1, tl, hc, xb_s, xopt, xif13, if_pos (by omega), if_neg (by omega), e6]
  simp (disch := omega) only [xl_s, ob_s, xb_s, rd_n, wr_n, m_1, m_1b, nI_add, pk_mul, l_0, l_1, l_2, l_3, l_4, l_5, l_6, l_7, l_8, l_9, l_10, l_11, l_12, l_13, l_14, l_15, l_16, l_17, l_18, l_19, l_20, l_21, l_22, l_23, l_24, l_30, l_31, l_32, l_40, l_41, l_48, l_57, l_59, l_64, l_90, l_97, l_99, l_100, l_119, l_122, l_186, l_200, l_255, l_600, l_999, l_1488, l_1000000, i_ltF, f1]
end
