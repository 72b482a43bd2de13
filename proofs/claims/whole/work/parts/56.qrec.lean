/-! level 2: a statement of a script comes to the same on both sides -/
def wt (d : Nat) : Nat := if d = 0 then 400 else if d = 1 then 20 else 1
def SB (tx : Nat → Nat) (L p c w : Nat) : QO → Prop
  | .inl e => (1 ≤ e.1 ∧ e.1 ≤ 5) ∧ c + w * p ≤ w * L + 1
  | .inr v => p < v.1 ∧ v.1 ≤ L ∧ WF v.2.2 ∧ v.2.2 0 13 ≤ 999 ∧ v.2.1 ≤ 200 ∧ c + w * p ≤ w * v.1 ∧ ∀ l q, MT tx L l v.1 q → MT tx L l p q
def AR (d : Nat) (S S' : XS) : QO → Prop
  | .inl _ => True
  | .inr _ => ∀ i, i < d → S' 17 i = S 17 i ∧ S' 18 i = S 18 i
def PC (tx : Nat → Nat) (L d : Nat) : Prop := ∀ p n u, p ≤ L → WF u → u 0 13 ≤ 999 → n ≤ 200 → (d = 0 → tkK tx L p ≠ 0) → (d ≠ 0 → tkK tx L p ≠ 4) → ∃ (O : QO) (c : Nat), SB tx L p c (wt d) O ∧ (∀ S, BC tx L p n d u S → ∃ S', ST c S S' ∧ OC tx L d S' O ∧ AR d S S' O) ∧ ∀ T, AM tx L p n u T → ∃ b T', f_RC (3 - d) T (nI d) = some (nB b, T') ∧ FM T T' ∧ OT tx L b T' O
/-- what a row of statements comes to: it stands before the closing bracket -/
def SQ (tx : Nat → Nat) (L p c w : Nat) : QO → Prop
  | .inl e => (1 ≤ e.1 ∧ e.1 ≤ 5) ∧ c + w * p ≤ w * L + 1
  | .inr v => tkK tx L v.1 = 4 ∧ p ≤ v.1 ∧ v.1 ≤ L ∧ WF v.2.2 ∧ v.2.2 0 13 ≤ 999 ∧ v.2.1 ≤ 200 ∧ c + w * p ≤ w * v.1 ∧ ∀ l q, MT tx L l v.1 q → MT tx L l p q
def OL (tx : Nat → Nat) (L : Nat) (o : Option (Int32 × XS)) (K : XS → Option (Int32 × XS)) (T' : XS) : QO → Prop
  | .inl e => o = some (nI 0, T') ∧ EM e.1 e.2 T'
  | .inr v => o = K T' ∧ AM tx L v.1 v.2.1 v.2.2 T'
/-- what the rounds of a repeat come to -/
def SR (tx : Nat → Nat) (L p c w j : Nat) : QO → Prop
  | .inl e => (1 ≤ e.1 ∧ e.1 ≤ 5) ∧ c ≤ j * (w * L - w * p + 1)
  | .inr v => tkK tx L v.1 = 4 ∧ p ≤ v.1 ∧ v.1 ≤ L ∧ WF v.2.2 ∧ v.2.2 0 13 ≤ 999 ∧ v.2.1 ≤ 200 ∧ c + 1 ≤ j * (w * v.1 - w * p + 1) ∧ ∀ l q, MT tx L l v.1 q → MT tx L l p q
def AR1 (d pb : Nat) (S S' : XS) : QO → Prop
  | .inl _ => True
  | .inr _ => S' 17 d = nI pb ∧ S' 18 d = nI 1 ∧ ∀ i, i < d → S' 17 i = S 17 i ∧ S' 18 i = S 18 i
section
variable {tx : Nat → Nat} {L p n d r k c j pb : Nat} {u : QU} {S S' T T' : XS} {x : Nat → Nat}
theorem seq_i (hd : d < 2) (h6 : L ≤ 600) (hB : ∀ i, tx i < 256) (hP : PC tx L (d + 1)) : ∀ N p n u, L - p ≤ N → p ≤ L → WF u → u 0 13 ≤ 999 → n ≤ 200 → ∃ (O : QO) (c : Nat), SQ tx L p c (wt (d + 1)) O ∧ (∀ S, BC tx L p n (d + 1) u S → ∃ S', ST c S S' ∧ OC tx L (d + 1) S' O ∧ AR (d + 1) S S' O) ∧ ∀ T, AM tx L p n u T → ∀ K a b e f, N < f → ∃ T', FM T T' ∧ OL tx L (f_X9_readsRepeat_L51 (f_RC (3 - (d + 1))) K (nI d) a b e f T) K T' O := by
  intro N
  induction N with
  | zero =>
    intro p n u hN hp w hn h2
    have hpL : p = L := by omega
    have hS := tkS_b (tx := tx) hp
    have k0 : tkK tx L p = 0 := (tkK_0 (tx := tx) hp).mpr (by omega)
    obtain ⟨O, c, s1, s2, s3⟩ := hP p n u hp w hn h2 (fun z => by omega) (fun _ => by omega)
    cases O with
    | inr v =>
      obtain ⟨a1, a2, -⟩ := s1
      omega
    | inl e =>
      refine ⟨.inl e, c, s1, s2, fun T hT K a b e' f hf => ?_⟩
      obtain ⟨f, rfl⟩ : ∃ k, f = k + 1 := ⟨f - 1, by omega⟩
      obtain ⟨bb, T', t1, t2, t3, t4⟩ := s3 T hT
      subst t3
      refine ⟨T', t2, ?_, t4⟩
      have h17 : T 0 17 = nI 0 := by rw [hT.2.1, k0]; rfl
      rw [f_X9_readsRepeat_L51]
      simp (disch := omega) only [xl_s, ob_s, xb_s, rd_n, wr_n, m_1, m_1b, nI_add, pk_mul, l_0, l_1, l_2, l_3, l_4, l_5, l_6, l_7, l_8, l_9, l_10, l_11, l_12, l_13, l_14, l_15, l_16, l_17, l_18, l_19, l_20, l_21, l_22, l_23, l_24, l_30, l_31, l_32, l_40, l_41, l_48, l_57, l_59, l_64, l_90, l_97, l_99, l_100, l_119, l_122, l_186, l_200, l_255, l_600, l_999, l_1488, l_1000000, h17, i_eqF, t1, nB_f, if_true]
  | succ N ih =>
    intro p n u hN hp w hn h2
    by_cases k4 : tkK tx L p = 4
    · refine ⟨.inr (p, n, u), 0, ⟨k4, Nat.le_refl p, hp, w, hn, h2, (show 0 + wt (d + 1) * p ≤ wt (d + 1) * p by omega), fun _ _ g => g⟩, fun S hS => ⟨S, ST_0, hS, fun _ _ => ⟨rfl, rfl⟩⟩, fun T hT K a b e f hf => ⟨T, FM_r, ?_, hT⟩⟩
      obtain ⟨f, rfl⟩ : ∃ k, f = k + 1 := ⟨f - 1, by omega⟩
      have h17 : T 0 17 = nI 5 := by rw [hT.2.1, k4]; rfl
      rw [f_X9_readsRepeat_L51]
      simp (disch := omega) only [xl_s, ob_s, xb_s, rd_n, wr_n, m_1, m_1b, nI_add, pk_mul, l_0, l_1, l_2, l_3, l_4, l_5, l_6, l_7, l_8, l_9, l_10, l_11, l_12, l_13, l_14, l_15, l_16, l_17, l_18, l_19, l_20, l_21, l_22, l_23, l_24, l_30, l_31, l_32, l_40, l_41, l_48, l_57, l_59, l_64, l_90, l_97, l_99, l_100, l_119, l_122, l_186, l_200, l_255, l_600, l_999, l_1488, l_1000000, h17, if_true]
    · obtain ⟨O, c, s1, s2, s3⟩ := hP p n u hp w hn h2 (fun z => by omega) (fun _ => k4)
      have hr : rk (tkK tx L p) ≠ 5 := fun z => k4 ((rk_inj (a := tkK tx L p) (b := 4) (tkK_le L p) (by decide)).mp z)
      have hk6 := rk_le (tkK_le (tx := tx) L p)
      cases O with
      | inl e =>
        refine ⟨.inl e, c, s1, s2, fun T hT K a b e' f hf => ?_⟩
        obtain ⟨f, rfl⟩ : ∃ k, f = k + 1 := ⟨f - 1, by omega⟩
        obtain ⟨bb, T', t1, t2, t3, t4⟩ := s3 T hT
        subst t3
        refine ⟨T', t2, ?_, t4⟩
        have h17 := hT.2.1
        rw [f_X9_readsRepeat_L51]
        simp (disch := omega) only [xl_s, ob_s, xb_s, rd_n, wr_n, m_1, m_1b, nI_add, pk_mul, l_0, l_1, l_2, l_3, l_4, l_5, l_6, l_7, l_8, l_9, l_10, l_11, l_12, l_13, l_14, l_15, l_16, l_17, l_18, l_19, l_20, l_21, l_22, l_23, l_24, l_30, l_31, l_32, l_40, l_41, l_48, l_57, l_59, l_64, l_90, l_97, l_99, l_100, l_119, l_122, l_186, l_200, l_255, l_600, l_999, l_1488, l_1000000, h17, i_eqF, t1, nB_f, if_true]
      | inr v =>
        obtain ⟨p1, n1, u1⟩ := v
        obtain ⟨a1, a2, a3, a4, a5, a6, a7⟩ := s1
        obtain ⟨O2, c2, r1, r2, r3⟩ := ih p1 n1 u1 (by omega) a2 a3 a4 a5
        refine ⟨O2, c + c2, ?_, fun S hS => ?_, fun T hT K a b e' f hf => ?_⟩
        · cases O2 with
          | inl e =>
            obtain ⟨b1, b2⟩ := r1
            refine ⟨b1, ?_⟩
            simp only at *
            omega
          | inr v =>
            obtain ⟨b1, b2, b3, b4, b5, b6, b7, b8⟩ := r1
            simp only at *
            exact ⟨b1, by omega, b3, b4, b5, b6, by omega, fun l q g => a7 l q (b8 l q g)⟩
        · obtain ⟨S1, x1, x2, x3⟩ := s2 S hS
          obtain ⟨S2, y1, y2, y3⟩ := r2 S1 x2
          refine ⟨S2, ST_t x1 y1, y2, ?_⟩
          cases O2 with
          | inl e => trivial
          | inr v => exact fun i hi => ⟨by rw [(y3 i hi).1, (x3 i hi).1], by rw [(y3 i hi).2, (x3 i hi).2]⟩
        · obtain ⟨f, rfl⟩ : ∃ k, f = k + 1 := ⟨f - 1, by omega⟩
          obtain ⟨bb, T1, t1, t2, t3, t4⟩ := s3 T hT
          subst t3
          obtain ⟨T2, y1, y2, y3⟩ := km_nx h6 hB a2 t4
          obtain ⟨T3, z1, z2⟩ := r3 T2 y2 K a b e' f (by omega)
          have h17 := hT.2.1
          have e1 : f_X9_readsRepeat_L51 (f_RC (3 - (d + 1))) K (nI d) a b e' (f + 1) T = f_X9_readsRepeat_L51 (f_RC (3 - (d + 1))) K (nI d) a b e' f T2 := by
            rw [f_X9_readsRepeat_L51]
            simp (disch := omega) only [xl_s, ob_s, xb_s, rd_n, wr_n, m_1, m_1b, nI_add, pk_mul, l_0, l_1, l_2, l_3, l_4, l_5, l_6, l_7, l_8, l_9, l_10, l_11, l_12, l_13, l_14, l_15, l_16, l_17, l_18, l_19, l_20, l_21, l_22, l_23, l_24, l_30, l_31, l_32, l_40, l_41, l_48, l_57, l_59, l_64, l_90, l_97, l_99, l_100, l_119, l_122, l_186, l_200, l_255, l_600, l_999, l_1488, l_1000000, h17, i_eqF, t1, nB_t, z10, if_false, y1]
          refine ⟨T3, FM_t t2 (FM_t (NT_FM y3) z1), ?_⟩
          rw [e1]
          exact z2
theorem rnd_i (hd : d < 2) (h6 : L ≤ 600) (hB : ∀ i, tx i < 256) (hP : PC tx L (d + 1)) (hpb : pb ≤ L) : ∀ j n u, 1 ≤ j → j ≤ 20 → WF u → u 0 13 ≤ 999 → n ≤ 200 → ∃ (O : QO) (c : Nat), SR tx L pb c (wt (d + 1)) j O ∧ (∀ S, BC tx L pb n (d + 1) u S → S 17 d = nI pb → S 18 d = nI j → ∃ S', ST c S S' ∧ OC tx L (d + 1) S' O ∧ AR1 d pb S S' O) ∧ ∀ T q m cnt f K, BM tx L q n u T → m + j = cnt → cnt ≤ 20 → j < f → ∃ T', FM T T' ∧ OL tx L (f_X9_readsRepeat_L36 (f_RC (3 - (d + 1))) K (nI d) (nI cnt) (nI pb) f (nI m) T) (K (nI cnt)) T' O := by
  intro j
  induction j with
  | zero => intro n u h; omega
  | succ j ih =>
    intro n u hj1 hj w hn h2
    obtain ⟨O, c, s1, s2, s3⟩ := seq_i hd h6 hB hP (L - pb) pb n u (Nat.le_refl _) hpb w hn h2
    have hm : ∀ T q m cnt f K, BM tx L q n u T → m + (j + 1) = cnt → cnt ≤ 20 → ∃ T2, NT (xput T 0 19 (nI pb)) T2 ∧ AM tx L pb n u T2 ∧ f_X9_readsRepeat_L36 (f_RC (3 - (d + 1))) K (nI d) (nI cnt) (nI pb) (f + 1) (nI m) T = f_X9_readsRepeat_L51 (f_RC (3 - (d + 1))) (fun S12 => f_X9_readsRepeat_L36 (f_RC (3 - (d + 1))) K (nI d) (nI cnt) (nI pb) f (nI (m + 1)) S12) (nI d) (nI cnt) (nI pb) (nI m) FU T2 := fun T q m cnt f K hT hmj hc => by
      obtain ⟨⟨a1, a2, a3⟩, b1, b2, b3, b4⟩ := hT
      obtain ⟨T2, y1, y2, y3⟩ := km_nx (T := xput T 0 19 (nI pb)) (p := pb) (r := n) (u := u) h6 hB hpb ⟨⟨by rw [xp_s, if_neg (by decide)]; exact a1, by rw [xp_s, if_pos rfl], fun i hi => by rw [xp_n (by decide)]; exact a3 i hi⟩, by rw [xp_s, if_neg (by decide)]; exact b1, by rw [xp_s, if_neg (by decide)]; exact b2, by rw [xp_s, if_neg (by decide)]; exact b3, by rw [xp_n (by decide)]; exact b4⟩
      refine ⟨T2, y3, y2, ?_⟩
      rw [f_X9_readsRepeat_L36]
      simp (disch := omega) only [xl_s, ob_s, xb_s, rd_n, wr_n, m_1, m_1b, nI_add, pk_mul, l_0, l_1, l_2, l_3, l_4, l_5, l_6, l_7, l_8, l_9, l_10, l_11, l_12, l_13, l_14, l_15, l_16, l_17, l_18, l_19, l_20, l_21, l_22, l_23, l_24, l_30, l_31, l_32, l_40, l_41, l_48, l_57, l_59, l_64, l_90, l_97, l_99, l_100, l_119, l_122, l_186, l_200, l_255, l_600, l_999, l_1488, l_1000000, i_leF, y1]
    have fm19 : ∀ T, FM T (xput T 0 19 (nI pb)) := fun T => ⟨fun a h0 _ _ => xp_n h0, fun y _ _ h3 => by rw [xp_s, if_neg (by omega)]⟩
    have fuL : L - pb < FU := L_lt (by omega)
    cases O with
    | inl e =>
      refine ⟨.inl e, c, ?_, fun S hS _ _ => ?_, fun T q m cnt f K hT hmj hc hf => ?_⟩
      · obtain ⟨b1, b2⟩ := s1
        have hle : wt (d + 1) * pb ≤ wt (d + 1) * L := Nat.mul_le_mul_left _ hpb
        refine ⟨b1, ?_⟩
        have : 1 * (wt (d + 1) * L - wt (d + 1) * pb + 1) ≤ (j + 1) * (wt (d + 1) * L - wt (d + 1) * pb + 1) := Nat.mul_le_mul_right _ (by omega)
        omega
      · obtain ⟨S', x1, x2, -⟩ := s2 S hS
        exact ⟨S', x1, x2, trivial⟩
      · obtain ⟨f, rfl⟩ : ∃ k, f = k + 1 := ⟨f - 1, by omega⟩
        obtain ⟨T2, y1, y2, y3⟩ := hm T q m cnt f K hT hmj hc
        obtain ⟨T3, z1, z2, z3⟩ := s3 T2 y2 (fun S12 => f_X9_readsRepeat_L36 (f_RC (3 - (d + 1))) K (nI d) (nI cnt) (nI pb) f (nI (m + 1)) S12) (nI cnt) (nI pb) (nI m) FU fuL
        exact ⟨T3, FM_t (fm19 T) (FM_t (NT_FM y1) z1), by rw [y3]; exact z2, z3⟩
    | inr v =>
      obtain ⟨p1, n1, u1⟩ := v
      obtain ⟨a0, a1, a2, a3, a4, a5, a6, a7⟩ := s1
      simp only at a0 a1 a2 a3 a4 a5 a6 a7
      by_cases hj0 : j = 0
      · subst hj0
        refine ⟨.inr (p1, n1, u1), c, ⟨a0, a1, a2, a3, a4, a5, ?_, a7⟩, fun S hS h17 h18 => ?_, fun T q m cnt f K hT hmj hc hf => ?_⟩
        · simp only
          omega
        · obtain ⟨S', x1, x2, x3⟩ := s2 S hS
          exact ⟨S', x1, x2, by rw [(x3 d (by omega)).1]; exact h17, by rw [(x3 d (by omega)).2]; exact h18, fun i hi => x3 i (by omega)⟩
        · obtain ⟨f, rfl⟩ : ∃ k, f = k + 2 := ⟨f - 2, by omega⟩
          obtain ⟨T2, y1, y2, y3⟩ := hm T q m cnt (f + 1) K hT hmj hc
          obtain ⟨T3, z1, z2, z3⟩ := s3 T2 y2 (fun S12 => f_X9_readsRepeat_L36 (f_RC (3 - (d + 1))) K (nI d) (nI cnt) (nI pb) (f + 1) (nI (m + 1)) S12) (nI cnt) (nI pb) (nI m) FU fuL
          refine ⟨T3, FM_t (fm19 T) (FM_t (NT_FM y1) z1), ?_, z3⟩
          rw [y3, z2]
          show f_X9_readsRepeat_L36 (f_RC (3 - (d + 1))) K (nI d) (nI cnt) (nI pb) (f + 1) (nI (m + 1)) T3 = K (nI cnt) T3
          rw [f_X9_readsRepeat_L36]
          simp (disch := omega) only [i_leT]
          rw [show m + 1 = cnt by omega]
      · obtain ⟨O2, c2, r1, r2, r3⟩ := ih n1 u1 (by omega) (by omega) a3 a4 a5
        refine ⟨O2, c + (1 + c2), ?_, fun S hS h17 h18 => ?_, fun T q m cnt f K hT hmj hc hf => ?_⟩
        · cases O2 with
          | inl e =>
            obtain ⟨b1, b2⟩ := r1
            have hle : wt (d + 1) * p1 ≤ wt (d + 1) * L := Nat.mul_le_mul_left _ a2
            refine ⟨b1, ?_⟩
            rw [Nat.succ_mul]
            omega
          | inr v =>
            obtain ⟨b1, b2, b3, b4, b5, b6, b7, b8⟩ := r1
            have he : p1 = v.1 := MT_u (a7 0 p1 (MT_z a0)) (b8 0 v.1 (MT_z b1))
            refine ⟨b1, b2, b3, b4, b5, b6, ?_, b8⟩
            rw [Nat.succ_mul, ← he]
            rw [← he] at b7
            omega
        · obtain ⟨S1, x1, x2, x3⟩ := s2 S hS
          obtain ⟨S2, y1, y2, y3, y4, y5⟩ := (kc_cl hd h6 hB a2 x2 a0 (j := j + 1) (by omega) hj (pb := pb) (by omega) (by rw [(x3 d (by omega)).1]; exact h17) (by rw [(x3 d (by omega)).2]; exact h18)).1 (by omega)
          obtain ⟨S3, z1, z2, z3⟩ := r2 S2 y2 y3 y4
          refine ⟨S3, ST_t x1 (ST_t y1 z1), z2, ?_⟩
          cases O2 with
          | inl e => trivial
          | inr v =>
            obtain ⟨q1, q2, q3⟩ := z3
            exact ⟨q1, q2, fun i hi => ⟨by rw [(q3 i hi).1, (y5 i hi).1, (x3 i (by omega)).1], by rw [(q3 i hi).2, (y5 i hi).2, (x3 i (by omega)).2]⟩⟩
        · obtain ⟨f, rfl⟩ : ∃ k, f = k + 1 := ⟨f - 1, by omega⟩
          obtain ⟨T2, y1, y2, y3⟩ := hm T q m cnt f K hT hmj hc
          obtain ⟨T3, z1, z2, z3⟩ := s3 T2 y2 (fun S12 => f_X9_readsRepeat_L36 (f_RC (3 - (d + 1))) K (nI d) (nI cnt) (nI pb) f (nI (m + 1)) S12) (nI cnt) (nI pb) (nI m) FU fuL
          obtain ⟨T4, q1, q2⟩ := r3 T3 (tkE tx L p1) (m + 1) cnt f K z3.1 (by omega) hc (by omega)
          refine ⟨T4, FM_t (fm19 T) (FM_t (NT_FM y1) (FM_t z1 q1)), ?_⟩
          rw [y3, z2]
          exact q2
theorem wt_20 (hd : d < 2) : wt d = 20 * wt (d + 1) ∧ 1 ≤ wt (d + 1) := by
  have : d = 0 ∨ d = 1 := by omega
  rcases this with rfl | rfl
  · exact ⟨rfl, by decide⟩
  · exact ⟨rfl, by decide⟩
theorem wt_1 (hd : d ≤ 2) : 1 ≤ wt d := by
  have : d = 0 ∨ d = 1 ∨ d = 2 := by omega
  rcases this with rfl | rfl | rfl <;> decide
theorem hdr_e {e : Nat × Nat} (h : hdr tx L p = .inl e) : 1 ≤ e.1 ∧ e.1 ≤ 5 := by
  rw [hdr] at h
  split at h
  · split at h
    · split at h
      · cases h
      · cases h; exact ⟨Nat.le_of_ble_eq_true rfl, Nat.le_of_ble_eq_true rfl⟩
    · cases h; exact ⟨Nat.le_of_ble_eq_true rfl, Nat.le_of_ble_eq_true rfl⟩
  · cases h; exact ⟨Nat.le_of_ble_eq_true rfl, Nat.le_of_ble_eq_true rfl⟩
theorem hdr_v {v : Nat × Nat} (hp : p ≤ L) (hq : qcm tx (tkK tx L p) (tkS tx L p) (tkE tx L p) = 13) (h : hdr tx L p = .inr v) : p + 8 ≤ v.1 ∧ v.1 ≤ L ∧ 1 ≤ v.2 ∧ v.2 ≤ 20 ∧ ∀ l q, MT tx L (l + 1) v.1 q → MT tx L l p q := by
  obtain ⟨k1, -, -, hlen⟩ := qcm_1 (k := 12) hq
  have h6 : tkE tx L p - tkS tx L p = 6 := hlen
  have hS := tkS_b (tx := tx) hp
  have hE := tkE_b (tx := tx) hp
  have hE2 := tkE_b (tx := tx) hE.2.1
  have hE3 := tkE_b (tx := tx) hE2.2.1
  rw [hdr] at h
  split at h
  · rename_i k2
    split at h
    · rename_i hv
      split at h
      · rename_i k3
        cases h
        have g2 := tkK_E (tx := tx) hE.2.1 (by omega)
        have g3 := tkK_E (tx := tx) hE2.2.1 (by omega)
        refine ⟨?_, hE3.2.1, hv.1, hv.2, fun l q g => MT_s (by omega) (by omega) (MT_s (by omega) (by omega) (MT_o k3 g))⟩
        show p + 8 ≤ tkE tx L (tkE tx L (tkE tx L p))
        omega
      · cases h
    · cases h
  · cases h
theorem rdn_w {v : Nat × QU} (hk : k < 12) (w : WF u) (hn : u 0 13 ≤ 999) : ∀ {d j p x}, j + d = (ll k).length → p ≤ L → NX u k x j → rdn tx L u k (fin tx L u k) d j p x = .inr v → WF v.2 ∧ v.2 0 13 ≤ 999 := by
  intro d
  induction d with
  | zero =>
    intro j p x hj hp hN h
    rw [rdn, fin] at h
    split at h
    · split at h
      · rename_i hl
        cases h
        exact wf_app hk w hn (NX_f (by rw [← hj]; exact hN)) hl
      · cases h
    · cases h
  | succ d ih =>
    intro j p x hj hp hN h
    have hE := tkE_b (tx := tx) hp
    rw [rdn] at h
    split at h
    · rename_i k2
      split at h
      · rename_i hl
        exact ih (by omega) hE.2.1 (NX_s (by omega) (by omega) hN (tkV_le (tx := tx) hp k2).2.1 hl) h
      · cases h
    · cases h
theorem cmdO_w {v : Nat × QU} (hk : k < 12) (w : WF u) (hn : u 0 13 ≤ 999) (hp : p ≤ L) (h : cmdO tx L u k p = .inr v) : WF v.2 ∧ v.2 0 13 ≤ 999 := rdn_w hk w hn (by omega) hp ⟨fun _ => Nat.zero_le _, fun i hi => by omega⟩ h
theorem SB_1 {e : Nat × Nat} (hp : p ≤ L) {w : Nat} (he : 1 ≤ e.1 ∧ e.1 ≤ 5) : SB tx L p 1 w (.inl e) := by
  have := Nat.mul_le_mul_left w hp
  exact ⟨he, by omega⟩
theorem pc_i (hd : d ≤ 2) (h6 : L ≤ 600) (hB : ∀ i, tx i < 256) (hP : d < 2 → PC tx L (d + 1)) : PC tx L d := by
  intro p n u hp w hn h2 h0 h4
  obtain ⟨m, hm⟩ : ∃ m, 3 - d = m + 1 := ⟨2 - d, by omega⟩
  have hrc : ∀ T, f_RC (3 - d) T (nI d) = f_X9_readsCommand (f_X9_readsRepeat (f_RC m)) T (nI d) := fun T => by rw [hm]; rfl
  have hE := tkE_b (tx := tx) hp
  have hS := tkS_b (tx := tx) hp
  have hqm := qcm_le (tx := tx) (tkK tx L p) (tkS tx L p) (tkE tx L p)
  cases hq : qcm tx (tkK tx L p) (tkS tx L p) (tkE tx L p) with
  | zero =>
    refine ⟨.inl (1, tkS tx L p), 1, SB_1 hp ⟨Nat.le_of_ble_eq_true rfl, Nat.le_of_ble_eq_true rfl⟩, fun S hS => ?_, fun T hT => ?_⟩
    · obtain ⟨S1, s1, s2, s3⟩ := kc_tl h6 hB hp hS hd h0 h4
      obtain ⟨S2, t1, t2⟩ := kc_tl0 h6 hB hp s2 hq
      exact ⟨S2, ST_n hS.2.2.2.1 (by rw [s1]; exact t1), t2, trivial⟩
    · obtain ⟨T', t1, t2, t3⟩ := km_cmd0 (RR := f_X9_readsRepeat (f_RC m)) (y := nI d) h6 hp hT hq
      exact ⟨false, T', by rw [hrc]; exact t1, t2, rfl, t3⟩
  | succ k =>
    by_cases k12 : k < 12
    · by_cases n2 : n < 200
      · cases hc : cmdO tx L u k (tkE tx L p) with
        | inl e =>
          refine ⟨.inl e, 1, SB_1 hp (cmdO_e hc), fun S hS => ?_, fun T hT => ?_⟩
          · obtain ⟨S', s1, s2, s3⟩ := kc_cmd h6 hB hp hS hd h0 h4 k12 hq w hn n2
            exact ⟨S', s1, s2 e hc, trivial⟩
          · obtain ⟨b, T', t1, t2, t3⟩ := km_cmd (RR := f_X9_readsRepeat (f_RC m)) (y := nI d) h6 hB hp hT k12 hq w hn n2
            rw [hc] at t3
            exact ⟨b, T', by rw [hrc]; exact t1, t2, t3⟩
        | inr v =>
          obtain ⟨g1, g2, g3⟩ := cmdO_m hE.2.1 hc
          obtain ⟨k1, -⟩ := qcm_1 (k := k) hq
          obtain ⟨z2, z3⟩ := cmdO_w k12 w hn hE.2.1 hc
          refine ⟨.inr (v.1, n + 1, v.2), 1, ⟨?_, g2, z2, z3, ?_, ?_, fun l q g => MT_s (by omega) (by omega) (g3 l q g)⟩, fun S hS => ?_, fun T hT => ?_⟩
          · show p < v.1
            omega
          · show n + 1 ≤ 200
            omega
          · show 1 + wt d * p ≤ wt d * v.1
            have h1 := wt_1 hd
            have h3 : wt d * (p + 1) ≤ wt d * v.1 := Nat.mul_le_mul_left _ (by omega)
            rw [Nat.mul_add, Nat.mul_one] at h3
            omega
          · obtain ⟨S', s1, s2, s3⟩ := kc_cmd h6 hB hp hS hd h0 h4 k12 hq w hn n2
            obtain ⟨z1, -, -, z4, z5⟩ := s3 v hc
            exact ⟨S', s1, z1, fun i hi => ⟨by rw [z4], by rw [z5]⟩⟩
          · obtain ⟨b, T', t1, t2, t3⟩ := km_cmd (RR := f_X9_readsRepeat (f_RC m)) (y := nI d) h6 hB hp hT k12 hq w hn n2
            rw [hc] at t3
            exact ⟨b, T', by rw [hrc]; exact t1, t2, t3⟩
      · obtain rfl : n = 200 := by omega
        refine ⟨.inl (5, tkS tx L p), 1, SB_1 hp ⟨Nat.le_of_ble_eq_true rfl, Nat.le_of_ble_eq_true rfl⟩, fun S hS => ?_, fun T hT => ?_⟩
        · obtain ⟨S2, t1, t2⟩ := kc_full h6 hB hp hS hd h0 h4 k12 hq
          exact ⟨S2, t1, t2, trivial⟩
        · obtain ⟨T', t1, t2, t3⟩ := km_full (RR := f_X9_readsRepeat (f_RC m)) (y := nI d) h6 hp hT k12 hq
          exact ⟨false, T', by rw [hrc]; exact t1, t2, rfl, t3⟩
    · obtain rfl : k = 12 := by omega
      by_cases hd2 : d = 2
      · subst hd2
        refine ⟨.inl (4, tkS tx L p), 1, SB_1 hp ⟨Nat.le_of_ble_eq_true rfl, Nat.le_of_ble_eq_true rfl⟩, fun S hS => ?_, fun T hT => ?_⟩
        · obtain ⟨S2, t1, t2⟩ := kc_rep2 h6 hB hp hS (h4 (by decide)) hq
          exact ⟨S2, t1, t2, trivial⟩
        · obtain ⟨T', t1, t2, t3⟩ := km_rep2 (RR := f_X9_readsRepeat (f_RC m)) h6 hp hT hq
          exact ⟨false, T', by rw [hrc]; exact t1, t2, rfl, t3⟩
      have hd1 : d < 2 := by omega
      have hPd := hP hd1
      have hm2 : 3 - (d + 1) = m := by omega
      obtain ⟨w1, w2⟩ := wt_20 hd1
      cases hh : hdr tx L p with
      | inl e =>
        refine ⟨.inl e, 1, SB_1 hp (hdr_e hh), fun S hS => ?_, fun T hT => ?_⟩
        · obtain ⟨S', s1, s2, s3⟩ := kc_rep hd1 h6 hB hp hS w h0 h4 hq
          exact ⟨S', s1, s2 e hh, trivial⟩
        · obtain ⟨T', t1, t2, t3⟩ := km_rep (RC := f_RC m) hd1 h6 hB hp hT hq
          obtain ⟨y1, y2⟩ := t2 e hh
          exact ⟨false, T', by rw [hrc]; exact y1, t1, rfl, y2⟩
      | inr v =>
        obtain ⟨pb, cnt⟩ := v
        obtain ⟨v1, v2, v3, v4, v5⟩ := hdr_v hp hq hh
        simp only at v1 v2 v3 v4 v5
        obtain ⟨O, c, r1, r2, r3⟩ := rnd_i hd1 h6 hB hPd v2 cnt n u v3 v4 w hn h2
        have A1 : wt d * p = 20 * (wt (d + 1) * p) := by rw [w1, Nat.mul_assoc]
        have A2 : wt d * L = 20 * (wt (d + 1) * L) := by rw [w1, Nat.mul_assoc]
        have A3 : wt (d + 1) * (p + 8) ≤ wt (d + 1) * pb := Nat.mul_le_mul_left _ v1
        have A4 : wt (d + 1) * pb ≤ wt (d + 1) * L := Nat.mul_le_mul_left _ v2
        rw [Nat.mul_add] at A3
        have hmod : ∀ T, AM tx L p n u T → ∃ T' T'', FM T T' ∧ FM T' T'' ∧ f_RC (3 - d) T (nI d) = ((f_X9_readsRepeat_L36 (f_RC m) (fun v14 S15 => ((f_X9_next S15).bind fun S16 => (xbind2 (f_X9_is S16 1) fun v17 S18 => ((xz v17).bind fun v => some (v, S18))))) (nI d) (nI cnt) (nI pb) FU (nI 0) T').bind fun q => (xz q.1).bind fun y => some (y, q.2)) ∧ OL tx L (f_X9_readsRepeat_L36 (f_RC m) (fun v14 S15 => ((f_X9_next S15).bind fun S16 => (xbind2 (f_X9_is S16 1) fun v17 S18 => ((xz v17).bind fun v => some (v, S18))))) (nI d) (nI cnt) (nI pb) FU (nI 0) T') ((fun v14 S15 => ((f_X9_next S15).bind fun S16 => (xbind2 (f_X9_is S16 1) fun v17 S18 => ((xz v17).bind fun v => some (v, S18))))) (nI cnt)) T'' O := fun T hT => by
          obtain ⟨T', t1, t2, t3⟩ := km_rep (RC := f_RC m) hd1 h6 hB hp hT hq
          obtain ⟨y1, y2⟩ := t3 (pb, cnt) hh
          have r4 := r3 T' pb 0 cnt FU (fun v14 S15 => ((f_X9_next S15).bind fun S16 => (xbind2 (f_X9_is S16 1) fun v17 S18 => ((xz v17).bind fun v => some (v, S18))))) y2 (by omega) v4 (L_lt (by omega))
          rw [hm2] at r4
          obtain ⟨T'', z1, z2⟩ := r4
          exact ⟨T', T'', t1, z1, by rw [hrc, y1]; rfl, z2⟩
        cases O with
        | inl e =>
          obtain ⟨b1, b2⟩ := r1
          refine ⟨.inl e, 1 + c, ⟨b1, ?_⟩, fun S hS => ?_, fun T hT => ?_⟩
          · have : cnt * (wt (d + 1) * L - wt (d + 1) * pb + 1) ≤ 20 * (wt (d + 1) * L - wt (d + 1) * pb + 1) := Nat.mul_le_mul_right _ v4
            rw [A1, A2]
            omega
          · obtain ⟨S1, s1, s2, s3⟩ := kc_rep hd1 h6 hB hp hS w h0 h4 hq
            obtain ⟨y1, y2, y3, y4⟩ := s3 (pb, cnt) hh
            obtain ⟨S2, t1, t2, -⟩ := r2 S1 y1 y2 y3
            exact ⟨S2, ST_t s1 t1, t2, trivial⟩
          · obtain ⟨T', T'', f1, f2, f3, f4, f5⟩ := hmod T hT
            refine ⟨false, T'', ?_, FM_t f1 f2, rfl, f5⟩
            rw [f3, f4]
            simp only [xz_0, Option.bind_some]
            rfl
        | inr v =>
          obtain ⟨p1, n1, u1⟩ := v
          obtain ⟨b1, b2, b3, b4, b5, b6, b7, b8⟩ := r1
          simp only at b1 b2 b3 b4 b5 b6 b7 b8
          have hE1 := tkE_b (tx := tx) b3
          have hE2 := tkE_b (tx := tx) hE1.2.1
          have g1 := tkK_E (tx := tx) b3 (by omega)
          have B1 : cnt * (wt (d + 1) * p1 - wt (d + 1) * pb + 1) ≤ 20 * (wt (d + 1) * p1 - wt (d + 1) * pb + 1) := Nat.mul_le_mul_right _ v4
          have B2 : wt (d + 1) * pb ≤ wt (d + 1) * p1 := Nat.mul_le_mul_left _ b2
          have B3 : wt (d + 1) * p1 ≤ wt (d + 1) * L := Nat.mul_le_mul_left _ b3
          have hr : rk (tkK tx L (tkE tx L p1)) = 1 ↔ tkK tx L (tkE tx L p1) = 5 := rk_inj (b := 5) (tkK_le L _) (by decide)
          have hcl : ∀ S, BC tx L p n d u S → ∃ S', ST (1 + (c + 1)) S S' ∧ (tkK tx L (tkE tx L p1) = 5 → BC tx L (tkE tx L (tkE tx L p1)) n1 d u1 S' ∧ ∀ i, i < d → S' 17 i = S 17 i ∧ S' 18 i = S 18 i) ∧ (tkK tx L (tkE tx L p1) ≠ 5 → EC 1 (tkS tx L (tkE tx L p1)) S') := fun S hS => by
            obtain ⟨S1, s1, s2, s3⟩ := kc_rep hd1 h6 hB hp hS w h0 h4 hq
            obtain ⟨y1, y2, y3, y4⟩ := s3 (pb, cnt) hh
            obtain ⟨S2, t1, t2, t3, t4, t5⟩ := r2 S1 y1 y2 y3
            obtain ⟨S3, x1, x2, x3⟩ := (kc_cl hd1 h6 hB b3 t2 b1 (j := 1) (by decide) (by decide) (pb := pb) (by omega) t3 t4).2 rfl
            exact ⟨S3, ST_t s1 (ST_t t1 x1), fun z => ⟨(x2 z).1, fun i hi => ⟨by rw [((x2 z).2 i hi).1, (t5 i hi).1, (y4 i hi).1], by rw [((x2 z).2 i hi).2, (t5 i hi).2, (y4 i hi).2]⟩⟩, x3⟩
          by_cases k5 : tkK tx L (tkE tx L p1) = 5
          · have g2 := tkK_E (tx := tx) hE1.2.1 (by omega)
            refine ⟨.inr (tkE tx L (tkE tx L p1), n1, u1), 1 + (c + 1), ⟨?_, hE2.2.1, b4, b5, b6, ?_, fun l q g => v5 l q (b8 (l + 1) q (MT_c b1 (MT_s (by omega) (by omega) g)))⟩, fun S hS => ?_, fun T hT => ?_⟩
            · show p < tkE tx L (tkE tx L p1)
              omega
            · show 1 + (c + 1) + wt d * p ≤ wt d * tkE tx L (tkE tx L p1)
              have A5 : wt d * tkE tx L (tkE tx L p1) = 20 * (wt (d + 1) * tkE tx L (tkE tx L p1)) := by rw [w1, Nat.mul_assoc]
              have A6 : wt (d + 1) * (p1 + 2) ≤ wt (d + 1) * tkE tx L (tkE tx L p1) := Nat.mul_le_mul_left _ (by omega)
              rw [Nat.mul_add] at A6
              rw [A1, A5]
              omega
            · obtain ⟨S', x1, x2, -⟩ := hcl S hS
              exact ⟨S', x1, (x2 k5).1, (x2 k5).2⟩
            · obtain ⟨T', T'', f1, f2, f3, f4, f5⟩ := hmod T hT
              obtain ⟨T3, y1, y2, y3⟩ := km_nx h6 hB hE1.2.1 f5.1
              obtain ⟨i1, i2⟩ := km_is y2 (e := 1) (by decide)
              refine ⟨true, T3, ?_, FM_t f1 (FM_t f2 (NT_FM y3)), rfl, y2.1⟩
              rw [f3, f4]
              simp only [y1, ob_s, l_1, i1 (hr.mpr k5), xb_s, xz_1, Option.bind_some]
              rfl
          · refine ⟨.inl (1, tkS tx L (tkE tx L p1)), 1 + (c + 1), ⟨⟨Nat.le_of_ble_eq_true rfl, Nat.le_of_ble_eq_true rfl⟩, ?_⟩, fun S hS => ?_, fun T hT => ?_⟩
            · rw [A1, A2]
              omega
            · obtain ⟨S', x1, -, x3⟩ := hcl S hS
              exact ⟨S', x1, x3 k5, trivial⟩
            · obtain ⟨T', T'', f1, f2, f3, f4, f5⟩ := hmod T hT
              obtain ⟨T3, y1, y2, y3⟩ := km_nx h6 hB hE1.2.1 f5.1
              obtain ⟨i1, i2⟩ := km_is y2 (e := 1) (by decide)
              obtain ⟨T4, x1, x2, x3⟩ := i2 (fun z => k5 (hr.mp z))
              refine ⟨false, T4, ?_, FM_t f1 (FM_t f2 (FM_t (NT_FM y3) x3)), rfl, x2⟩
              rw [f3, f4]
              simp only [y1, ob_s, l_1, x1, xb_s, xz_0, Option.bind_some]
              rfl
theorem pc_0 (h6 : L ≤ 600) (hB : ∀ i, tx i < 256) : PC tx L 0 :=
  pc_i (by decide) h6 hB (fun _ => pc_i (by decide) h6 hB (fun _ => pc_i (by decide) h6 hB (fun z => by omega)))
end
