/-! level 2: a statement of a script comes to the same on both sides -/
def wt (d : Nat) : Nat := if d = 0 then 400 else if d = 1 then 20 else 1
def SB (tx : Nat → Nat) (L p c w : Nat) : QO → Prop
  | .inl e => (1 ≤ e.1 ∧ e.1 ≤ 5) ∧ c + w * p ≤ w * L + 1
  | .inr v => p < v.1 ∧ v.1 ≤ L ∧ WF v.2.2 ∧ v.2.2 0 13 ≤ 999 ∧ v.2.1 ≤ 200 ∧ c + w * p ≤ w * v.1 ∧ ∀ l q, MT tx L l v.1 q → MT tx L l p q
def AR (d : Nat) (S S' : XS) : QO → Prop
  | .inl _ => True
  | .inr _ => ∀ i, i < d → S' 17 i = S 17 i ∧ S' 18 i = S 18 i
def PC (tx : Nat → Nat) (L d : Nat) : Prop := ∀ p n u, p ≤ L → WF u → u 0 13 ≤ 999 → n ≤ 200 → (d = 0 → tkK tx L p ≠ 0) → (d ≠ 0 → tkK tx L p ≠ 4) → ∃ (O : QO) (c : Nat), SB tx L p c (wt d) O ∧ (∀ S, BC tx L p n d u S → ∃ S', ST c S S' ∧ OC tx L d S' O ∧ AR d S S' O) ∧ ∀ T, AM tx L p n u T → ∃ b T', f_RC (3 - d) T (nI d) = some (nB b, T') ∧ FM T T' ∧ OT tx L b T' O
/-- what a row of statements comes to: it stands before the closing bracket -/
def SQ (tx : Nat → Nat) (L p c w : Nat) : QO → Prop
  | .inl e => (1 ≤ e.1 ∧ e.1 ≤ 5) ∧ c + w * p ≤ w * L + 1
  | .inr v => tkK tx L v.1 = 4 ∧ p ≤ v.1 ∧ v.1 ≤ L ∧ WF v.2.2 ∧ v.2.2 0 13 ≤ 999 ∧ v.2.1 ≤ 200 ∧ c + w * p ≤ w * v.1 ∧ ∀ l q, MT tx L l v.1 q → MT tx L l p q
def OL (tx : Nat → Nat) (L : Nat) (o : Option (Int32 × XS)) (K : XS → Option (Int32 × XS)) (T' : XS) : QO → Prop
  | .inl e => o = some (nI 0, T') ∧ EM e.1 e.2 T'
  | .inr v => o = K T' ∧ AM tx L v.1 v.2.1 v.2.2 T'
/-- what the rounds of a repeat come to -/
def SR (tx : Nat → Nat) (L p c w j : Nat) : QO → Prop
  | .inl e => (1 ≤ e.1 ∧ e.1 ≤ 5) ∧ c ≤ j * (w * L - w * p + 1)
  | .inr v => tkK tx L v.1 = 4 ∧ p ≤ v.1 ∧ v.1 ≤ L ∧ WF v.2.2 ∧ v.2.2 0 13 ≤ 999 ∧ v.2.1 ≤ 200 ∧ c + 1 ≤ j * (w * v.1 - w * p + 1) ∧ ∀ l q, MT tx L l v.1 q → MT tx L l p q
def AR1 (d pb : Nat) (S S' : XS) : QO → Prop
  | .inl _ => True
  | .inr _ => S' 17 d = nI pb ∧ S' 18 d = nI 1 ∧ ∀ i, i < d → S' 17 i = S 17 i ∧ S' 18 i = S 18 i
section
variable {tx : Nat → Nat} {L p n d r k c j pb : Nat} {u : QU} {S S' T T' : XS} {x : Nat → Nat}
theorem seq_i (hd : d < 2) (h6 : L ≤ 600) (hB : ∀ i, tx i < 256) (hP : PC tx L (d + 1)) : ∀ N p n u, L - p ≤ N → p ≤ L → WF u → u 0 13 ≤ 999 → n ≤ 200 → ∃ (O : QO) (c : Nat), SQ tx L p c (wt (d + 1)) O ∧ (∀ S, BC tx L p n (d + 1) u S → ∃ S', ST c S S' ∧ OC tx L (d + 1) S' O ∧ AR (d + 1) S S' O) ∧ ∀ T, AM tx L p n u T → ∀ K a b e f, N < f → ∃ T', FM T T' ∧ OL tx L (f_X9_readsRepeat_L51 (f_RC (3 - (d + 1))) K (nI d) a b e f T) K T' O := by
  intro N
  induction N with
  | zero =>
    intro p n u hN hp w hn h2
    have hpL : p = L := by omega
    have hS := tkS_b (tx := tx) hp
    have k0 : tkK tx L p = 0 := (tkK_0 (tx := tx) hp).mpr (by omega)
    obtain ⟨O, c, s1, s2, s3⟩ := hP p n u hp w hn h2 (fun z => by omega) (fun _ => by omega)
    cases O with
    | inr v =>
      obtain ⟨a1, a2, -⟩ := s1
      omega
    | inl e =>
      refine ⟨.inl e, c, s1, s2, fun T hT K a b e' f hf => ?_⟩
      obtain ⟨f, rfl⟩ : ∃ k, f = k + 1 := ⟨f - 1, by omega⟩
      obtain ⟨bb, T', t1, t2, t3, t4⟩ := s3 T hT
      subst t3
      refine ⟨T', t2, ?_, t4⟩
      have h17 : T 0 17 = nI 0 := by rw [hT.2.1, k0]; rfl
      rw [f_X9_readsRepeat_L51]
      simp (disch := omega) only [xl_s, ob_s, xb_s, rd_n, wr_n, m_1, m_1b, nI_add, pk_mul, l_0, l_1, l_2, l_3, l_4, l_5, l_6, l_7, l_8, l_9, l_10, l_11, l_12, l_13, l_14, l_15, l_16, l_17, l_18, l_19, l_20, l_21, l_22, l_23, l_24, l_30, l_31, l_32, l_40, l_41, l_48, l_57, l_59, l_64, l_90, l_97, l_99, l_100, l_119, l_122, l_186, l_200, l_255, l_600, l_999, l_1488, l_1000000, h17, i_eqF, t1, nB_f, if_true]
  | succ N ih =>
    intro p n u hN hp w hn h2
    by_cases k4 : tkK tx L p = 4
    · refine ⟨.inr (p, n, u), 0, ⟨k4, Nat.le_refl p, hp, w, hn, h2, by omega, fun _ _ g => g⟩, fun S hS => ⟨S, ST_0, hS, fun _ _ => ⟨rfl, rfl⟩⟩, fun T hT K a b e f hf => ⟨T, FM_r, ?_, hT⟩⟩
      obtain ⟨f, rfl⟩ : ∃ k, f = k + 1 := ⟨f - 1, by omega⟩
      have h17 : T 0 17 = nI 5 := by rw [hT.2.1, k4]; rfl
      rw [f_X9_readsRepeat_L51]
      simp (disch := omega) only [xl_s, ob_s, xb_s, rd_n, wr_n, m_1, m_1b, nI_add, pk_mul, l_0, l_1, l_2, l_3, l_4, l_5, l_6, l_7, l_8, l_9, l_10, l_11, l_12, l_13, l_14, l_15, l_16, l_17, l_18, l_19, l_20, l_21, l_22, l_23, l_24, l_30, l_31, l_32, l_40, l_41, l_48, l_57, l_59, l_64, l_90, l_97, l_99, l_100, l_119, l_122, l_186, l_200, l_255, l_600, l_999, l_1488, l_1000000, h17, if_true]
    · obtain ⟨O, c, s1, s2, s3⟩ := hP p n u hp w hn h2 (fun z => by omega) (fun _ => k4)
      have hr : rk (tkK tx L p) ≠ 5 := fun z => k4 ((rk_inj (a := tkK tx L p) (b := 4) (tkK_le L p) (by decide)).mp z)
      have hk6 := rk_le (tkK_le (tx := tx) L p)
      cases O with
      | inl e =>
        refine ⟨.inl e, c, s1, s2, fun T hT K a b e' f hf => ?_⟩
        obtain ⟨f, rfl⟩ : ∃ k, f = k + 1 := ⟨f - 1, by omega⟩
        obtain ⟨bb, T', t1, t2, t3, t4⟩ := s3 T hT
        subst t3
        refine ⟨T', t2, ?_, t4⟩
        have h17 := hT.2.1
        rw [f_X9_readsRepeat_L51]
        simp (disch := omega) only [xl_s, ob_s, xb_s, rd_n, wr_n, m_1, m_1b, nI_add, pk_mul, l_0, l_1, l_2, l_3, l_4, l_5, l_6, l_7, l_8, l_9, l_10, l_11, l_12, l_13, l_14, l_15, l_16, l_17, l_18, l_19, l_20, l_21, l_22, l_23, l_24, l_30, l_31, l_32, l_40, l_41, l_48, l_57, l_59, l_64, l_90, l_97, l_99, l_100, l_119, l_122, l_186, l_200, l_255, l_600, l_999, l_1488, l_1000000, h17, i_eqF, t1, nB_f, if_true]
      | inr v =>
        obtain ⟨p1, n1, u1⟩ := v
        obtain ⟨a1, a2, a3, a4, a5, a6, a7⟩ := s1
        obtain ⟨O2, c2, r1, r2, r3⟩ := ih p1 n1 u1 (by omega) a2 a3 a4 a5
        refine ⟨O2, c + c2, ?_, fun S hS => ?_, fun T hT K a b e' f hf => ?_⟩
        · cases O2 with
          | inl e =>
            obtain ⟨b1, b2⟩ := r1
            refine ⟨b1, ?_⟩
            simp only at *
            omega
          | inr v =>
            obtain ⟨b1, b2, b3, b4, b5, b6, b7, b8⟩ := r1
            simp only at *
            exact ⟨b1, by omega, b3, b4, b5, b6, by omega, fun l q g => a7 l q (b8 l q g)⟩
        · obtain ⟨S1, x1, x2, x3⟩ := s2 S hS
          obtain ⟨S2, y1, y2, y3⟩ := r2 S1 x2
          refine ⟨S2, ST_t x1 y1, y2, ?_⟩
          cases O2 with
          | inl e => trivial
          | inr v => exact fun i hi => ⟨by rw [(y3 i hi).1, (x3 i hi).1], by rw [(y3 i hi).2, (x3 i hi).2]⟩
        · obtain ⟨f, rfl⟩ : ∃ k, f = k + 1 := ⟨f - 1, by omega⟩
          obtain ⟨bb, T1, t1, t2, t3, t4⟩ := s3 T hT
          subst t3
          obtain ⟨T2, y1, y2, y3⟩ := km_nx h6 hB a2 t4
          obtain ⟨T3, z1, z2⟩ := r3 T2 y2 K a b e' f (by omega)
          have h17 := hT.2.1
          have e1 : f_X9_readsRepeat_L51 (f_RC (3 - (d + 1))) K (nI d) a b e' (f + 1) T = f_X9_readsRepeat_L51 (f_RC (3 - (d + 1))) K (nI d) a b e' f T2 := by
            rw [f_X9_readsRepeat_L51]
            simp (disch := omega) only [xl_s, ob_s, xb_s, rd_n, wr_n, m_1, m_1b, nI_add, pk_mul, l_0, l_1, l_2, l_3, l_4, l_5, l_6, l_7, l_8, l_9, l_10, l_11, l_12, l_13, l_14, l_15, l_16, l_17, l_18, l_19, l_20, l_21, l_22, l_23, l_24, l_30, l_31, l_32, l_40, l_41, l_48, l_57, l_59, l_64, l_90, l_97, l_99, l_100, l_119, l_122, l_186, l_200, l_255, l_600, l_999, l_1488, l_1000000, h17, i_eqF, t1, nB_t, z10, if_false, y1]
          refine ⟨T3, FM_t t2 (FM_t (NT_FM y3) z1), ?_⟩
          rw [e1]
          exact z2
theorem rnd_i (hd : d < 2) (h6 : L ≤ 600) (hB : ∀ i, tx i < 256) (hP : PC tx L (d + 1)) (hpb : pb ≤ L) : ∀ j n u, 1 ≤ j → j ≤ 20 → WF u → u 0 13 ≤ 999 → n ≤ 200 → ∃ (O : QO) (c : Nat), SR tx L pb c (wt (d + 1)) j O ∧ (∀ S, BC tx L pb n (d + 1) u S → S 17 d = nI pb → S 18 d = nI j → ∃ S', ST c S S' ∧ OC tx L (d + 1) S' O ∧ AR1 d pb S S' O) ∧ ∀ T q m cnt f K, BM tx L q n u T → m + j = cnt → cnt ≤ 20 → j < f → ∃ T', FM T T' ∧ OL tx L (f_X9_readsRepeat_L36 (f_RC (3 - (d + 1))) K (nI d) (nI cnt) (nI pb) f (nI m) T) (K (nI cnt)) T' O := by
  intro j
  induction j with
  | zero => intro n u h; omega
  | succ j ih =>
    intro n u hj1 hj w hn h2
    obtain ⟨O, c, s1, s2, s3⟩ := seq_i hd h6 hB hP (L - pb) pb n u (Nat.le_refl _) hpb w hn h2
    have hm : ∀ T q m cnt f K, BM tx L q n u T → m + (j + 1) = cnt → cnt ≤ 20 → ∃ T2, NT (xput T 0 19 (nI pb)) T2 ∧ AM tx L pb n u T2 ∧ f_X9_readsRepeat_L36 (f_RC (3 - (d + 1))) K (nI d) (nI cnt) (nI pb) (f + 1) (nI m) T = f_X9_readsRepeat_L51 (f_RC (3 - (d + 1))) (fun S12 => f_X9_readsRepeat_L36 (f_RC (3 - (d + 1))) K (nI d) (nI cnt) (nI pb) f (nI (m + 1)) S12) (nI d) (nI cnt) (nI pb) (nI m) FU T2 := fun T q m cnt f K hT hmj hc => by
      obtain ⟨⟨a1, a2, a3⟩, b1, b2, b3, b4⟩ := hT
      obtain ⟨T2, y1, y2, y3⟩ := km_nx (T := xput T 0 19 (nI pb)) (p := pb) (r := n) (u := u) h6 hB hpb ⟨⟨by rw [xp_s, if_neg (by decide)]; exact a1, by rw [xp_s, if_pos rfl], fun i hi => by rw [xp_n (by decide)]; exact a3 i hi⟩, by rw [xp_s, if_neg (by decide)]; exact b1, by rw [xp_s, if_neg (by decide)]; exact b2, by rw [xp_s, if_neg (by decide)]; exact b3, by rw [xp_n (by decide)]; exact b4⟩
      refine ⟨T2, y3, y2, ?_⟩
      rw [f_X9_readsRepeat_L36]
      simp (disch := omega) only [xl_s, ob_s, xb_s, rd_n, wr_n, m_1, m_1b, nI_add, pk_mul, l_0, l_1, l_2, l_3, l_4, l_5, l_6, l_7, l_8, l_9, l_10, l_11, l_12, l_13, l_14, l_15, l_16, l_17, l_18, l_19, l_20, l_21, l_22, l_23, l_24, l_30, l_31, l_32, l_40, l_41, l_48, l_57, l_59, l_64, l_90, l_97, l_99, l_100, l_119, l_122, l_186, l_200, l_255, l_600, l_999, l_1488, l_1000000, i_leF, y1]
    have fm19 : ∀ T, FM T (xput T 0 19 (nI pb)) := fun T => ⟨fun a h0 _ _ => xp_n h0, fun y _ _ h3 => by rw [xp_s, if_neg (by omega)]⟩
    have fuL : L - pb < FU := L_lt (by omega)
    cases O with
    | inl e =>
      refine ⟨.inl e, c, ?_, fun S hS _ _ => ?_, fun T q m cnt f K hT hmj hc hf => ?_⟩
      · obtain ⟨b1, b2⟩ := s1
        have hle : wt (d + 1) * pb ≤ wt (d + 1) * L := Nat.mul_le_mul_left _ hpb
        refine ⟨b1, ?_⟩
        have : 1 * (wt (d + 1) * L - wt (d + 1) * pb + 1) ≤ (j + 1) * (wt (d + 1) * L - wt (d + 1) * pb + 1) := Nat.mul_le_mul_right _ (by omega)
        omega
      · obtain ⟨S', x1, x2, -⟩ := s2 S hS
        exact ⟨S', x1, x2, trivial⟩
      · obtain ⟨f, rfl⟩ : ∃ k, f = k + 1 := ⟨f - 1, by omega⟩
        obtain ⟨T2, y1, y2, y3⟩ := hm T q m cnt f K hT hmj hc
        obtain ⟨T3, z1, z2, z3⟩ := s3 T2 y2 (fun S12 => f_X9_readsRepeat_L36 (f_RC (3 - (d + 1))) K (nI d) (nI cnt) (nI pb) f (nI (m + 1)) S12) (nI cnt) (nI pb) (nI m) FU fuL
        exact ⟨T3, FM_t (fm19 T) (FM_t (NT_FM y1) z1), by rw [y3]; exact z2, z3⟩
    | inr v =>
      obtain ⟨p1, n1, u1⟩ := v
      obtain ⟨a0, a1, a2, a3, a4, a5, a6, a7⟩ := s1
      simp only at a0 a1 a2 a3 a4 a5 a6 a7
      by_cases hj0 : j = 0
      · subst hj0
        refine ⟨.inr (p1, n1, u1), c, ⟨a0, a1, a2, a3, a4, a5, ?_, a7⟩, fun S hS h17 h18 => ?_, fun T q m cnt f K hT hmj hc hf => ?_⟩
        · simp only
          omega
        · obtain ⟨S', x1, x2, x3⟩ := s2 S hS
          exact ⟨S', x1, x2, by rw [(x3 d (by omega)).1]; exact h17, by rw [(x3 d (by omega)).2]; exact h18, fun i hi => x3 i (by omega)⟩
        · obtain ⟨f, rfl⟩ : ∃ k, f = k + 2 := ⟨f - 2, by omega⟩
          obtain ⟨T2, y1, y2, y3⟩ := hm T q m cnt (f + 1) K hT hmj hc
          obtain ⟨T3, z1, z2, z3⟩ := s3 T2 y2 (fun S12 => f_X9_readsRepeat_L36 (f_RC (3 - (d + 1))) K (nI d) (nI cnt) (nI pb) (f + 1) (nI (m + 1)) S12) (nI cnt) (nI pb) (nI m) FU fuL
          refine ⟨T3, FM_t (fm19 T) (FM_t (NT_FM y1) z1), ?_, z3⟩
          rw [y3, z2, f_X9_readsRepeat_L36]
          simp (disch := omega) only [i_leT]
          rw [show m + 1 = cnt by omega]
      · obtain ⟨O2, c2, r1, r2, r3⟩ := ih n1 u1 (by omega) (by omega) a3 a4 a5
        refine ⟨O2, c + (1 + c2), ?_, fun S hS h17 h18 => ?_, fun T q m cnt f K hT hmj hc hf => ?_⟩
        · cases O2 with
          | inl e =>
            obtain ⟨b1, b2⟩ := r1
            have hle : wt (d + 1) * p1 ≤ wt (d + 1) * L := Nat.mul_le_mul_left _ a2
            refine ⟨b1, ?_⟩
            rw [Nat.succ_mul]
            omega
          | inr v =>
            obtain ⟨b1, b2, b3, b4, b5, b6, b7, b8⟩ := r1
            have he : p1 = v.1 := MT_u (a7 0 p1 (MT_z a0)) (b8 0 v.1 (MT_z b1))
            refine ⟨b1, b2, b3, b4, b5, b6, ?_, b8⟩
            rw [Nat.succ_mul, ← he]
            rw [← he] at b7
            omega
        · obtain ⟨S1, x1, x2, x3⟩ := s2 S hS
          obtain ⟨S2, y1, y2, y3, y4, y5⟩ := (kc_cl hd h6 hB a2 x2 a0 (j := j + 1) (by omega) hj (pb := pb) (by omega) (by rw [(x3 d (by omega)).1]; exact h17) (by rw [(x3 d (by omega)).2]; exact h18)).1 (by omega)
          obtain ⟨S3, z1, z2, z3⟩ := r2 S2 y2 y3 y4
          refine ⟨S3, ST_t x1 (ST_t y1 z1), z2, ?_⟩
          cases O2 with
          | inl e => trivial
          | inr v =>
            obtain ⟨q1, q2, q3⟩ := z3
            exact ⟨q1, q2, fun i hi => ⟨by rw [(q3 i hi).1, (y5 i hi).1, (x3 i (by omega)).1], by rw [(q3 i hi).2, (y5 i hi).2, (x3 i (by omega)).2]⟩⟩
        · obtain ⟨f, rfl⟩ : ∃ k, f = k + 1 := ⟨f - 1, by omega⟩
          obtain ⟨T2, y1, y2, y3⟩ := hm T q m cnt f K hT hmj hc
          obtain ⟨T3, z1, z2, z3⟩ := s3 T2 y2 (fun S12 => f_X9_readsRepeat_L36 (f_RC (3 - (d + 1))) K (nI d) (nI cnt) (nI pb) f (nI (m + 1)) S12) (nI cnt) (nI pb) (nI m) FU fuL
          obtain ⟨T4, q1, q2⟩ := r3 T3 (tkE tx L p1) (m + 1) cnt f K z3.1 (by omega) hc (by omega)
          refine ⟨T4, FM_t (fm19 T) (FM_t (NT_FM y1) (FM_t z1 q1)), ?_⟩
          rw [y3, z2]
          exact q2
end
