/-! level 2: both wholes -/
def SN (C T : XS) : Prop := ∃ b : Bool, C 0 2 = nB b ∧ T 0 6 = nB b ∧ (b = true → ∃ v, RC (xs 14 C) v ∧ RM (T 5) v ∧ WF v ∧ v 0 13 ≤ 999)
def HI (C T : XS) : Prop := ∃ h o, h ≤ 8 ∧ o < 8 ∧ C 27 2 = nI h ∧ C 27 1 = nI o ∧ T 0 5 = nI h ∧ ∀ j, j < h → ∃ v, RC (xs (29 + 13 * ((o + j) % 8)) C) v ∧ RM (fun i => T 4 (186 * j + i)) v ∧ WF v ∧ v 0 13 ≤ 999
def IN (C T : XS) : Prop := ∃ n, n ≤ 600 ∧ C 134 1 = nI n ∧ T 0 10 = nI n ∧ ∀ i, i < n → ∃ b, b < 256 ∧ C 135 i = (nI b).toInt8.toInt32 ∧ T 6 i = nI b
def RP (C T : XS) : Prop := ∃ n, n ≤ 59 ∧ C 152 1 = nI n ∧ T 0 15 = nI n ∧ ∀ i, i < n → ∃ b, b < 128 ∧ C 153 i = nI b ∧ T 9 i = nI b
def GI (C T : XS) : Prop := ∃ u, RC (xs 1 C) u ∧ RM (T 1) u ∧ WF u ∧ u 0 13 ≤ 999 ∧ SN C T ∧ HI C T ∧ IN C T ∧ RP C T ∧ C 133 2 = T 0 12 ∧ C 133 3 = T 0 13
section
variable {S T C C' T' : XS} {u v : QU}
theorem SN_cg (h1 : C 0 2 = C' 0 2) (h2 : ∀ a, 14 ≤ a → a < 27 → C a = C' a) (h3 : T 0 6 = T' 0 6) (h4 : T 5 = T' 5) (g : SN C T) : SN C' T' := by
  obtain ⟨b, s1, s2, s3⟩ := g
  refine ⟨b, by rw [← h1]; exact s1, by rw [← h3]; exact s2, fun e => ?_⟩
  obtain ⟨v, v1, v2, v3⟩ := s3 e
  exact ⟨v, RC_cg (fun a ha => h2 (14 + a) (by omega) (by omega)) v1, by rw [← h4]; exact v2, v3⟩
theorem HI_cg (h2 : ∀ a, 27 ≤ a → a < 133 → C a = C' a) (h3 : T 0 5 = T' 0 5) (h4 : T 4 = T' 4) (g : HI C T) : HI C' T' := by
  obtain ⟨h, o, h8, o8, p1, p2, p3, p4⟩ := g
  refine ⟨h, o, h8, o8, by rw [← h2 27 (by decide) (by decide)]; exact p1, by rw [← h2 27 (by decide) (by decide)]; exact p2, by rw [← h3]; exact p3, fun j hj => ?_⟩
  obtain ⟨v, v1, v2, v3⟩ := p4 j hj
  have hm : (o + j) % 8 < 8 := Nat.mod_lt _ (by decide)
  exact ⟨v, RC_cg (fun a ha => h2 (29 + 13 * ((o + j) % 8) + a) (by omega) (by omega)) v1, by rw [← h4]; exact v2, v3⟩
theorem IN_cg (h1 : C 134 1 = C' 134 1) (h2 : C 135 = C' 135) (h3 : T 0 10 = T' 0 10) (h4 : T 6 = T' 6) (g : IN C T) : IN C' T' := by
  obtain ⟨n, a1, a2, a3, a4⟩ := g
  exact ⟨n, a1, by rw [← h1]; exact a2, by rw [← h3]; exact a3, by rw [← h2, ← h4]; exact a4⟩
theorem RP_cg (h1 : C 152 1 = C' 152 1) (h2 : C 153 = C' 153) (h3 : T 0 15 = T' 0 15) (h4 : T 9 = T' 9) (g : RP C T) : RP C' T' := by
  obtain ⟨n, a1, a2, a3, a4⟩ := g
  exact ⟨n, a1, by rw [← h1]; exact a2, by rw [← h3]; exact a3, by rw [← h2, ← h4]; exact a4⟩
theorem GI_cg (e : ∀ a, a < 154 → C a = C' a) (f : ∀ a, a < 11 → T a = T' a) (g : GI C T) : GI C' T' := by
  obtain ⟨u, g1, g2, g3, g4, g5, g6, g7, g8, g9, g10⟩ := g
  refine ⟨u, RC_cg (fun a ha => e (1 + a) (by omega)) g1, by rw [← f 1 (by decide)]; exact g2, g3, g4, SN_cg (by rw [e 0 (by decide)]) (fun a h1 h2 => e a (by omega)) (by rw [f 0 (by decide)]) (f 5 (by decide)) g5, HI_cg (fun a h1 h2 => e a (by omega)) (by rw [f 0 (by decide)]) (f 4 (by decide)) g6, IN_cg (by rw [e 134 (by decide)]) (e 135 (by decide)) (by rw [f 0 (by decide)]) (f 6 (by decide)) g7, RP_cg (by rw [e 152 (by decide)]) (e 153 (by decide)) (by rw [f 0 (by decide)]) (f 9 (by decide)) g8, ?_, ?_⟩
  · rw [← e 133 (by decide), ← f 0 (by decide)]; exact g9
  · rw [← e 133 (by decide), ← f 0 (by decide)]; exact g10
/-- other places of cell 0 of the reference that don't matter: 16 (thrown), 11, 17 to 21; other cells: 2, 3, 7, 8, 10 -/
theorem GI_T (f0 : ∀ x, x ≠ 16 → x ≠ 11 → ¬ (17 ≤ x ∧ x ≤ 21) → T 0 x = T' 0 x) (f : ∀ a, a = 1 ∨ a = 4 ∨ a = 5 ∨ a = 6 ∨ a = 9 → T a = T' a) (g : GI C T) : GI C T' := by
  obtain ⟨u, g1, g2, g3, g4, g5, g6, g7, g8, g9, g10⟩ := g
  refine ⟨u, g1, by rw [← f 1 (by decide)]; exact g2, g3, g4, SN_cg rfl (fun _ _ _ => rfl) (f0 6 (by decide) (by decide) (by decide)) (f 5 (by decide)) g5, HI_cg (fun _ _ _ => rfl) (f0 5 (by decide) (by decide) (by decide)) (f 4 (by decide)) g6, IN_cg rfl rfl (f0 10 (by decide) (by decide) (by decide)) (f 6 (by decide)) g7, RP_cg rfl rfl (f0 15 (by decide) (by decide) (by decide)) (f 9 (by decide)) g8, ?_, ?_⟩
  · rw [g9]; exact f0 12 (by decide) (by decide) (by decide)
  · rw [g10]; exact f0 13 (by decide) (by decide) (by decide)
theorem GI_16 (x : Int32) (g : GI C T) : GI C (xput T 0 16 x) :=
  GI_T (fun y h1 _ _ => by rw [xp_s, if_neg h1]) (fun a ha => by rw [xp_n (by omega)]) g
/-- a change, remembered -/
theorem ch_all (g : GI C T) : ∃ u, RC (xs 1 C) u ∧ RM (T 1) u ∧ WF u ∧ u 0 13 ≤ 999 ∧ ∃ B T2, f_X2_remember (fun i => C (xσ 27 106 1 i)) = some B ∧ RC (xs 1 (xmF (xτ 27 106 1 13) C B)) u ∧ f_X9_begins (xput T 0 16 (nI 0)) = some T2 ∧ RM (T2 1) u ∧
    ∀ u' S2 T3 r, RC S2 u' → RM (T3 1) u' → (∀ i, i ≠ 1 → T3 i = T2 i) → WF u' → u' 0 13 ≤ 999 → ∃ T4, f_X9_remember T3 r = some (r, T4) ∧ GI (xm 1 13 (xmF (xτ 27 106 1 13) C B) S2) T4 ∧ T4 0 16 = nI 0 := by
  obtain ⟨u, g1, g2, g3, g4, g5, g6, g7, g8, g9, g10⟩ := g
  obtain ⟨h, o, h8, o8, p1, p2, p3, p4⟩ := g6
  have hm : (o + h) % 8 < 8 := Nat.mod_lt _ (by decide)
  have hB1 : ∀ i, i < 106 → C (xσ 27 106 1 i) = C (27 + i) := fun i hi => by rw [xS_1 hi]
  have hB2 : ∀ i, C (xσ 27 106 1 (106 + i)) = C (1 + i) := fun i => by rw [xS_2 (by omega), Nat.add_sub_cancel_left]
  obtain ⟨B, b1, b2, b3, b4, b5, b6⟩ := kc_remember (B := fun i => C (xσ 27 106 1 i)) (u := u) (h := h) (o := o) (RC_cg (fun a ha => (hB2 a).symm) g1) g3 (by rw [hB1 0 (by decide)]; exact p1) (by rw [hB1 0 (by decide)]; exact p2) h8 o8
  obtain ⟨T2, t1, t2, t3⟩ := km_begins (T := xput T 0 16 (nI 0))
  have k1 : ∀ a, a < 106 → xmF (xτ 27 106 1 13) C B (27 + a) = B a := fun a ha => by funext y; rw [xF_1 (by omega), Nat.add_sub_cancel_left]
  have k2 : ∀ a, a < 13 → xmF (xτ 27 106 1 13) C B (1 + a) = C (1 + a) := fun a ha => by
    funext y
    rw [xF_2 (by omega) (by omega), Nat.add_sub_cancel_left, b6 _ (by omega), hB2]
  have k3 : ∀ a, (a < 1 ∨ 14 ≤ a) → (a < 27 ∨ 133 ≤ a) → xmF (xτ 27 106 1 13) C B a = C a := fun a h1 h2 => by funext y; exact xF_n (by omega) (by omega)
  refine ⟨u, g1, g2, g3, g4, B, T2, b1, RC_cg (fun a ha => (k2 a ha).symm) g1, t1, by rw [t2 1 (by decide), xp_n (by decide)]; exact g2, ?_⟩
  intro u' S2 T3 r hS hT hf hw hn
  have f4 : T3 4 = T 4 := by rw [hf 4 (by decide), t2 4 (by decide), xp_n (by decide)]
  have f0 : ∀ x, x ≠ 16 → T3 0 x = T 0 x := fun x hx => by rw [hf 0 (by decide), t2 0 (by decide), xp_s, if_neg hx]
  obtain ⟨T4, r1, r2, r3, r4, r5⟩ := km_remember (T := T3) (p0 := r) (h := h) (by rw [f0 5 (by decide)]; exact p3) h8
  have q0 : ∀ x, x ≠ 16 → x ≠ 5 → T4 0 x = T 0 x := fun x h1 h2 => by rw [r3 x h2, f0 x h1]
  have q1 : ∀ a, a ≠ 0 → a ≠ 1 → a ≠ 2 → a ≠ 4 → T4 a = T a := fun a h0 h1 h2 h4 => by rw [r2 a h4 h0, hf a h1, t2 a h2, xp_n h0]
  have m1 : ∀ a, a < 13 → xm 1 13 (xmF (xτ 27 106 1 13) C B) S2 (1 + a) = S2 a := fun a ha => by funext y; rw [xm_i (by omega), Nat.add_sub_cancel_left]
  have m2 : ∀ a, (a < 1 ∨ 14 ≤ a) → xm 1 13 (xmF (xτ 27 106 1 13) C B) S2 a = xmF (xτ 27 106 1 13) C B a := fun a ha => by funext y; exact xm_n (by omega)
  have m3 : ∀ a, (a < 1 ∨ 14 ≤ a) → (a < 27 ∨ 133 ≤ a) → C a = xm 1 13 (xmF (xτ 27 106 1 13) C B) S2 a := fun a h1 h2 => by rw [m2 a h1, k3 a h1 h2]
  have m4 : ∀ a, a < 106 → xm 1 13 (xmF (xτ 27 106 1 13) C B) S2 (27 + a) = B a := fun a ha => by rw [m2 _ (by omega), k1 a ha]
  refine ⟨T4, r1, ⟨u', RC_cg (fun a ha => (m1 a ha).symm) hS, by rw [r2 1 (by decide) (by decide)]; exact hT, hw, hn, SN_cg (by rw [m3 0 (by decide) (by decide)]) (fun a h1 h2 => m3 a (by omega) (by omega)) (q0 6 (by decide) (by decide)).symm (q1 5 (by decide) (by decide) (by decide) (by decide)).symm g5, ?_, IN_cg (by rw [m3 134 (by decide) (by decide)]) (m3 135 (by decide) (by decide)) (q0 10 (by decide) (by decide)).symm (q1 6 (by decide) (by decide) (by decide) (by decide)).symm g7, RP_cg (by rw [m3 152 (by decide) (by decide)]) (m3 153 (by decide) (by decide)) (q0 15 (by decide) (by decide)).symm (q1 9 (by decide) (by decide) (by decide) (by decide)).symm g8, ?_, ?_⟩, ?_⟩
  · have slot : ∀ j v, j < 8 → j ≠ (o + h) % 8 → RC (xs (29 + 13 * j) C) v → RC (xs (29 + 13 * j) (xm 1 13 (xmF (xτ 27 106 1 13) C B) S2)) v := fun j v hj hne hv => RC_cg (fun a ha => by
      show C (29 + 13 * j + a) = xm 1 13 (xmF (xτ 27 106 1 13) C B) S2 (29 + 13 * j + a)
      have e : 29 + 13 * j + a = 27 + (2 + 13 * j + a) := by omega
      rw [e, m4 _ (by omega), b5 j hj hne a ha, hB1 _ (by omega)]) hv
    have own : RC (xs (29 + 13 * ((o + h) % 8)) (xm 1 13 (xmF (xτ 27 106 1 13) C B) S2)) u := RC_cg (fun a ha => by
      show B (2 + 13 * ((o + h) % 8) + a) = xm 1 13 (xmF (xτ 27 106 1 13) C B) S2 (29 + 13 * ((o + h) % 8) + a)
      have e : 29 + 13 * ((o + h) % 8) + a = 27 + (2 + 13 * ((o + h) % 8) + a) := by omega
      rw [e, m4 _ (by omega)]) b4
    have d0 : xm 1 13 (xmF (xτ 27 106 1 13) C B) S2 27 = B 0 := m4 0 (by decide)
    have bef : ∀ i, i < 186 → T3 2 i = T 1 i := fun i hi => by rw [hf 2 (by decide), t3 i hi, xp_n (by decide)]
    by_cases q : h < 8
    · rw [if_pos q] at b2 b3 r4 r5
      refine ⟨h + 1, o, by omega, o8, by rw [d0]; exact b2, by rw [d0]; exact b3, r4, fun j hj => ?_⟩
      have r6 := r5 j hj
      by_cases e : j < h
      · obtain ⟨v, v1, v2, v3⟩ := p4 j e
        refine ⟨v, slot _ v (Nat.mod_lt _ (by decide)) (by omega) v1, RM_cg (fun i hi => ?_) v2, v3⟩
        show _ = T4 4 (186 * j + i)
        rw [r6 i hi, if_pos q, if_pos e, f4]
      · obtain rfl : j = h := by omega
        refine ⟨u, own, RM_cg (fun i hi => ?_) g2, g3, g4⟩
        show _ = T4 4 (186 * j + i)
        rw [r6 i hi, if_pos q, if_neg e, bef i hi]
    · rw [if_neg q] at b2 b3 r4 r5
      refine ⟨h, (o + 1) % 8, by omega, Nat.mod_lt _ (by decide), by rw [d0]; exact b2, by rw [d0]; exact b3, r4, fun j hj => ?_⟩
      have r6 := r5 j hj
      by_cases e : j < 7
      · obtain ⟨v, v1, v2, v3⟩ := p4 (j + 1) (by omega)
        have e2 : ((o + 1) % 8 + j) % 8 = (o + (j + 1)) % 8 := by omega
        rw [e2]
        refine ⟨v, slot _ v (Nat.mod_lt _ (by decide)) (by omega) v1, RM_cg (fun i hi => ?_) v2, v3⟩
        show _ = T4 4 (186 * j + i)
        rw [r6 i hi, if_neg q, if_pos e, f4]
      · have e2 : ((o + 1) % 8 + j) % 8 = (o + h) % 8 := by omega
        rw [e2]
        refine ⟨u, own, RM_cg (fun i hi => ?_) g2, g3, g4⟩
        show _ = T4 4 (186 * j + i)
        rw [r6 i hi, if_neg q, if_neg e, bef i hi]
  · rw [← m3 133 (by decide) (by decide), q0 12 (by decide) (by decide)]; exact g9
  · rw [← m3 133 (by decide) (by decide), q0 13 (by decide) (by decide)]; exact g10
  · rw [r3 16 (by decide), hf 0 (by decide), t2 0 (by decide), xp_s, if_pos rfl]
end
