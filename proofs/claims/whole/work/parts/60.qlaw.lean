/-! level 2: the law's cases -/
def GS (S : XS) : Prop := GI S (xs 155 S)
section
variable {S C' T' : XS} {K : XS → Option Unit}
theorem len_cats : shCats.length = 154 := Eq.trans rfl rfl
theorem len_w : shW.length = 155 := Eq.trans rfl rfl
theorem len_mod : shMod.length = 11 := Eq.trans rfl rfl
theorem x155 {n : Nat} (hn : n ≤ 155) {S2 : XS} : xs 155 (xm 0 n S S2) = xs 155 S := by
  funext a y
  rw [xs_d, xs_d, xm_n (by omega)]
theorem gs_T (g : GI S T') : GS (xm 155 11 S T') :=
  GI_cg (fun a ha => by funext y; rw [xm_n (by omega)]) (fun a ha => by funext y; rw [xs_d, xm_i (by omega), Nat.add_sub_cancel_left]) g
theorem gs_C {n : Nat} {S2 : XS} (hn : 154 ≤ n) (hn2 : n ≤ 155) (h : ∀ a, a < 154 → S2 a = C' a) (g : GI C' T') : GS (xm 155 11 (xm 0 n S S2) T') :=
  GI_cg (fun a ha => by funext y; rw [xm_n (by omega), xm_i (by omega), Nat.sub_zero, h a ha]) (fun a ha => by funext y; rw [xs_d, xm_i (by omega), Nat.add_sub_cancel_left]) g
/-- a plain question -/
theorem law_q {a : Option Int32} {b : Option (Int32 × XS)} (h : OQ S (xs 155 S) a b) (hK : ∀ S', GS S' → K S' = some ()) : (a.bind fun v1 => (xbind2 b fun v2 S2 => xlet (xm 155 11 S S2) fun S3 => (if v1 = v2 then K S3 else none))) = some () := by
  obtain ⟨r, T', e1, e2, g⟩ := h
  rw [e1, ob_s, e2, xb_s, xl_s, if_pos rfl]
  exact hK _ (gs_T g)
/-- both change -/
theorem law_v {a : Option (Int32 × XS)} (b : XS → Option (Int32 × XS)) (h : OV a (b (xs 155 S))) (hK : ∀ S', GS S' → K S' = some ()) : (xbind2 a fun v1 S2 => xlet (xm 0 154 S S2) fun S2 => (xbind2 (b (xs 155 S2)) fun v3 T2 => xlet (xm 155 11 S2 T2) fun S4 => (if v1 = v3 then K S4 else none))) = some () := by
  obtain ⟨r, C', T', e1, e2, g⟩ := h
  rw [e1, xb_s, xl_s, x155 (by decide), e2, xb_s, xl_s, if_pos rfl]
  exact hK _ (gs_C (by decide) (by decide) (fun _ _ => rfl) g)
theorem law_t {S3 : XS} {v2 : Int32} (b : XS → Option (Int32 × XS)) {r' : Int32} (hb : b (xs 155 S3) = some (r', T')) (h16 : T' 0 16 = v2) (h0 : v2 = 0 → S3 154 0 = r') (hK : K (xm 155 11 S3 T') = some ()) : (xbind2 (b (xs 155 S3)) fun v5 S2 => xlet (xm 155 11 S3 S2) fun S6 => ((f_X9_thrown (xs 155 S6)).bind fun v7 => (if v7 = v2 then (if v2 = 0 then (if ((S6 154 0) : Int32) = v5 then K S6 else none) else K S6) else none))) = some () := by
  have e16 : xm 155 11 S3 T' 155 16 = v2 := by rw [xm_i (by decide)]; exact h16
  have e154 : xm 155 11 S3 T' 154 0 = S3 154 0 := by rw [xm_n (by decide)]
  rw [hb, xb_s, xl_s, f_X9_thrown, ob_s]
  rw [show xs 155 (xm 155 11 S3 T') 0 16 = v2 from e16, if_pos rfl, e154]
  by_cases q : v2 = 0
  · rw [if_pos q, if_pos (h0 q)]; exact hK
  · rw [if_neg q]; exact hK
theorem law_tb {S3 : XS} {v2 : Int32} (b : XS → Option (Int32 × XS)) {r' : Int32} (hb : b (xs 155 S3) = some (r', T')) (h16 : T' 0 16 = v2) (h0 : v2 = 0 → S3 154 0 = if r' = 0 then 0 else 1) (hK : K (xm 155 11 S3 T') = some ()) : (xbind2 (b (xs 155 S3)) fun v5 S2 => xlet (xm 155 11 S3 S2) fun S6 => ((f_X9_thrown (xs 155 S6)).bind fun v7 => (if v7 = v2 then (if v2 = 0 then (if v5 = 0 then (if ((S6 154 0) : Int32) = 0 then K S6 else none) else (if ((S6 154 0) : Int32) = 1 then K S6 else none)) else K S6) else none))) = some () := by
  have e16 : xm 155 11 S3 T' 155 16 = v2 := by rw [xm_i (by decide)]; exact h16
  have e154 : xm 155 11 S3 T' 154 0 = S3 154 0 := by rw [xm_n (by decide)]
  rw [hb, xb_s, xl_s, f_X9_thrown, ob_s]
  rw [show xs 155 (xm 155 11 S3 T') 0 16 = v2 from e16, if_pos rfl, e154]
  by_cases q : v2 = 0
  · rw [if_pos q, h0 q]
    by_cases z : r' = 0
    · rw [if_pos z, if_pos z, if_pos rfl]; exact hK
    · rw [if_neg z, if_neg z, if_pos rfl]; exact hK
  · rw [if_neg q]; exact hK
/-- a call that may throw -/
theorem law_w {l : List (Nat × Nat)} {a : Option XO4} (b : XS → Option (Int32 × XS)) {hx : Nat → XS → Option (Int32 × XS)} (h : OK l a (b (xs 155 S))) (hl : ∀ E k, (E, k) ∈ l → E ≠ 0 ∧ nI k ≠ 0 ∧ ∀ S3, hx E S3 = some (nI k, S3)) (hK : ∀ S', GS S' → K S' = some ()) : (xbind2 (xbW a (fun v S2 => xlet (xm 0 154 S S2) fun S3 => xlet (xput S3 154 0 v) fun S4 => some (0, S4)) (fun E1 S2 => xlet (xm 0 154 S S2) fun S3 => hx E1 S3)) fun v2 S2 => xlet (xm 0 155 S S2) fun S3 => (xbind2 (b (xs 155 S3)) fun v5 S2 => xlet (xm 155 11 S3 S2) fun S6 => ((f_X9_thrown (xs 155 S6)).bind fun v7 => (if v7 = v2 then (if v2 = 0 then (if ((S6 154 0) : Int32) = v5 then K S6 else none) else K S6) else none)))) = some () := by
  obtain ⟨E, r, C', r', T', e1, e2, g, ho⟩ := h
  rcases ho with ⟨rfl, t0, rfl⟩ | ⟨k, hk, t0⟩
  · rw [e1, xbW]
    simp only [if_true, xl_s, xb_s]
    refine law_t b (r' := r) (T' := T') (by rw [x155 (by decide)]; exact e2) t0 (fun _ => ?_) (hK _ (gs_C (by decide) (by decide) (fun a ha => by rw [xp_n (by omega)]; funext y; rw [xm_i (by omega), Nat.sub_zero]) g))
    rw [xm_i (by decide), Nat.sub_zero, xp_s, if_pos rfl]
  · obtain ⟨h1, h2, h3⟩ := hl E k hk
    rw [e1, xbW]
    simp only [if_neg h1, h3, xl_s, xb_s]
    refine law_t b (r' := r') (T' := T') (by rw [x155 (by decide)]; exact e2) t0 (fun z => absurd z h2) (hK _ (gs_C (by decide) (by decide) (fun a ha => by funext y; rw [xm_i (by omega), Nat.sub_zero]) g))
theorem law_wb {l : List (Nat × Nat)} {a : Option XO4} (b : XS → Option (Int32 × XS)) {hx : Nat → XS → Option (Int32 × XS)} (h : OK l a (b (xs 155 S))) (hl : ∀ E k, (E, k) ∈ l → E ≠ 0 ∧ nI k ≠ 0 ∧ ∀ S3, hx E S3 = some (nI k, S3)) (hK : ∀ S', GS S' → K S' = some ()) : (xbind2 (xbW a (fun v S2 => xlet (xm 0 154 S S2) fun S3 => (if v = 0 then xlet (xput S3 154 0 0) fun S4 => some (0, S4) else xlet (xput S3 154 0 1) fun S4 => some (0, S4))) (fun E1 S2 => xlet (xm 0 154 S S2) fun S3 => hx E1 S3)) fun v2 S2 => xlet (xm 0 155 S S2) fun S3 => (xbind2 (b (xs 155 S3)) fun v5 S2 => xlet (xm 155 11 S3 S2) fun S6 => ((f_X9_thrown (xs 155 S6)).bind fun v7 => (if v7 = v2 then (if v2 = 0 then (if v5 = 0 then (if ((S6 154 0) : Int32) = 0 then K S6 else none) else (if ((S6 154 0) : Int32) = 1 then K S6 else none)) else K S6) else none)))) = some () := by
  obtain ⟨E, r, C', r', T', e1, e2, g, ho⟩ := h
  rcases ho with ⟨rfl, t0, rfl⟩ | ⟨k, hk, t0⟩
  · rw [e1, xbW]
    have hi : (if r = 0 then xlet (xput (xm 0 154 S C') 154 0 0) fun S4 => some ((0 : Int32), S4) else xlet (xput (xm 0 154 S C') 154 0 1) fun S4 => some ((0 : Int32), S4)) = some (0, xput (xm 0 154 S C') 154 0 (if r = 0 then 0 else 1)) := by
      by_cases z : r = 0
      · rw [if_pos z, if_pos z, xl_s]
      · rw [if_neg z, if_neg z, xl_s]
    simp only [if_true, xl_s] at hi ⊢
    rw [hi, xb_s]
    refine law_tb b (r' := r) (T' := T') (by rw [x155 (by decide)]; exact e2) t0 (fun _ => ?_) (hK _ (gs_C (by decide) (by decide) (fun a ha => by rw [xp_n (by omega)]; funext y; rw [xm_i (by omega), Nat.sub_zero]) g))
    rw [xm_i (by decide), Nat.sub_zero, xp_s, if_pos rfl]
  · obtain ⟨h1, h2, h3⟩ := hl E k hk
    rw [e1, xbW]
    simp only [if_neg h1, h3, xl_s, xb_s]
    refine law_tb b (r' := r') (T' := T') (by rw [x155 (by decide)]; exact e2) t0 (fun z => absurd z h2) (hK _ (gs_C (by decide) (by decide) (fun a ha => by funext y; rw [xm_i (by omega), Nat.sub_zero]) g))
theorem ll_1_1_2_2_3_3 {P : Nat → Nat → Prop} (h11 : P 1 1) (h22 : P 2 2) (h33 : P 3 3) : ∀ E k, (E, k) ∈ ([(1, 1), (2, 2), (3, 3)] : List (Nat × Nat)) → P E k := by
  intro E k h
  simp only [List.mem_cons, Prod.mk.injEq, List.not_mem_nil, or_false] at h
  rcases h with ⟨rfl, rfl⟩ | ⟨rfl, rfl⟩ | ⟨rfl, rfl⟩
  · exact h11
  · exact h22
  · exact h33
theorem ll_1_1_2_2 {P : Nat → Nat → Prop} (h11 : P 1 1) (h22 : P 2 2) : ∀ E k, (E, k) ∈ ([(1, 1), (2, 2)] : List (Nat × Nat)) → P E k := by
  intro E k h
  simp only [List.mem_cons, Prod.mk.injEq, List.not_mem_nil, or_false] at h
  rcases h with ⟨rfl, rfl⟩ | ⟨rfl, rfl⟩
  · exact h11
  · exact h22
theorem ll_1_1_3_2 {P : Nat → Nat → Prop} (h11 : P 1 1) (h32 : P 3 2) : ∀ E k, (E, k) ∈ ([(1, 1), (3, 2)] : List (Nat × Nat)) → P E k := by
  intro E k h
  simp only [List.mem_cons, Prod.mk.injEq, List.not_mem_nil, or_false] at h
  rcases h with ⟨rfl, rfl⟩ | ⟨rfl, rfl⟩
  · exact h11
  · exact h32
theorem ll_1_1 {P : Nat → Nat → Prop} (h11 : P 1 1) : ∀ E k, (E, k) ∈ ([(1, 1)] : List (Nat × Nat)) → P E k := by
  intro E k h
  simp only [List.mem_cons, Prod.mk.injEq, List.not_mem_nil, or_false] at h
  rcases h with ⟨rfl, rfl⟩
  · exact h11
theorem ll_2_1_3_2 {P : Nat → Nat → Prop} (h21 : P 2 1) (h32 : P 3 2) : ∀ E k, (E, k) ∈ ([(2, 1), (3, 2)] : List (Nat × Nat)) → P E k := by
  intro E k h
  simp only [List.mem_cons, Prod.mk.injEq, List.not_mem_nil, or_false] at h
  rcases h with ⟨rfl, rfl⟩ | ⟨rfl, rfl⟩
  · exact h21
  · exact h32
theorem ll_2_1 {P : Nat → Nat → Prop} (h21 : P 2 1) : ∀ E k, (E, k) ∈ ([(2, 1)] : List (Nat × Nat)) → P E k := by
  intro E k h
  simp only [List.mem_cons, Prod.mk.injEq, List.not_mem_nil, or_false] at h
  rcases h with ⟨rfl, rfl⟩
  · exact h21
theorem ll_4_1 {P : Nat → Nat → Prop} (h41 : P 4 1) : ∀ E k, (E, k) ∈ ([(4, 1)] : List (Nat × Nat)) → P E k := by
  intro E k h
  simp only [List.mem_cons, Prod.mk.injEq, List.not_mem_nil, or_false] at h
  rcases h with ⟨rfl, rfl⟩
  · exact h41
theorem lc_0 {L : Nat} {sx : Nat → Int32} {m4 : Int32} {x1 x2 x3 x4 x5 : Int32} (g : GS S) (r1 : xrd (m4 + 1) L sx = some x1) (r2 : xrd (m4 + 2) L sx = some x2) (r3 : xrd (m4 + 3) L sx = some x3) (r4 : xrd (m4 + 4) L sx = some x4) (r5 : xrd (m4 + 5) L sx = some x5) (hK : ∀ S', GS S' → K S' = some ()) : f_Lc0 L sx K m4 S = some () := by
  have q := q_append g x1 x2 x3 x4 x5
  rw [f_Lc0]
  simp only [len_cats, len_w, len_mod, xs_0, ob_s, r1, r2, r3, r4, r5]
  exact law_v (S := S) (fun T => f_X9_append T x1 x2 x3 x4 x5) q hK
theorem lc_1 {L : Nat} {sx : Nat → Int32} {m4 : Int32} {x1 : Int32} (g : GS S) (r1 : xrd (m4 + 1) L sx = some x1) (hK : ∀ S', GS S' → K S' = some ()) : f_Lc1 L sx K m4 S = some () := by
  have q := q_truncateInput g x1
  rw [f_Lc1]
  simp only [f_L_truncateInput, len_cats, len_w, len_mod, xs_0, ob_s, r1]
  exact law_w (S := S) (fun T => f_X9_truncateInput T x1) q (ll_2_1 ⟨by decide, by decide, fun _ => rfl⟩) hK
theorem lc_2 {L : Nat} {sx : Nat → Int32} {m4 : Int32} (g : GS S)  (hK : ∀ S', GS S' → K S' = some ()) : f_Lc2 L sx K m4 S = some () := by
  have q := q_runScript g 
  rw [f_Lc2]
  simp only [len_cats, len_w, len_mod, xs_0, ob_s]
  exact law_v (S := S) (fun T => f_X9_runScript T ) q hK
theorem lc_3 {L : Nat} {sx : Nat → Int32} {m4 : Int32} {x1 : Int32} (g : GS S) (r1 : xrd (m4 + 1) L sx = some x1) (hK : ∀ S', GS S' → K S' = some ()) : f_Lc3 L sx K m4 S = some () := by
  have q := q_addChimney g x1
  rw [f_Lc3]
  simp only [f_L_addChimney, len_cats, len_w, len_mod, xs_0, ob_s, r1]
  exact law_w (S := S) (fun T => f_X9_addChimney T x1) q (ll_2_1_3_2 ⟨by decide, by decide, fun _ => rfl⟩ ⟨by decide, by decide, fun _ => rfl⟩) hK
theorem lc_4 {L : Nat} {sx : Nat → Int32} {m4 : Int32} {x1 x2 x3 : Int32} (g : GS S) (r1 : xrd (m4 + 1) L sx = some x1) (r2 : xrd (m4 + 2) L sx = some x2) (r3 : xrd (m4 + 3) L sx = some x3) (hK : ∀ S', GS S' → K S' = some ()) : f_Lc4 L sx K m4 S = some () := by
  have q := q_addGutter g x1 x2 x3
  rw [f_Lc4]
  simp only [f_L_addGutter, len_cats, len_w, len_mod, xs_0, ob_s, r1, r2, r3]
  exact law_w (S := S) (fun T => f_X9_addGutter T x1 x2 x3) q (ll_1_1_2_2_3_3 ⟨by decide, by decide, fun _ => rfl⟩ ⟨by decide, by decide, fun _ => rfl⟩ ⟨by decide, by decide, fun _ => rfl⟩) hK
theorem lc_5 {L : Nat} {sx : Nat → Int32} {m4 : Int32} {x1 x2 x3 : Int32} (g : GS S) (r1 : xrd (m4 + 1) L sx = some x1) (r2 : xrd (m4 + 2) L sx = some x2) (r3 : xrd (m4 + 3) L sx = some x3) (hK : ∀ S', GS S' → K S' = some ()) : f_Lc5 L sx K m4 S = some () := by
  have q := q_addCat g x1 x2 x3
  rw [f_Lc5]
  simp only [f_L_addCat, len_cats, len_w, len_mod, xs_0, ob_s, r1, r2, r3]
  exact law_w (S := S) (fun T => f_X9_addCat T x1 x2 x3) q (ll_1_1_2_2_3_3 ⟨by decide, by decide, fun _ => rfl⟩ ⟨by decide, by decide, fun _ => rfl⟩ ⟨by decide, by decide, fun _ => rfl⟩) hK
theorem lc_6 {L : Nat} {sx : Nat → Int32} {m4 : Int32} {x1 x2 : Int32} (g : GS S) (r1 : xrd (m4 + 1) L sx = some x1) (r2 : xrd (m4 + 2) L sx = some x2) (hK : ∀ S', GS S' → K S' = some ()) : f_Lc6 L sx K m4 S = some () := by
  have q := q_step g x1 x2
  rw [f_Lc6]
  simp only [f_L_step, len_cats, len_w, len_mod, xs_0, ob_s, r1, r2]
  exact law_w (S := S) (fun T => f_X9_step T x1 x2) q (ll_1_1_3_2 ⟨by decide, by decide, fun _ => rfl⟩ ⟨by decide, by decide, fun _ => rfl⟩) hK
theorem lc_7 {L : Nat} {sx : Nat → Int32} {m4 : Int32} {x1 : Int32} (g : GS S) (r1 : xrd (m4 + 1) L sx = some x1) (hK : ∀ S', GS S' → K S' = some ()) : f_Lc7 L sx K m4 S = some () := by
  have q := q_claim g x1
  rw [f_Lc7]
  simp only [f_L_claim, len_cats, len_w, len_mod, xs_0, ob_s, r1]
  exact law_w (S := S) (fun T => f_X9_claim T x1) q (ll_1_1_3_2 ⟨by decide, by decide, fun _ => rfl⟩ ⟨by decide, by decide, fun _ => rfl⟩) hK
theorem lc_8 {L : Nat} {sx : Nat → Int32} {m4 : Int32} {x1 : Int32} (g : GS S) (r1 : xrd (m4 + 1) L sx = some x1) (hK : ∀ S', GS S' → K S' = some ()) : f_Lc8 L sx K m4 S = some () := by
  have q := q_abandon g x1
  rw [f_Lc8]
  simp only [f_L_abandon, len_cats, len_w, len_mod, xs_0, ob_s, r1]
  exact law_w (S := S) (fun T => f_X9_abandon T x1) q (ll_1_1_3_2 ⟨by decide, by decide, fun _ => rfl⟩ ⟨by decide, by decide, fun _ => rfl⟩) hK
theorem lc_9 {L : Nat} {sx : Nat → Int32} {m4 : Int32} {x1 x2 : Int32} (g : GS S) (r1 : xrd (m4 + 1) L sx = some x1) (r2 : xrd (m4 + 2) L sx = some x2) (hK : ∀ S', GS S' → K S' = some ()) : f_Lc9 L sx K m4 S = some () := by
  have q := q_chase g x1 x2
  rw [f_Lc9]
  simp only [f_L_chase, len_cats, len_w, len_mod, xs_0, ob_s, r1, r2]
  exact law_wb (S := S) (fun T => f_X9_chase T x1 x2) q (ll_1_1_2_2_3_3 ⟨by decide, by decide, fun _ => rfl⟩ ⟨by decide, by decide, fun _ => rfl⟩ ⟨by decide, by decide, fun _ => rfl⟩) hK
theorem lc_10 {L : Nat} {sx : Nat → Int32} {m4 : Int32} {x1 x2 x3 x4 : Int32} (g : GS S) (r1 : xrd (m4 + 1) L sx = some x1) (r2 : xrd (m4 + 2) L sx = some x2) (r3 : xrd (m4 + 3) L sx = some x3) (r4 : xrd (m4 + 4) L sx = some x4) (hK : ∀ S', GS S' → K S' = some ()) : f_Lc10 L sx K m4 S = some () := by
  have q := q_buyTruce g x1 x2 x3 x4
  rw [f_Lc10]
  simp only [f_L_buyTruce, len_cats, len_w, len_mod, xs_0, ob_s, r1, r2, r3, r4]
  exact law_w (S := S) (fun T => f_X9_buyTruce T x1 x2 x3 x4) q (ll_1_1_2_2_3_3 ⟨by decide, by decide, fun _ => rfl⟩ ⟨by decide, by decide, fun _ => rfl⟩ ⟨by decide, by decide, fun _ => rfl⟩) hK
theorem lc_11 {L : Nat} {sx : Nat → Int32} {m4 : Int32} {x1 x2 : Int32} (g : GS S) (r1 : xrd (m4 + 1) L sx = some x1) (r2 : xrd (m4 + 2) L sx = some x2) (hK : ∀ S', GS S' → K S' = some ()) : f_Lc11 L sx K m4 S = some () := by
  have q := q_nominate g x1 x2
  rw [f_Lc11]
  simp only [f_L_nominate, len_cats, len_w, len_mod, xs_0, ob_s, r1, r2]
  exact law_w (S := S) (fun T => f_X9_nominate T x1 x2) q (ll_2_1_3_2 ⟨by decide, by decide, fun _ => rfl⟩ ⟨by decide, by decide, fun _ => rfl⟩) hK
theorem lc_12 {L : Nat} {sx : Nat → Int32} {m4 : Int32} {x1 x2 : Int32} (g : GS S) (r1 : xrd (m4 + 1) L sx = some x1) (r2 : xrd (m4 + 2) L sx = some x2) (hK : ∀ S', GS S' → K S' = some ()) : f_Lc12 L sx K m4 S = some () := by
  rw [f_Lc12]
  simp only [len_cats, len_w, len_mod, xs_0, ob_s, r1, r2]
  by_cases z : x2 = 0
  · rw [if_pos z]
    simp only [if_pos z]
    have q := q_vote g x1 false
    rw [f_L_vote]
    simp only [len_cats, xs_0]
    exact law_wb (S := S) (fun T => f_X9_vote T x1 0) q (ll_1_1_3_2 ⟨by decide, by decide, fun _ => rfl⟩ ⟨by decide, by decide, fun _ => rfl⟩) hK
  · rw [if_neg z]
    simp only [if_neg z]
    have q := q_vote g x1 true
    rw [f_L_vote]
    simp only [len_cats, xs_0]
    exact law_wb (S := S) (fun T => f_X9_vote T x1 1) q (ll_1_1_3_2 ⟨by decide, by decide, fun _ => rfl⟩ ⟨by decide, by decide, fun _ => rfl⟩) hK
theorem lc_13 {L : Nat} {sx : Nat → Int32} {m4 : Int32} {x1 : Int32} (g : GS S) (r1 : xrd (m4 + 1) L sx = some x1) (hK : ∀ S', GS S' → K S' = some ()) : f_Lc13 L sx K m4 S = some () := by
  have q := q_passNights g x1
  rw [f_Lc13]
  simp only [f_L_passNights, len_cats, len_w, len_mod, xs_0, ob_s, r1]
  exact law_w (S := S) (fun T => f_X9_passNights T x1) q (ll_2_1_3_2 ⟨by decide, by decide, fun _ => rfl⟩ ⟨by decide, by decide, fun _ => rfl⟩) hK
theorem lc_14 {L : Nat} {sx : Nat → Int32} {m4 : Int32} (g : GS S)  (hK : ∀ S', GS S' → K S' = some ()) : f_Lc14 L sx K m4 S = some () := by
  have q := q_undo g 
  rw [f_Lc14]
  simp only [len_cats, len_w, len_mod, xs_0, ob_s]
  exact law_v (S := S) (fun T => f_X9_undo T ) q hK
theorem lc_15 {L : Nat} {sx : Nat → Int32} {m4 : Int32} (g : GS S)  (hK : ∀ S', GS S' → K S' = some ()) : f_Lc15 L sx K m4 S = some () := by
  have q := q_undoCount g 
  rw [f_Lc15]
  simp only [len_cats, len_w, len_mod, xs_0, ob_s]
  exact law_q q hK
theorem lc_16 {L : Nat} {sx : Nat → Int32} {m4 : Int32} (g : GS S)  (hK : ∀ S', GS S' → K S' = some ()) : f_Lc16 L sx K m4 S = some () := by
  have q := q_saveSnapshot g 
  rw [f_Lc16]
  simp only [len_cats, len_w, len_mod, xs_0, ob_s]
  exact law_v (S := S) (fun T => f_X9_saveSnapshot T ) q hK
theorem lc_17 {L : Nat} {sx : Nat → Int32} {m4 : Int32} (g : GS S)  (hK : ∀ S', GS S' → K S' = some ()) : f_Lc17 L sx K m4 S = some () := by
  have q := q_restoreSnapshot g 
  rw [f_Lc17]
  simp only [f_L_restoreSnapshot, len_cats, len_w, len_mod, xs_0, ob_s]
  exact law_w (S := S) (fun T => f_X9_restoreSnapshot T ) q (ll_4_1 ⟨by decide, by decide, fun _ => rfl⟩) hK
theorem lc_18 {L : Nat} {sx : Nat → Int32} {m4 : Int32} (g : GS S)  (hK : ∀ S', GS S' → K S' = some ()) : f_Lc18 L sx K m4 S = some () := by
  have q := q_scriptErrorKind g 
  rw [f_Lc18]
  simp only [len_cats, len_w, len_mod, xs_0, ob_s]
  exact law_q q hK
theorem lc_19 {L : Nat} {sx : Nat → Int32} {m4 : Int32} (g : GS S)  (hK : ∀ S', GS S' → K S' = some ()) : f_Lc19 L sx K m4 S = some () := by
  have q := q_scriptErrorOffset g 
  rw [f_Lc19]
  simp only [len_cats, len_w, len_mod, xs_0, ob_s]
  exact law_q q hK
theorem lc_20 {L : Nat} {sx : Nat → Int32} {m4 : Int32} (g : GS S)  (hK : ∀ S', GS S' → K S' = some ()) : f_Lc20 L sx K m4 S = some () := by
  have q := q_chimneyCount g 
  rw [f_Lc20]
  simp only [len_cats, len_w, len_mod, xs_0, ob_s]
  exact law_q q hK
theorem lc_21 {L : Nat} {sx : Nat → Int32} {m4 : Int32} (g : GS S)  (hK : ∀ S', GS S' → K S' = some ()) : f_Lc21 L sx K m4 S = some () := by
  have q := q_gutterCount g 
  rw [f_Lc21]
  simp only [len_cats, len_w, len_mod, xs_0, ob_s]
  exact law_q q hK
theorem lc_22 {L : Nat} {sx : Nat → Int32} {m4 : Int32} (g : GS S)  (hK : ∀ S', GS S' → K S' = some ()) : f_Lc22 L sx K m4 S = some () := by
  have q := q_catCount g 
  rw [f_Lc22]
  simp only [len_cats, len_w, len_mod, xs_0, ob_s]
  exact law_q q hK
theorem lc_23 {L : Nat} {sx : Nat → Int32} {m4 : Int32} (g : GS S)  (hK : ∀ S', GS S' → K S' = some ()) : f_Lc23 L sx K m4 S = some () := by
  have q := q_night g 
  rw [f_Lc23]
  simp only [len_cats, len_w, len_mod, xs_0, ob_s]
  exact law_q q hK
theorem lc_24 {L : Nat} {sx : Nat → Int32} {m4 : Int32} (g : GS S)  (hK : ∀ S', GS S' → K S' = some ()) : f_Lc24 L sx K m4 S = some () := by
  have q := q_moonPhase g 
  rw [f_Lc24]
  simp only [len_cats, len_w, len_mod, xs_0, ob_s]
  exact law_q q hK
theorem lc_25 {L : Nat} {sx : Nat → Int32} {m4 : Int32} {x1 : Int32} (g : GS S) (r1 : xrd (m4 + 1) L sx = some x1) (hK : ∀ S', GS S' → K S' = some ()) : f_Lc25 L sx K m4 S = some () := by
  have q := q_warmth g x1
  rw [f_Lc25]
  simp only [f_L_warmth, len_cats, len_w, len_mod, xs_0, ob_s, r1]
  exact law_w (S := S) (fun T => f_X9_warmth T x1) q (ll_1_1 ⟨by decide, by decide, fun _ => rfl⟩) hK
theorem lc_26 {L : Nat} {sx : Nat → Int32} {m4 : Int32} {x1 : Int32} (g : GS S) (r1 : xrd (m4 + 1) L sx = some x1) (hK : ∀ S', GS S' → K S' = some ()) : f_Lc26 L sx K m4 S = some () := by
  have q := q_ownerOf g x1
  rw [f_Lc26]
  simp only [f_L_ownerOf, len_cats, len_w, len_mod, xs_0, ob_s, r1]
  exact law_w (S := S) (fun T => f_X9_ownerOf T x1) q (ll_1_1 ⟨by decide, by decide, fun _ => rfl⟩) hK
theorem lc_27 {L : Nat} {sx : Nat → Int32} {m4 : Int32} {x1 : Int32} (g : GS S) (r1 : xrd (m4 + 1) L sx = some x1) (hK : ∀ S', GS S' → K S' = some ()) : f_Lc27 L sx K m4 S = some () := by
  have q := q_catOn g x1
  rw [f_Lc27]
  simp only [f_L_catOn, len_cats, len_w, len_mod, xs_0, ob_s, r1]
  exact law_w (S := S) (fun T => f_X9_catOn T x1) q (ll_1_1 ⟨by decide, by decide, fun _ => rfl⟩) hK
theorem lc_28 {L : Nat} {sx : Nat → Int32} {m4 : Int32} {x1 : Int32} (g : GS S) (r1 : xrd (m4 + 1) L sx = some x1) (hK : ∀ S', GS S' → K S' = some ()) : f_Lc28 L sx K m4 S = some () := by
  have q := q_gutterEnds g x1
  rw [f_Lc28]
  simp only [f_L_gutterEnds, len_cats, len_w, len_mod, xs_0, ob_s, r1]
  exact law_w (S := S) (fun T => f_X9_gutterEnds T x1) q (ll_1_1 ⟨by decide, by decide, fun _ => rfl⟩) hK
theorem lc_29 {L : Nat} {sx : Nat → Int32} {m4 : Int32} {x1 : Int32} (g : GS S) (r1 : xrd (m4 + 1) L sx = some x1) (hK : ∀ S', GS S' → K S' = some ()) : f_Lc29 L sx K m4 S = some () := by
  have q := q_width g x1
  rw [f_Lc29]
  simp only [f_L_width, len_cats, len_w, len_mod, xs_0, ob_s, r1]
  exact law_w (S := S) (fun T => f_X9_width T x1) q (ll_1_1 ⟨by decide, by decide, fun _ => rfl⟩) hK
theorem lc_30 {L : Nat} {sx : Nat → Int32} {m4 : Int32} {x1 x2 : Int32} (g : GS S) (r1 : xrd (m4 + 1) L sx = some x1) (r2 : xrd (m4 + 2) L sx = some x2) (hK : ∀ S', GS S' → K S' = some ()) : f_Lc30 L sx K m4 S = some () := by
  have q := q_widestWay g x1 x2
  rw [f_Lc30]
  simp only [f_L_widestWay, len_cats, len_w, len_mod, xs_0, ob_s, r1, r2]
  exact law_w (S := S) (fun T => f_X9_widestWay T x1 x2) q (ll_1_1 ⟨by decide, by decide, fun _ => rfl⟩) hK
theorem lc_31 {L : Nat} {sx : Nat → Int32} {m4 : Int32} (g : GS S)  (hK : ∀ S', GS S' → K S' = some ()) : f_Lc31 L sx K m4 S = some () := by
  have q := q_warmestFree g 
  rw [f_Lc31]
  simp only [len_cats, len_w, len_mod, xs_0, ob_s]
  exact law_q q hK
theorem lc_32 {L : Nat} {sx : Nat → Int32} {m4 : Int32} {x1 : Int32} (g : GS S) (r1 : xrd (m4 + 1) L sx = some x1) (hK : ∀ S', GS S' → K S' = some ()) : f_Lc32 L sx K m4 S = some () := by
  have q := q_girth g x1
  rw [f_Lc32]
  simp only [f_L_girth, len_cats, len_w, len_mod, xs_0, ob_s, r1]
  exact law_w (S := S) (fun T => f_X9_girth T x1) q (ll_1_1 ⟨by decide, by decide, fun _ => rfl⟩) hK
theorem lc_33 {L : Nat} {sx : Nat → Int32} {m4 : Int32} {x1 : Int32} (g : GS S) (r1 : xrd (m4 + 1) L sx = some x1) (hK : ∀ S', GS S' → K S' = some ()) : f_Lc33 L sx K m4 S = some () := by
  have q := q_power g x1
  rw [f_Lc33]
  simp only [f_L_power, len_cats, len_w, len_mod, xs_0, ob_s, r1]
  exact law_w (S := S) (fun T => f_X9_power T x1) q (ll_1_1 ⟨by decide, by decide, fun _ => rfl⟩) hK
theorem lc_34 {L : Nat} {sx : Nat → Int32} {m4 : Int32} {x1 : Int32} (g : GS S) (r1 : xrd (m4 + 1) L sx = some x1) (hK : ∀ S', GS S' → K S' = some ()) : f_Lc34 L sx K m4 S = some () := by
  have q := q_fish g x1
  rw [f_Lc34]
  simp only [f_L_fish, len_cats, len_w, len_mod, xs_0, ob_s, r1]
  exact law_w (S := S) (fun T => f_X9_fish T x1) q (ll_1_1 ⟨by decide, by decide, fun _ => rfl⟩) hK
theorem lc_35 {L : Nat} {sx : Nat → Int32} {m4 : Int32} {x1 : Int32} (g : GS S) (r1 : xrd (m4 + 1) L sx = some x1) (hK : ∀ S', GS S' → K S' = some ()) : f_Lc35 L sx K m4 S = some () := by
  have q := q_chimneyOf g x1
  rw [f_Lc35]
  simp only [f_L_chimneyOf, len_cats, len_w, len_mod, xs_0, ob_s, r1]
  exact law_w (S := S) (fun T => f_X9_chimneyOf T x1) q (ll_1_1 ⟨by decide, by decide, fun _ => rfl⟩) hK
theorem lc_36 {L : Nat} {sx : Nat → Int32} {m4 : Int32} {x1 : Int32} (g : GS S) (r1 : xrd (m4 + 1) L sx = some x1) (hK : ∀ S', GS S' → K S' = some ()) : f_Lc36 L sx K m4 S = some () := by
  have q := q_ownedChimneys g x1
  rw [f_Lc36]
  simp only [f_L_ownedChimneys, len_cats, len_w, len_mod, xs_0, ob_s, r1]
  exact law_w (S := S) (fun T => f_X9_ownedChimneys T x1) q (ll_1_1 ⟨by decide, by decide, fun _ => rfl⟩) hK
theorem lc_37 {L : Nat} {sx : Nat → Int32} {m4 : Int32} {x1 x2 : Int32} (g : GS S) (r1 : xrd (m4 + 1) L sx = some x1) (r2 : xrd (m4 + 2) L sx = some x2) (hK : ∀ S', GS S' → K S' = some ()) : f_Lc37 L sx K m4 S = some () := by
  have q := q_truceNights g x1 x2
  rw [f_Lc37]
  simp only [f_L_truceNights, len_cats, len_w, len_mod, xs_0, ob_s, r1, r2]
  exact law_w (S := S) (fun T => f_X9_truceNights T x1 x2) q (ll_1_1_2_2 ⟨by decide, by decide, fun _ => rfl⟩ ⟨by decide, by decide, fun _ => rfl⟩) hK
theorem lc_38 {L : Nat} {sx : Nat → Int32} {m4 : Int32} {x1 : Int32} (g : GS S) (r1 : xrd (m4 + 1) L sx = some x1) (hK : ∀ S', GS S' → K S' = some ()) : f_Lc38 L sx K m4 S = some () := by
  have q := q_reachable g x1
  rw [f_Lc38]
  simp only [f_L_reachable, len_cats, len_w, len_mod, xs_0, ob_s, r1]
  exact law_w (S := S) (fun T => f_X9_reachable T x1) q (ll_1_1 ⟨by decide, by decide, fun _ => rfl⟩) hK
theorem lc_39 {L : Nat} {sx : Nat → Int32} {m4 : Int32} {x1 x2 : Int32} (g : GS S) (r1 : xrd (m4 + 1) L sx = some x1) (r2 : xrd (m4 + 2) L sx = some x2) (hK : ∀ S', GS S' → K S' = some ()) : f_Lc39 L sx K m4 S = some () := by
  have q := q_stepsTo g x1 x2
  rw [f_Lc39]
  simp only [f_L_stepsTo, len_cats, len_w, len_mod, xs_0, ob_s, r1, r2]
  exact law_w (S := S) (fun T => f_X9_stepsTo T x1 x2) q (ll_1_1 ⟨by decide, by decide, fun _ => rfl⟩) hK
theorem lc_40 {L : Nat} {sx : Nat → Int32} {m4 : Int32} {x1 : Int32} (g : GS S) (r1 : xrd (m4 + 1) L sx = some x1) (hK : ∀ S', GS S' → K S' = some ()) : f_Lc40 L sx K m4 S = some () := by
  have q := q_openGutters g x1
  rw [f_Lc40]
  simp only [f_L_openGutters, len_cats, len_w, len_mod, xs_0, ob_s, r1]
  exact law_w (S := S) (fun T => f_X9_openGutters T x1) q (ll_1_1 ⟨by decide, by decide, fun _ => rfl⟩) hK
theorem lc_41 {L : Nat} {sx : Nat → Int32} {m4 : Int32} {x1 x2 : Int32} (g : GS S) (r1 : xrd (m4 + 1) L sx = some x1) (r2 : xrd (m4 + 2) L sx = some x2) (hK : ∀ S', GS S' → K S' = some ()) : f_Lc41 L sx K m4 S = some () := by
  have q := q_whyNoStep g x1 x2
  rw [f_Lc41]
  simp only [f_L_whyNoStep, len_cats, len_w, len_mod, xs_0, ob_s, r1, r2]
  exact law_w (S := S) (fun T => f_X9_whyNoStep T x1 x2) q (ll_1_1 ⟨by decide, by decide, fun _ => rfl⟩) hK
theorem lc_42 {L : Nat} {sx : Nat → Int32} {m4 : Int32} {x1 : Int32} (g : GS S) (r1 : xrd (m4 + 1) L sx = some x1) (hK : ∀ S', GS S' → K S' = some ()) : f_Lc42 L sx K m4 S = some () := by
  have q := q_whyNoClaim g x1
  rw [f_Lc42]
  simp only [f_L_whyNoClaim, len_cats, len_w, len_mod, xs_0, ob_s, r1]
  exact law_w (S := S) (fun T => f_X9_whyNoClaim T x1) q (ll_1_1 ⟨by decide, by decide, fun _ => rfl⟩) hK
theorem lc_43 {L : Nat} {sx : Nat → Int32} {m4 : Int32} {x1 x2 : Int32} (g : GS S) (r1 : xrd (m4 + 1) L sx = some x1) (r2 : xrd (m4 + 2) L sx = some x2) (hK : ∀ S', GS S' → K S' = some ()) : f_Lc43 L sx K m4 S = some () := by
  have q := q_whyNoChase g x1 x2
  rw [f_Lc43]
  simp only [f_L_whyNoChase, len_cats, len_w, len_mod, xs_0, ob_s, r1, r2]
  exact law_w (S := S) (fun T => f_X9_whyNoChase T x1 x2) q (ll_1_1_2_2 ⟨by decide, by decide, fun _ => rfl⟩ ⟨by decide, by decide, fun _ => rfl⟩) hK
theorem lc_44 {L : Nat} {sx : Nat → Int32} {m4 : Int32} {x1 : Int32} (g : GS S) (r1 : xrd (m4 + 1) L sx = some x1) (hK : ∀ S', GS S' → K S' = some ()) : f_Lc44 L sx K m4 S = some () := by
  have q := q_preyOf g x1
  rw [f_Lc44]
  simp only [f_L_preyOf, len_cats, len_w, len_mod, xs_0, ob_s, r1]
  exact law_w (S := S) (fun T => f_X9_preyOf T x1) q (ll_1_1 ⟨by decide, by decide, fun _ => rfl⟩) hK
theorem lc_45 {L : Nat} {sx : Nat → Int32} {m4 : Int32} (g : GS S)  (hK : ∀ S', GS S' → K S' = some ()) : f_Lc45 L sx K m4 S = some () := by
  have q := q_isKittenWaiting g 
  rw [f_Lc45]
  simp only [len_cats, len_w, len_mod, xs_0, ob_s]
  exact law_q q hK
theorem lc_46 {L : Nat} {sx : Nat → Int32} {m4 : Int32} (g : GS S)  (hK : ∀ S', GS S' → K S' = some ()) : f_Lc46 L sx K m4 S = some () := by
  have q := q_votesFor g 
  rw [f_Lc46]
  simp only [len_cats, len_w, len_mod, xs_0, ob_s]
  exact law_q q hK
theorem lc_47 {L : Nat} {sx : Nat → Int32} {m4 : Int32} (g : GS S)  (hK : ∀ S', GS S' → K S' = some ()) : f_Lc47 L sx K m4 S = some () := by
  have q := q_votesAgainst g 
  rw [f_Lc47]
  simp only [len_cats, len_w, len_mod, xs_0, ob_s]
  exact law_q q hK
theorem lc_48 {L : Nat} {sx : Nat → Int32} {m4 : Int32} {x1 : Int32} (g : GS S) (r1 : xrd (m4 + 1) L sx = some x1) (hK : ∀ S', GS S' → K S' = some ()) : f_Lc48 L sx K m4 S = some () := by
  have q := q_hasVoted g x1
  rw [f_Lc48]
  simp only [f_L_hasVoted, len_cats, len_w, len_mod, xs_0, ob_s, r1]
  exact law_wb (S := S) (fun T => f_X9_hasVoted T x1) q (ll_1_1 ⟨by decide, by decide, fun _ => rfl⟩) hK
theorem lc_49 {L : Nat} {sx : Nat → Int32} {m4 : Int32} {x1 : Int32} (g : GS S) (r1 : xrd (m4 + 1) L sx = some x1) (hK : ∀ S', GS S' → K S' = some ()) : f_Lc49 L sx K m4 S = some () := by
  have q := q_choirOf g x1
  rw [f_Lc49]
  simp only [f_L_choirOf, len_cats, len_w, len_mod, xs_0, ob_s, r1]
  exact law_w (S := S) (fun T => f_X9_choirOf T x1) q (ll_1_1 ⟨by decide, by decide, fun _ => rfl⟩) hK
theorem lc_50 {L : Nat} {sx : Nat → Int32} {m4 : Int32} (g : GS S)  (hK : ∀ S', GS S' → K S' = some ()) : f_Lc50 L sx K m4 S = some () := by
  have q := q_choirCount g 
  rw [f_Lc50]
  simp only [len_cats, len_w, len_mod, xs_0, ob_s]
  exact law_q q hK
theorem lc_51 {L : Nat} {sx : Nat → Int32} {m4 : Int32} (g : GS S)  (hK : ∀ S', GS S' → K S' = some ()) : f_Lc51 L sx K m4 S = some () := by
  have q := q_largestChoir g 
  rw [f_Lc51]
  simp only [len_cats, len_w, len_mod, xs_0, ob_s]
  exact law_q q hK
theorem lc_52 {L : Nat} {sx : Nat → Int32} {m4 : Int32} (g : GS S)  (hK : ∀ S', GS S' → K S' = some ()) : f_Lc52 L sx K m4 S = some () := by
  have q := q_nightsToFullMoon g 
  rw [f_Lc52]
  simp only [len_cats, len_w, len_mod, xs_0, ob_s]
  exact law_q q hK
theorem lc_53 {L : Nat} {sx : Nat → Int32} {m4 : Int32} {x1 x2 : Int32} (g : GS S) (r1 : xrd (m4 + 1) L sx = some x1) (r2 : xrd (m4 + 2) L sx = some x2) (hK : ∀ S', GS S' → K S' = some ()) : f_Lc53 L sx K m4 S = some () := by
  have q := q_fishAfter g x1 x2
  rw [f_Lc53]
  simp only [f_L_fishAfter, len_cats, len_w, len_mod, xs_0, ob_s, r1, r2]
  exact law_w (S := S) (fun T => f_X9_fishAfter T x1 x2) q (ll_1_1_2_2 ⟨by decide, by decide, fun _ => rfl⟩ ⟨by decide, by decide, fun _ => rfl⟩) hK
theorem lc_54 {L : Nat} {sx : Nat → Int32} {m4 : Int32} (g : GS S)  (hK : ∀ S', GS S' → K S' = some ()) : f_Lc54 L sx K m4 S = some () := by
  have q := q_richestCat g 
  rw [f_Lc54]
  simp only [len_cats, len_w, len_mod, xs_0, ob_s]
  exact law_q q hK
theorem lc_55 {L : Nat} {sx : Nat → Int32} {m4 : Int32} (g : GS S)  (hK : ∀ S', GS S' → K S' = some ()) : f_Lc55 L sx K m4 S = some () := by
  have q := q_totalFish g 
  rw [f_Lc55]
  simp only [len_cats, len_w, len_mod, xs_0, ob_s]
  exact law_q q hK
theorem lc_56 {L : Nat} {sx : Nat → Int32} {m4 : Int32} (g : GS S)  (hK : ∀ S', GS S' → K S' = some ()) : f_Lc56 L sx K m4 S = some () := by
  obtain ⟨v, T', e1, e2, g1⟩ := q_meanFish g
  rw [f_Lc56]
  simp only [len_cats, len_mod, xs_0, e1, xb_s, xl_s, x155 (show 154 ≤ 155 by decide), e2]
  have hk := hK _ (gs_C (S := S) (n := 154) (by decide) (by decide) (fun _ _ => rfl) g1)
  by_cases z : Op.cmpValue (FP.dcmp v v) .l = 0
  · rw [if_pos z]; exact hk
  · rw [if_neg z, if_neg z, if_neg z]; exact hk
theorem lc_57 {L : Nat} {sx : Nat → Int32} {m4 : Int32} (g : GS S)  (hK : ∀ S', GS S' → K S' = some ()) : f_Lc57 L sx K m4 S = some () := by
  obtain ⟨v, T', w, e1, e2, g1, e3⟩ := q_ownedShare g
  rw [f_Lc57]
  simp only [len_cats, len_mod, xs_0, e1, xb_s, xl_s, x155 (show 154 ≤ 155 by decide), e2, e3, ob_s]
  have hk := hK _ (gs_C (S := S) (n := 154) (by decide) (by decide) (fun _ _ => rfl) g1)
  by_cases z : Op.cmpValue (FP.dcmp w w) .l = 0
  · rw [if_pos z]; exact hk
  · rw [if_neg z, if_neg z, if_neg z]; exact hk
theorem lc_58 {L : Nat} {sx : Nat → Int32} {m4 : Int32} (g : GS S)  (hK : ∀ S', GS S' → K S' = some ()) : f_Lc58 L sx K m4 S = some () := by
  have q := q_violations g 
  rw [f_Lc58]
  simp only [len_cats, len_w, len_mod, xs_0, ob_s]
  exact law_q q hK
theorem lc_59 {L : Nat} {sx : Nat → Int32} {m4 : Int32} (g : GS S)  (hK : ∀ S', GS S' → K S' = some ()) : f_Lc59 L sx K m4 S = some () := by
  have q := q_writeRoof g 
  rw [f_Lc59]
  simp only [len_cats, len_w, len_mod, xs_0, ob_s]
  exact law_v (S := S) (fun T => f_X9_writeRoof T ) q hK
theorem lc_60 {L : Nat} {sx : Nat → Int32} {m4 : Int32} {x1 : Int32} (g : GS S) (r1 : xrd (m4 + 1) L sx = some x1) (hK : ∀ S', GS S' → K S' = some ()) : f_Lc60 L sx K m4 S = some () := by
  have q := q_reportByte g x1
  rw [f_Lc60]
  simp only [len_cats, len_w, len_mod, xs_0, ob_s, r1]
  exact law_q q hK
end
