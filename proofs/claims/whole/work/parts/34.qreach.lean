/-! level 2: what can be reached -/
def rch (E : Nat → Nat → Prop) (s : Nat) : Nat → Nat → Prop
  | 0, k => k = s
  | n + 1, k => rch E s n k ∨ ∃ j, rch E s n j ∧ E j k
section
variable {E : Nat → Nat → Prop} {s k j n m N : Nat}
theorem rch_up (h : rch E s n k) : ∀ d, rch E s (n + d) k
  | 0 => h
  | d + 1 => Or.inl (rch_up h d)
theorem rch_le (h : rch E s n k) (hm : n ≤ m) : rch E s m k := by
  have := rch_up h (m - n)
  rwa [Nat.add_sub_cancel' hm] at this
theorem rch_e (h : rch E s n j) (e : E j k) : rch E s (n + 1) k := Or.inr ⟨j, h, e⟩
theorem rch_in (hE : ∀ j k, E j k → k < N) (hs : s < N) : ∀ {n k}, rch E s n k → k < N
  | 0, _, h => by rw [show _ = s from h]; exact hs
  | _ + 1, _, Or.inl h => rch_in hE hs h
  | _ + 1, _, Or.inr ⟨_, _, e⟩ => hE _ _ e
theorem rch_cong {F : Nat → Nat → Prop} (h : ∀ j k, E j k ↔ F j k) : ∀ {n k}, rch E s n k ↔ rch F s n k
  | 0, _ => Iff.rfl
  | n + 1, k => by
    constructor
    · rintro (h1 | ⟨j, h1, e⟩)
      · exact Or.inl ((rch_cong h).mp h1)
      · exact Or.inr ⟨j, (rch_cong h).mp h1, (h j k).mp e⟩
    · rintro (h1 | ⟨j, h1, e⟩)
      · exact Or.inl ((rch_cong h).mpr h1)
      · exact Or.inr ⟨j, (rch_cong h).mpr h1, (h j k).mpr e⟩
theorem rch_tr {t : Nat} (h : rch E s n t) : ∀ {m k}, rch E t m k → rch E s (n + m) k
  | 0, _, e => by rw [show _ = t from e]; exact h
  | _ + 1, _, Or.inl e => Or.inl (rch_tr h e)
  | _ + 1, _, Or.inr ⟨j, h1, e⟩ => Or.inr ⟨j, rch_tr h h1, e⟩
theorem rch_sy (hE : ∀ j k, E j k → E k j) : ∀ {n k}, rch E s n k → rch E k n s
  | 0, _, h => (show _ = s from h).symm
  | n + 1, k, Or.inl h => Or.inl (rch_sy hE h)
  | n + 1, k, Or.inr ⟨j, h, e⟩ => by
    have h1 : rch E k 1 j := Or.inr ⟨k, rfl, hE _ _ e⟩
    have h2 := rch_tr h1 (rch_sy hE h)
    rwa [Nat.add_comm] at h2
noncomputable def rcc (E : Nat → Nat → Prop) (s n N : Nat) : Nat := fb_ct (fun k => @decide (rch E s n k) (Classical.propDecidable _)) N
theorem ct_lt {p q : Nat → Bool} {i : Nat} (h : ∀ k, k < N → p k = true → q k = true) (hi : i < N) (hp : p i = false) (hq : q i = true) : fb_ct p N < fb_ct q N := by
  have h1 := fb_ct_upd p true hi
  rw [hp, if_neg (show ¬ false = true by decide), if_pos rfl] at h1
  have h2 : fb_ct (fun k => if k = i then true else p k) N ≤ fb_ct q N := fb_ct_sub (fun k hk e => by
    by_cases g : k = i
    · rw [g]; exact hq
    · rw [if_neg g] at e; exact h k hk e)
  omega
theorem rch_st (h : ∀ k, rch E s (n + 1) k → rch E s n k) : ∀ k, rch E s (n + 1 + 1) k → rch E s (n + 1) k := by
  rintro k (h1 | ⟨j, h1, e⟩)
  · exact h1
  · exact Or.inr ⟨j, h j h1, e⟩
theorem rch_cl (hE : ∀ j k, E j k → k < N) (hs : s < N) : ∀ n, (∀ k, rch E s (n + 1) k → rch E s n k) ∨ n + 2 ≤ rcc E s (n + 1) N := by
  have key : ∀ n, ¬ (∀ k, rch E s (n + 1) k → rch E s n k) → rcc E s n N < rcc E s (n + 1) N := by
    intro n hn
    have hx : ∃ k, rch E s (n + 1) k ∧ ¬ rch E s n k := Classical.byContradiction (fun h => hn (fun k hk => Classical.byContradiction (fun h2 => h ⟨k, hk, h2⟩)))
    obtain ⟨k, h1, h2⟩ := hx
    exact ct_lt (fun i _ e => @decide_eq_true _ (Classical.propDecidable _) (Or.inl (@of_decide_eq_true _ (Classical.propDecidable _) e))) (rch_in hE hs h1) (@decide_eq_false _ (Classical.propDecidable _) h2) (@decide_eq_true _ (Classical.propDecidable _) h1)
  intro n
  induction n with
  | zero =>
    refine (Classical.em _).imp id (fun hn => ?_)
    have h1 := key 0 hn
    have h2 : 0 < rcc E s 0 N := fb_ct_pos.mpr ⟨s, hs, @decide_eq_true _ (Classical.propDecidable _) rfl⟩
    omega
  | succ n ih =>
    rcases ih with h | h
    · exact Or.inl (rch_st h)
    · refine (Classical.em _).imp id (fun hn => ?_)
      have h1 := key (n + 1) hn
      omega
/-- all that is reached is reached in N - 1 steps -/
theorem rch_all (hE : ∀ j k, E j k → k < N) (hs : s < N) (hm : N ≤ m + 1) (h : rch E s n k) : rch E s m k := by
  obtain ⟨M, rfl⟩ : ∃ M, N = M + 1 := ⟨N - 1, by omega⟩
  have h1 : ∀ k, rch E s (M + 1) k → rch E s M k := by
    rcases rch_cl hE hs M with h | h
    · exact h
    · have h2 : rcc E s (M + 1) (M + 1) ≤ M + 1 := fb_ct_le _ _
      omega
  have h3 : ∀ d k, rch E s (M + d) k → rch E s M k := by
    intro d
    induction d with
    | zero => exact fun k h => h
    | succ d ih =>
      rintro k (h4 | ⟨j, h4, e⟩)
      · exact ih k h4
      · exact h1 k (Or.inr ⟨j, ih j h4, e⟩)
  have h5 : rch E s M k := h3 n k (rch_le h (by omega))
  exact rch_le h5 (by omega)
/-- a row of sets that grows by all edges, within what is reached -/
theorem rch_row (M : Nat → Nat → Prop) (h0 : M 0 s) (hs : ∀ n k, M n k → M (n + 1) k) (he : ∀ n j k, M n j → E j k → M (n + 1) k) : ∀ {n k}, rch E s n k → M n k
  | 0, _, h => by rw [show _ = s from h]; exact h0
  | n + 1, k, Or.inl h => hs n k (rch_row M h0 hs he h)
  | n + 1, k, Or.inr ⟨j, h, e⟩ => he n j k (rch_row M h0 hs he h) e
end
/-! gutters as edges -/
def ED (u : QU) (al lw j k : Nat) : Prop := al.testBit k = true ∧ ∃ g, g < u 0 3 ∧ lw ≤ u 5 g ∧ (u 3 g = j ∧ u 4 g = k ∨ u 3 g = k ∧ u 4 g = j)
theorem and_two (m a b : Nat) : m &&& (2 ^ a ||| 2 ^ b) = 0 ↔ m.testBit a = false ∧ m.testBit b = false := by
  constructor
  · intro h
    have h1 : ∀ i, (m &&& (2 ^ a ||| 2 ^ b)).testBit i = false := fun i => by rw [h]; exact Nat.zero_testBit i
    have ha := h1 a
    have hb := h1 b
    rw [Nat.testBit_and, Nat.testBit_or, Nat.testBit_two_pow_self, Bool.true_or, Bool.and_true] at ha
    rw [Nat.testBit_and, Nat.testBit_or, Nat.testBit_two_pow_self, Bool.or_true, Bool.and_true] at hb
    exact ⟨ha, hb⟩
  · rintro ⟨ha, hb⟩
    refine Nat.eq_of_testBit_eq (fun i => ?_)
    rw [Nat.testBit_and, Nat.testBit_or, Nat.zero_testBit, Nat.testBit_two_pow, Nat.testBit_two_pow]
    by_cases e : a = i
    · rw [← e, ha]; rfl
    · by_cases e2 : b = i
      · rw [← e2, hb]; rfl
      · rw [decide_eq_false e, decide_eq_false e2, Bool.false_or, Bool.and_false]
theorem two_bit (a b i : Nat) : (2 ^ a ||| 2 ^ b).testBit i = true ↔ i = a ∨ i = b := by
  rw [Nat.testBit_or, Nat.testBit_two_pow, Nat.testBit_two_pow, Bool.or_eq_true, decide_eq_true_eq, decide_eq_true_eq]
  exact ⟨fun h => h.imp Eq.symm Eq.symm, fun h => h.imp Eq.symm Eq.symm⟩
/-- one round of the class over the first n gutters -/
def qps (u : QU) (al lw m : Nat) : Nat → Nat
  | 0 => m
  | g + 1 => if u 5 g < lw then qps u al lw m g else if m &&& (2 ^ u 3 g ||| 2 ^ u 4 g) = 0 then qps u al lw m g else qps u al lw m g ||| ((2 ^ u 3 g ||| 2 ^ u 4 g) &&& al)
def qit (u : QU) (al lw s : Nat) : Nat → Nat
  | 0 => 2 ^ s
  | n + 1 => qps u al lw (qit u al lw s n) (u 0 3)
theorem tb_or {a b i : Nat} : (a ||| b).testBit i = true ↔ a.testBit i = true ∨ b.testBit i = true := by rw [Nat.testBit_or, Bool.or_eq_true]
theorem tb_and {a b i : Nat} : (a &&& b).testBit i = true ↔ a.testBit i = true ∧ b.testBit i = true := by rw [Nat.testBit_and, Bool.and_eq_true]
theorem tb_ne {m a b : Nat} : ¬ m &&& (2 ^ a ||| 2 ^ b) = 0 ↔ m.testBit a = true ∨ m.testBit b = true := by
  rw [and_two]
  cases m.testBit a <;> cases m.testBit b <;> simp
theorem qps_bit (u : QU) (al lw m k : Nat) : ∀ n, (qps u al lw m n).testBit k = true ↔ m.testBit k = true ∨ ∃ g, g < n ∧ lw ≤ u 5 g ∧ (m.testBit (u 3 g) = true ∨ m.testBit (u 4 g) = true) ∧ (k = u 3 g ∨ k = u 4 g) ∧ al.testBit k = true
  | 0 => ⟨Or.inl, fun h => h.elim id (fun ⟨g, hg, _⟩ => absurd hg (Nat.not_lt_zero g))⟩
  | n + 1 => by
    have ih := qps_bit u al lw m k n
    have up : (qps u al lw m n).testBit k = true → m.testBit k = true ∨ ∃ g, g < n + 1 ∧ lw ≤ u 5 g ∧ (m.testBit (u 3 g) = true ∨ m.testBit (u 4 g) = true) ∧ (k = u 3 g ∨ k = u 4 g) ∧ al.testBit k = true := fun h => (ih.mp h).imp id (fun ⟨g, h1, h2⟩ => ⟨g, by omega, h2⟩)
    have dn : (m.testBit k = true ∨ ∃ g, g < n + 1 ∧ lw ≤ u 5 g ∧ (m.testBit (u 3 g) = true ∨ m.testBit (u 4 g) = true) ∧ (k = u 3 g ∨ k = u 4 g) ∧ al.testBit k = true) → (qps u al lw m n).testBit k = true ∨ (lw ≤ u 5 n ∧ (m.testBit (u 3 n) = true ∨ m.testBit (u 4 n) = true) ∧ (k = u 3 n ∨ k = u 4 n) ∧ al.testBit k = true) := by
      rintro (h | ⟨g, h1, h2⟩)
      · exact Or.inl (ih.mpr (Or.inl h))
      · rcases Nat.lt_or_ge g n with q | q
        · exact Or.inl (ih.mpr (Or.inr ⟨g, q, h2⟩))
        · rw [show g = n by omega] at h2; exact Or.inr h2
    rw [qps]
    by_cases e1 : u 5 n < lw
    · rw [if_pos e1]
      exact ⟨up, fun h => (dn h).elim id (fun q => by omega)⟩
    · rw [if_neg e1]
      by_cases e2 : m &&& (2 ^ u 3 n ||| 2 ^ u 4 n) = 0
      · rw [if_pos e2]
        refine ⟨up, fun h => (dn h).elim id (fun q => ?_)⟩
        exact absurd e2 (tb_ne.mpr q.2.1)
      · rw [if_neg e2, tb_or, tb_and, two_bit]
        constructor
        · rintro (h | h)
          · exact up h
          · exact Or.inr ⟨n, by omega, by omega, tb_ne.mp e2, h⟩
        · intro h
          exact (dn h).imp id (fun q => q.2.2)
theorem qit_bit {u : QU} (al lw s : Nat) : ∀ n k, (qit u al lw s n).testBit k = true ↔ rch (ED u al lw) s n k
  | 0, k => by
    rw [qit, Nat.testBit_two_pow, decide_eq_true_eq]
    exact ⟨Eq.symm, Eq.symm⟩
  | n + 1, k => by
    have ih := qit_bit (u := u) al lw s n
    rw [qit, qps_bit]
    constructor
    · rintro (h | ⟨g, h1, h2, h3, h4, h5⟩)
      · exact Or.inl ((ih k).mp h)
      · rcases h4 with rfl | rfl
        · rcases h3 with h3 | h3
          · exact Or.inl ((ih _).mp h3)
          · exact Or.inr ⟨_, (ih _).mp h3, h5, g, h1, h2, Or.inr ⟨rfl, rfl⟩⟩
        · rcases h3 with h3 | h3
          · exact Or.inr ⟨_, (ih _).mp h3, h5, g, h1, h2, Or.inl ⟨rfl, rfl⟩⟩
          · exact Or.inl ((ih _).mp h3)
    · rintro (h | ⟨j, h, h5, g, h1, h2, h3⟩)
      · exact Or.inl ((ih k).mpr h)
      · have hj := (ih j).mpr h
        refine Or.inr ⟨g, h1, h2, ?_, ?_, h5⟩
        · rcases h3 with ⟨rfl, rfl⟩ | ⟨rfl, rfl⟩
          · exact Or.inl hj
          · exact Or.inr hj
        · rcases h3 with ⟨rfl, rfl⟩ | ⟨rfl, rfl⟩
          · exact Or.inr rfl
          · exact Or.inl rfl
theorem qps_lt {u : QU} (w : WF u) {al lw m : Nat} (hm : m < 1024) : ∀ n, n ≤ u 0 3 → qps u al lw m n < 1024
  | 0, _ => hm
  | n + 1, hn => by
    have ih := qps_lt w (al := al) (lw := lw) hm n (by omega)
    have hg : u 3 n < 10 ∧ u 4 n < 10 := by obtain ⟨hB, w0, w3, w7, wN, wk, wg, wc, wd, wo, wv⟩ := w; have := wg n (by omega); omega
    rw [qps]
    split
    · exact ih
    · split
      · exact ih
      · exact Nat.or_lt_two_pow (n := 10) ih (Nat.lt_of_le_of_lt Nat.and_le_left (or_lt hg.1 hg.2))
theorem qit_lt {u : QU} (w : WF u) {al lw s : Nat} (hs : s < 10) : ∀ n, qit u al lw s n < 1024
  | 0 => p2_lt (n := 10) hs
  | n + 1 => qps_lt w (qit_lt w hs n) _ (Nat.le_refl _)
theorem qit_st {u : QU} {al lw s j : Nat} (h : qit u al lw s (j + 1) = qit u al lw s j) : ∀ d, qit u al lw s (j + d) = qit u al lw s j
  | 0 => rfl
  | d + 1 => by
    show qps u al lw (qit u al lw s (j + d)) (u 0 3) = _
    rw [qit_st h d]
    exact h
theorem kc_spread {S : XS} {u : QU} (h : RC S u) (w : WF u) {s al lw st : Nat} (hs : s < 10) (hal : al < 1024) (hlw : lw < 1048576) (hst : st < 1000) : f_X6_spread S (nI s) (nI al) (nI lw) (nI st) = some (nI (qit u al lw s st)) := by
  have hq := qit_lt w (al := al) (lw := lw) hs
  have hq2 := fun m hm n hn => qps_lt w (al := al) (lw := lw) (m := m) hm n hn
  obtain ⟨⟨c0, c3, c7, cN, cG, cA⟩, r1, r2, r3, r4, r5, r6, r7, r8, r9, rT, kw, kg, kb⟩ := h
  obtain ⟨hB, w0, w3, w7, wN, wk, wg, wc, wd, wo, wv⟩ := w
  unfold f_X6_spread
  simp (disch := omega) only [xl_s, ob_s, xb_s, rd_n, wr_n, m_1, m_1b, nI_add, pk_mul, l_0, l_1, l_2, l_3, l_4, l_5, l_6, l_7, l_8, l_9, l_10, l_11, l_12, l_13, l_14, l_15, l_16, l_17, l_18, l_19, l_20, l_21, l_22, l_23, l_24, l_30, l_31, l_32, l_40, l_41, l_48, l_57, l_59, l_64, l_90, l_97, l_99, l_100, l_119, l_122, l_186, l_200, l_255, l_600, l_999, l_1488, l_1000000, sh_n]
  refine q_lp (fun n j m => f_X6_spread_L8 (fun v13 v14 => some v13) S (nI s) (nI al) (nI lw) (nI st) n m (nI j) = some (nI (qit u al lw s st))) (fun j m => m = nI (qit u al lw s j)) st (nI (2 ^ s)) (by omega) rfl ?_ ?_
  · intro n m e
    subst e
    simp (disch := omega) only [f_X6_spread_L8, i_leT]
  · intro n j m hj e ih
    subst e
    have h1 := hq j
    simp (disch := omega) only [f_X6_spread_L8, i_leF, xl_s, ob_s, xb_s, rd_n, wr_n, m_1, m_1b, nI_add, pk_mul, l_0, l_1, l_2, l_3, l_4, l_5, l_6, l_7, l_8, l_9, l_10, l_11, l_12, l_13, l_14, l_15, l_16, l_17, l_18, l_19, l_20, l_21, l_22, l_23, l_24, l_30, l_31, l_32, l_40, l_41, l_48, l_57, l_59, l_64, l_90, l_97, l_99, l_100, l_119, l_122, l_186, l_200, l_255, l_600, l_999, l_1488, l_1000000]
    refine q_lp (fun n2 i m => f_X6_spread_L22 _ S (nI s) (nI al) (nI lw) (nI st) (nI (qit u al lw s j)) (nI j) n2 m (nI i) = _) (fun i m => m = nI (qps u al lw (qit u al lw s j) i)) (u 0 3) (nI (qit u al lw s j)) (by omega) rfl ?_ ?_
    · intro n2 m e
      subst e
      have h2 := hq2 _ h1 _ (Nat.le_refl _)
      simp (disch := omega) only [f_X6_spread_L22, c3, i_leT, xl_s, ob_s, xb_s, rd_n, wr_n, m_1, m_1b, nI_add, pk_mul, l_0, l_1, l_2, l_3, l_4, l_5, l_6, l_7, l_8, l_9, l_10, l_11, l_12, l_13, l_14, l_15, l_16, l_17, l_18, l_19, l_20, l_21, l_22, l_23, l_24, l_30, l_31, l_32, l_40, l_41, l_48, l_57, l_59, l_64, l_90, l_97, l_99, l_100, l_119, l_122, l_186, l_200, l_255, l_600, l_999, l_1488, l_1000000]
      simp (disch := omega) only [nI_eq]
      by_cases e1 : qps u al lw (qit u al lw s j) (u 0 3) = qit u al lw s j
      · rw [if_pos e1]
        have e2 := qit_st (u := u) (al := al) (lw := lw) (s := s) (j := j) e1 (st - j)
        rw [Nat.add_sub_cancel' (by omega)] at e2
        rw [e2]
      · rw [if_neg e1]
        exact ih _ rfl
    · intro n2 i m hi e ih2
      subst e
      have h3 := wg i hi
      simp (disch := omega) only [f_X6_spread_L22, c3, i_leF, xl_s, ob_s, xb_s, rd_n, wr_n, m_1, m_1b, nI_add, pk_mul, l_0, l_1, l_2, l_3, l_4, l_5, l_6, l_7, l_8, l_9, l_10, l_11, l_12, l_13, l_14, l_15, l_16, l_17, l_18, l_19, l_20, l_21, l_22, l_23, l_24, l_30, l_31, l_32, l_40, l_41, l_48, l_57, l_59, l_64, l_90, l_97, l_99, l_100, l_119, l_122, l_186, l_200, l_255, l_600, l_999, l_1488, l_1000000, r3, r4, r5, sh_n, fa_or, lt_u hB, an_z]
      by_cases e1 : u 5 i < lw
      · rw [if_pos e1]
        exact ih2 _ (by rw [qps, if_pos e1])
      · rw [if_neg e1]
        by_cases e2 : qit u al lw s j &&& (2 ^ u 3 i ||| 2 ^ u 4 i) = 0
        · rw [if_pos e2]
          exact ih2 _ (by rw [qps, if_neg e1, if_pos e2])
        · rw [if_neg e2]
          exact ih2 _ (by rw [qps, if_neg e1, if_neg e2, fa_and, fa_or])
/-! the reference's way, in place -/
def qpn (u : QU) (lw m : Nat) : Nat → Nat
  | 0 => m
  | g + 1 => if u 5 g < lw then qpn u lw m g else if qpn u lw m g &&& (2 ^ u 3 g ||| 2 ^ u 4 g) = 0 then qpn u lw m g else qpn u lw m g ||| (2 ^ u 3 g ||| 2 ^ u 4 g)
def qnt (u : QU) (lw s : Nat) : Nat → Nat
  | 0 => 2 ^ s
  | n + 1 => qpn u lw (qnt u lw s n) (u 0 3)
theorem qpn_up {u : QU} {lw m k : Nat} (h : m.testBit k = true) : ∀ n, (qpn u lw m n).testBit k = true
  | 0 => h
  | n + 1 => by
    have ih := qpn_up (u := u) (lw := lw) h n
    rw [qpn]
    split
    · exact ih
    · split
      · exact ih
      · exact tb_or.mpr (Or.inl ih)
theorem qpn_mono {u : QU} {lw m k : Nat} {n : Nat} (h : (qpn u lw m n).testBit k = true) : ∀ d, (qpn u lw m (n + d)).testBit k = true
  | 0 => h
  | d + 1 => by
    have ih := qpn_mono h d
    show (qpn u lw m (n + d + 1)).testBit k = true
    rw [qpn]
    split
    · exact ih
    · split
      · exact ih
      · exact tb_or.mpr (Or.inl ih)
theorem qpn_e {u : QU} {lw m j k g N : Nat} (h : m.testBit j = true) (hg : g < N) (hw : lw ≤ u 5 g) (he : u 3 g = j ∧ u 4 g = k ∨ u 3 g = k ∧ u 4 g = j) : (qpn u lw m N).testBit k = true := by
  have h1 := qpn_up (u := u) (lw := lw) h g
  have h2 : (qpn u lw m (g + 1)).testBit k = true := by
    rw [qpn, if_neg (by omega), if_neg (tb_ne.mpr (by rcases he with ⟨rfl, rfl⟩ | ⟨rfl, rfl⟩; exact Or.inl h1; exact Or.inr h1))]
    exact tb_or.mpr (Or.inr ((two_bit _ _ _).mpr (by rcases he with ⟨rfl, rfl⟩ | ⟨rfl, rfl⟩; exact Or.inr rfl; exact Or.inl rfl)))
  have h3 := qpn_mono h2 (N - (g + 1))
  rwa [Nat.add_sub_cancel' (by omega)] at h3
theorem qpn_dn {u : QU} {lw m s : Nat} {E : Nat → Nat → Prop} (hE : ∀ g, g < u 0 3 → lw ≤ u 5 g → E (u 3 g) (u 4 g) ∧ E (u 4 g) (u 3 g)) (h : ∀ k, m.testBit k = true → ∃ i, rch E s i k) : ∀ n, n ≤ u 0 3 → ∀ k, (qpn u lw m n).testBit k = true → ∃ i, rch E s i k
  | 0, _ => h
  | n + 1, hn => by
    have ih := qpn_dn hE h n (by omega)
    intro k
    rw [qpn]
    by_cases e1 : u 5 n < lw
    · rw [if_pos e1]; exact ih k
    · rw [if_neg e1]
      have he := hE n (by omega) (by omega)
      by_cases e2 : qpn u lw m n &&& (2 ^ u 3 n ||| 2 ^ u 4 n) = 0
      · rw [if_pos e2]; exact ih k
      · rw [if_neg e2, tb_or, two_bit]
        rintro (h1 | rfl | rfl)
        · exact ih k h1
        · rcases tb_ne.mp e2 with h1 | h1
          · exact ih _ h1
          · obtain ⟨i, hi⟩ := ih _ h1; exact ⟨i + 1, rch_e hi he.2⟩
        · rcases tb_ne.mp e2 with h1 | h1
          · obtain ⟨i, hi⟩ := ih _ h1; exact ⟨i + 1, rch_e hi he.1⟩
          · exact ih _ h1
theorem qpn_lt {u : QU} (w : WF u) {lw m : Nat} (hm : m < 1024) : ∀ n, n ≤ u 0 3 → qpn u lw m n < 1024
  | 0, _ => hm
  | n + 1, hn => by
    have ih := qpn_lt w (lw := lw) hm n (by omega)
    have hg : u 3 n < 10 ∧ u 4 n < 10 := by obtain ⟨hB, w0, w3, w7, wN, wk, wg, wc, wd, wo, wv⟩ := w; have := wg n (by omega); omega
    rw [qpn]
    split
    · exact ih
    · split
      · exact ih
      · exact Nat.or_lt_two_pow (n := 10) ih (or_lt hg.1 hg.2)
theorem qnt_lt {u : QU} (w : WF u) {lw s : Nat} (hs : s < 10) : ∀ n, qnt u lw s n < 1024
  | 0 => p2_lt (n := 10) hs
  | n + 1 => qpn_lt w (qnt_lt w hs n) _ (Nat.le_refl _)
/-- both ways come to the same -/
theorem qnt_qit {u : QU} (w : WF u) {lw s : Nat} (hs : s < u 0 0) : qnt u lw s (u 0 0) = qit u (2 ^ u 0 0 - 1) lw s 10 := by
  have w' := w
  obtain ⟨hB, w0, w3, w7, wN, wk, wg, wc, wd, wo, wv⟩ := w
  have hal : ∀ k, k < u 0 0 → (2 ^ u 0 0 - 1).testBit k = true := fun k hk => by rw [Nat.testBit_two_pow_sub_one, decide_eq_true hk]
  have hE : ∀ j k, ED u (2 ^ u 0 0 - 1) lw j k → k < u 0 0 := fun j k h => by
    have := h.1
    rw [Nat.testBit_two_pow_sub_one] at this
    exact of_decide_eq_true this
  have he : ∀ g, g < u 0 3 → lw ≤ u 5 g → ED u (2 ^ u 0 0 - 1) lw (u 3 g) (u 4 g) ∧ ED u (2 ^ u 0 0 - 1) lw (u 4 g) (u 3 g) := fun g hg hl =>
    ⟨⟨hal _ (wg g hg).2.1, g, hg, hl, Or.inl ⟨rfl, rfl⟩⟩, ⟨hal _ (wg g hg).1, g, hg, hl, Or.inr ⟨rfl, rfl⟩⟩⟩
  have hdn : ∀ n k, (qnt u lw s n).testBit k = true → ∃ i, rch (ED u (2 ^ u 0 0 - 1) lw) s i k := by
    intro n
    induction n with
    | zero =>
      intro k hk
      rw [qnt, Nat.testBit_two_pow, decide_eq_true_eq] at hk
      exact ⟨0, hk.symm⟩
    | succ n ih => exact qpn_dn he ih _ (Nat.le_refl _)
  have hup : ∀ {n k}, rch (ED u (2 ^ u 0 0 - 1) lw) s n k → (qnt u lw s n).testBit k = true :=
    fun h => rch_row (fun n k => (qnt u lw s n).testBit k = true) (by rw [qnt, Nat.testBit_two_pow_self]) (fun n k h => qpn_up h _) (fun n j k h e => by
      obtain ⟨-, g, hg, hl, h3⟩ := e
      exact qpn_e h hg hl h3) h
  refine Nat.eq_of_testBit_eq (fun k => Bool.eq_iff_iff.mpr ?_)
  rw [qit_bit]
  constructor
  · intro h
    obtain ⟨i, hi⟩ := hdn _ k h
    exact rch_all hE hs (by omega) hi
  · intro h
    exact hup (rch_all hE hs (by omega) h)
theorem km_reached {T : XS} {u : QU} (h : RM (T 1) u) (w : WF u) {s lw : Nat} (hs : s < 10) (hlw : lw < 1048576) : f_X9_reachedBy T (nI lw) (nI s) = some (nI (qnt u lw s (u 0 0))) := by
  have hq := qnt_lt w (lw := lw) hs
  have hq2 := fun m hm n hn => qpn_lt w (lw := lw) (m := m) hm n hn
  obtain ⟨m0, m1, m2, m3, m4, m5, m6, m7, m8, m9, n1, n2, n3, n4, n5, n6, n7, n8, n9, nT⟩ := h
  obtain ⟨hB, w0, w3, w7, wN, wk, wg, wc, wd, wo, wv⟩ := w
  unfold f_X9_reachedBy
  simp (disch := omega) only [xl_s, ob_s, xb_s, rd_n, wr_n, m_1, m_1b, nI_add, pk_mul, l_0, l_1, l_2, l_3, l_4, l_5, l_6, l_7, l_8, l_9, l_10, l_11, l_12, l_13, l_14, l_15, l_16, l_17, l_18, l_19, l_20, l_21, l_22, l_23, l_24, l_30, l_31, l_32, l_40, l_41, l_48, l_57, l_59, l_64, l_90, l_97, l_99, l_100, l_119, l_122, l_186, l_200, l_255, l_600, l_999, l_1488, l_1000000, sh_n]
  refine q_lp (fun n j m => f_X9_reachedBy_L7 (fun v17 v18 => some v17) T (nI lw) (nI s) n m (nI j) = some (nI (qnt u lw s (u 0 0)))) (fun j m => m = nI (qnt u lw s j)) (u 0 0) (nI (2 ^ s)) (by omega) rfl ?_ ?_
  · intro n m e
    subst e
    simp (disch := omega) only [f_X9_reachedBy_L7, xl_s, ob_s, xb_s, rd_n, wr_n, m_1, m_1b, nI_add, pk_mul, l_0, l_1, l_2, l_3, l_4, l_5, l_6, l_7, l_8, l_9, l_10, l_11, l_12, l_13, l_14, l_15, l_16, l_17, l_18, l_19, l_20, l_21, l_22, l_23, l_24, l_30, l_31, l_32, l_40, l_41, l_48, l_57, l_59, l_64, l_90, l_97, l_99, l_100, l_119, l_122, l_186, l_200, l_255, l_600, l_999, l_1488, l_1000000, m0, i_leT]
  · intro n j m hj e ih
    subst e
    have h1 := hq j
    simp (disch := omega) only [f_X9_reachedBy_L7, xl_s, ob_s, xb_s, rd_n, wr_n, m_1, m_1b, nI_add, pk_mul, l_0, l_1, l_2, l_3, l_4, l_5, l_6, l_7, l_8, l_9, l_10, l_11, l_12, l_13, l_14, l_15, l_16, l_17, l_18, l_19, l_20, l_21, l_22, l_23, l_24, l_30, l_31, l_32, l_40, l_41, l_48, l_57, l_59, l_64, l_90, l_97, l_99, l_100, l_119, l_122, l_186, l_200, l_255, l_600, l_999, l_1488, l_1000000, m0, i_leF]
    refine q_lp (fun n2 i m => f_X9_reachedBy_L21 _ T (nI lw) (nI s) (nI j) n2 m (nI i) = _) (fun i m => m = nI (qpn u lw (qnt u lw s j) i)) (u 0 3) (nI (qnt u lw s j)) (by omega) rfl ?_ ?_
    · intro n2 m e
      subst e
      simp (disch := omega) only [f_X9_reachedBy_L21, m1, i_leT, xl_s, ob_s, xb_s, rd_n, wr_n, m_1, m_1b, nI_add, pk_mul, l_0, l_1, l_2, l_3, l_4, l_5, l_6, l_7, l_8, l_9, l_10, l_11, l_12, l_13, l_14, l_15, l_16, l_17, l_18, l_19, l_20, l_21, l_22, l_23, l_24, l_30, l_31, l_32, l_40, l_41, l_48, l_57, l_59, l_64, l_90, l_97, l_99, l_100, l_119, l_122, l_186, l_200, l_255, l_600, l_999, l_1488, l_1000000]
      exact ih _ rfl
    · intro n2 i m hi e ih2
      subst e
      have h3 := wg i hi
      have h4 := hq2 _ h1 i (by omega)
      simp (disch := omega) only [f_X9_reachedBy_L21, m1, i_leF, xl_s, ob_s, xb_s, rd_n, wr_n, m_1, m_1b, nI_add, pk_mul, l_0, l_1, l_2, l_3, l_4, l_5, l_6, l_7, l_8, l_9, l_10, l_11, l_12, l_13, l_14, l_15, l_16, l_17, l_18, l_19, l_20, l_21, l_22, l_23, l_24, l_30, l_31, l_32, l_40, l_41, l_48, l_57, l_59, l_64, l_90, l_97, l_99, l_100, l_119, l_122, l_186, l_200, l_255, l_600, l_999, l_1488, l_1000000, km_gutter, n3, n4, n5, sh_n, fa_or, lt_u hB, an_z]
      by_cases e1 : u 5 i < lw
      · rw [if_pos e1]
        exact ih2 _ (by rw [qpn, if_pos e1, Nat.or_zero])
      · rw [if_neg e1]
        by_cases e2 : qpn u lw (qnt u lw s j) i &&& (2 ^ u 3 i ||| 2 ^ u 4 i) = 0
        · rw [if_pos e2]
          exact ih2 _ (by rw [qpn, if_neg e1, if_pos e2, Nat.or_zero])
        · rw [if_neg e2]
          exact ih2 _ (by rw [qpn, if_neg e1, if_neg e2])
