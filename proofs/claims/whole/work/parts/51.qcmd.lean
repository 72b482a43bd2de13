/-! level 2: one command of a script: its numbers, whether it may be done, what it does -/
def legal (u : QU) (k : Nat) (x : Nat → Nat) : Bool :=
  if k = 0 then decide (u 0 0 < 10) else if k = 1 then decide (u 0 3 < 20) else if k = 2 then decide (u 0 7 < 8 ∧ qsit u (x 0) = 0) else if k = 3 then decide (qstep u (x 0) (x 1) = 0) else if k = 4 then decide (qclaim u (x 0) = 0) else if k = 5 then decide (u 2 (x 0) ≠ 0) else if k = 6 then decide (qchase u (x 0) (x 1) = 0) else if k = 7 then qbuy u (x 0) (x 1) (x 2) else if k = 8 then qnom u else if k = 9 then qvot u (x 0) else if k = 10 then qvot u (x 0) else decide (u 0 13 + x 0 ≤ 999)
def app (u : QU) (k : Nat) (x : Nat → Nat) : QU :=
  if k = 0 then qbuild u (x 0) else if k = 1 then qlay u (x 0) (x 1) (x 2) else if k = 2 then qput u (x 0) (x 1) (x 2) else if k = 3 then qgo u (x 0) (x 1) else if k = 4 then qtake u (x 0) else if k = 5 then qrel u (x 0) else if k = 6 then qdrive u (x 0) (x 1) else if k = 7 then qagree u (x 0) (x 1) (x 2) (x 3) else if k = 8 then qarr u (x 0) (x 1) else if k = 9 then qvt u (x 0) true else if k = 10 then qvt u (x 0) false else qN u (x 0)
def rdn (tx : Nat → Nat) (L : Nat) (u : QU) (k : Nat) (F : Nat → (Nat → Nat) → (Nat × Nat) ⊕ (Nat × QU)) : Nat → Nat → Nat → (Nat → Nat) → (Nat × Nat) ⊕ (Nat × QU)
  | 0, _, p, x => F p x
  | d + 1, j, p, x => if tkK tx L p = 2 then (if lt u x ((ll k).getD j 0) (tkV tx L p) = true then rdn tx L u k F d (j + 1) (tkE tx L p) (xu x j (tkV tx L p)) else .inl (2, tkS tx L p)) else .inl (1, tkS tx L p)
/-- what stands behind the numbers -/
def fin (tx : Nat → Nat) (L : Nat) (u : QU) (k p : Nat) (x : Nat → Nat) : (Nat × Nat) ⊕ (Nat × QU) := if tkK tx L p = 5 then (if legal u k x = true then .inr (tkE tx L p, app u k x) else .inl (3, tkS tx L p)) else .inl (1, tkS tx L p)
def cmdO (tx : Nat → Nat) (L : Nat) (u : QU) (k p : Nat) : (Nat × Nat) ⊕ (Nat × QU) := rdn tx L u k (fin tx L u k) (ll k).length 0 p (fun _ => 0)
/-- the numbers of command k are there and each fits -/
def NX (u : QU) (k : Nat) (x : Nat → Nat) (j : Nat) : Prop := (∀ i, x i ≤ 999) ∧ ∀ i, i < j → lt u x ((ll k).getD i 0) (x i) = true
section
variable {tx : Nat → Nat} {L p n d r k : Nat} {u : QU} {S T T' : XS} {x : Nat → Nat}
theorem lt_x {x' : Nat → Nat} {c v : Nat} (h : c = 67 ∨ c = 72 → x 0 = x' 0) : lt u x c v = lt u x' c v := by
  unfold lt
  by_cases q : c = 67
  · rw [if_pos q, if_pos q, h (Or.inl q)]
  rw [if_neg q, if_neg q]
  by_cases q : c = 72
  · rw [if_pos q, if_pos q, h (Or.inr q)]
  rw [if_neg q, if_neg q]
theorem NX_s {j v : Nat} (hk : k < 13) (hj : j < (ll k).length) (h : NX u k x j) (hv : v ≤ 999) (hl : lt u x ((ll k).getD j 0) v = true) : NX u k (xu x j v) (j + 1) := by
  have e0 : ∀ i, i < j + 1 → lt u (xu x j v) ((ll k).getD i 0) = lt u x ((ll k).getD i 0) := fun i hi => by
    funext y
    refine lt_x (fun hc => ?_)
    have h2 := (ll_ch k hk i (by omega)).2.2
    by_cases z : j = 0
    · have : i = 0 := by omega
      have := h2 this
      omega
    · unfold xu; rw [if_neg (by omega)]
  refine ⟨fun i => ?_, fun i hi => ?_⟩
  · unfold xu
    split
    · exact hv
    · exact h.1 i
  · rw [e0 i hi]
    by_cases z : i = j
    · subst z
      have : xu x i v i = v := if_pos rfl
      rw [this]; exact hl
    · have : xu x j v i = x i := if_neg z
      rw [this]; exact h.2 i (by omega)
theorem kc_nums (h6 : L ≤ 600) (hB : ∀ i, tx i < 256) (hk : k < 13) (w : WF u) : ∀ f m j p x S, j + f = (ll k).length → f < m → p ≤ L → BC tx L p n d u S → NX u k x j → (∀ i, i < j → S 16 i = nI (x i)) →
    ∃ b S', f_X7_readNumbers_L7 k (fun v9 S10 => some (1, S10)) m (nI j) S = some (nB b, S') ∧ (b = false → ∃ c o, 1 ≤ c ∧ c ≤ 2 ∧ EC c o S' ∧ ∀ F, rdn tx L u k F f j p x = .inl (c, o)) ∧
      (b = true → ∃ p' x', p ≤ p' ∧ p' ≤ L ∧ (1 ≤ f → p < p') ∧ BC tx L p' n d u S' ∧ NX u k x' (ll k).length ∧ (∀ i, i < (ll k).length → S' 16 i = nI (x' i)) ∧ (∀ a, a ≠ 1 → a ≠ 16 → S' a = S a) ∧ ∀ F, rdn tx L u k F f j p x = F p' x') := by
  obtain ⟨hl1, hl2, hl3⟩ := ll_len k hk
  have hcast : Int32.ofNat (xPlace.getD k []).length = nI (ll k).length := by rw [hl1]; rfl
  intro f
  induction f with
  | zero =>
    intro m j p x S hj hm hp hC hN hS
    obtain ⟨m, rfl⟩ : ∃ k, m = k + 1 := ⟨m - 1, by omega⟩
    refine ⟨true, S, ?_, (fun q => by cases q), fun _ => ⟨p, x, Nat.le_refl p, hp, (fun q => by omega), hC, (by rw [← hj]; exact hN), fun i hi => hS i (by omega), fun _ _ _ => rfl, fun _ => rfl⟩⟩
    rw [f_X7_readNumbers_L7, hcast]
    simp (disch := omega) only [i_leT]
    rfl
  | succ f ih =>
    intro m j p x S hj hm hp hC hN hS
    obtain ⟨m, rfl⟩ : ∃ k, m = k + 1 := ⟨m - 1, by omega⟩
    obtain ⟨x1, x2⟩ := kc_expect h6 hB hp hC 2 (by decide)
    obtain ⟨c1, c2, c3⟩ := ll_ch k hk j (by omega)
    have hcr := cr_n (w := xPlace.getD k []) (i := j) (by omega) (by omega)
    rw [c1] at hcr
    by_cases q : tkK tx L p = 2
    · obtain ⟨S1, s1, s2, s3⟩ := x1 q
      obtain ⟨-, hv, -⟩ := tkV_le (tx := tx) hp q
      have h5 := s2.2.2.2 q
      have h16 : S1 16 = S 16 := s3 16 (by decide)
      have hf := kc_fits (S := S1) (x := x) s2.1.2.2.2.2.2.2 w c2 hv (fun hc => by
        by_cases z : j = 0
        · have := c3 z; omega
        · rw [h16]; exact hS 0 (by omega)) (hN.1 0)
      have hE := tkE_b (tx := tx) hp
      have hpE := tkK_E (tx := tx) hp (by omega)
      cases hl : lt u x ((ll k).getD j 0) (tkV tx L p)
      · rw [hl] at hf
        obtain ⟨S2, f1, f2⟩ := kc_fail (S := S1) 2 s2.2.2.1
        refine ⟨false, S2, ?_, fun _ => ⟨2, tkS tx L p, by decide, by decide, f2, fun F => ?_⟩, fun q => by cases q⟩
        · rw [f_X7_readNumbers_L7, hcast]
          simp (disch := omega) only [xl_s, ob_s, xb_s, rd_n, wr_n, m_1, m_1b, nI_add, pk_mul, l_0, l_1, l_2, l_3, l_4, l_5, l_6, l_7, l_8, l_9, l_10, l_11, l_12, l_13, l_14, l_15, l_16, l_17, l_18, l_19, l_20, l_21, l_22, l_23, l_24, l_30, l_31, l_32, l_40, l_41, l_48, l_57, l_59, l_64, l_90, l_97, l_99, l_100, l_119, l_122, l_186, l_200, l_255, l_600, l_999, l_1488, l_1000000, i_leF, s1, i_eqF, hcr, h5, hf, nBf0, if_true, f1]
          rfl
        · rw [rdn, if_pos q, if_neg (by rw [hl]; decide)]
      · rw [hl] at hf
        have g : ∀ a, a ≠ 16 → xput S1 16 j (nI (tkV tx L p)) a = S1 a := fun a ha => xp_n ha
        obtain ⟨b, S', e1, e2, e3⟩ := ih m (j + 1) (tkE tx L p) (xu x j (tkV tx L p)) (xput S1 16 j (nI (tkV tx L p))) (by omega) (by omega) hE.2.1 (BC_cg (fun y _ => by rw [g 0 (by decide)]) (by rw [g 1 (by decide)]) (by rw [g 1 (by decide)]; exact s2.1.1.2.1) (g 2 (by decide)) (fun a h1 h2 => g a (by omega)) s2.1) (NX_s hk (by omega) hN hv hl) (fun i hi => by
          rw [xp_s]
          unfold xu
          by_cases z : i = j
          · rw [if_pos z, if_pos z]
          · rw [if_neg z, if_neg z, h16]; exact hS i (by omega))
        have hr : ∀ F, rdn tx L u k F (f + 1) j p x = rdn tx L u k F f (j + 1) (tkE tx L p) (xu x j (tkV tx L p)) := fun F => by
          rw [rdn, if_pos q, if_pos hl]
        refine ⟨b, S', ?_, fun z => ?_, fun z => ?_⟩
        · rw [f_X7_readNumbers_L7, hcast]
          simp (disch := omega) only [xl_s, ob_s, xb_s, rd_n, wr_n, m_1, m_1b, nI_add, pk_mul, l_0, l_1, l_2, l_3, l_4, l_5, l_6, l_7, l_8, l_9, l_10, l_11, l_12, l_13, l_14, l_15, l_16, l_17, l_18, l_19, l_20, l_21, l_22, l_23, l_24, l_30, l_31, l_32, l_40, l_41, l_48, l_57, l_59, l_64, l_90, l_97, l_99, l_100, l_119, l_122, l_186, l_200, l_255, l_600, l_999, l_1488, l_1000000, i_leF, s1, i_eqF, hcr, h5, hf, nBt0, if_false]
          exact e1
        · obtain ⟨c, o, a1, a2, a3, a4⟩ := e2 z
          exact ⟨c, o, a1, a2, a3, fun F => by rw [hr, a4]⟩
        · obtain ⟨p', x', a1, a2, a3, a4, a5, a6, a7, a8⟩ := e3 z
          exact ⟨p', x', by omega, a2, fun _ => by omega, a4, a5, a6, fun a h1 h16 => by rw [a7 a h1 h16, g a h16, s3 a h1], fun F => by rw [hr, a8]⟩
    · obtain ⟨S1, s1, s2⟩ := x2 q
      refine ⟨false, S1, ?_, fun _ => ⟨1, tkS tx L p, by decide, by decide, s2, fun F => ?_⟩, fun q => by cases q⟩
      · rw [f_X7_readNumbers_L7, hcast]
        simp (disch := omega) only [xl_s, ob_s, xb_s, rd_n, wr_n, m_1, m_1b, nI_add, pk_mul, l_0, l_1, l_2, l_3, l_4, l_5, l_6, l_7, l_8, l_9, l_10, l_11, l_12, l_13, l_14, l_15, l_16, l_17, l_18, l_19, l_20, l_21, l_22, l_23, l_24, l_30, l_31, l_32, l_40, l_41, l_48, l_57, l_59, l_64, l_90, l_97, l_99, l_100, l_119, l_122, l_186, l_200, l_255, l_600, l_999, l_1488, l_1000000, i_leF, s1, if_true]
        rfl
      · rw [rdn, if_neg q]
theorem lt_99 {v : Nat} : lt u x 99 v = decide (v < u 0 7) := rfl
theorem lt_67 {v : Nat} : lt u x 67 v = decide (v < u 0 7 ∧ v ≠ x 0) := rfl
theorem lt_72 {v : Nat} : lt u x 72 v = decide (v < u 0 0 ∧ v ≠ x 0) := rfl
theorem lt_102 {v : Nat} : lt u x 102 v = decide (1 ≤ v ∧ v ≤ 9) := rfl
theorem lt_103 {v : Nat} : lt u x 103 v = decide (v < u 0 3) := rfl
theorem lt_104 {v : Nat} : lt u x 104 v = decide (v < u 0 0) := rfl
theorem lt_110 {v : Nat} : lt u x 110 v = decide (1 ≤ v ∧ v ≤ 30) := rfl
theorem lt_114 {v : Nat} : lt u x 114 v = decide (1 ≤ v ∧ v ≤ 20) := rfl
theorem lt_115 {v : Nat} : lt u x 115 v = decide (1 ≤ v ∧ v ≤ 9) := rfl
theorem lt_116 {v : Nat} : lt u x 116 v = decide (1 ≤ v ∧ v ≤ 20) := rfl
theorem lt_119 {v : Nat} : lt u x 119 v = decide (v ≤ 9) := rfl
/-- what the numbers of command k are known to be -/
def fits (u : QU) (k : Nat) (x : Nat → Nat) : Prop :=
  (k = 0 → x 0 ≤ 9) ∧ (k = 1 → x 0 < u 0 0 ∧ x 1 < u 0 0 ∧ x 0 ≠ x 1 ∧ 1 ≤ x 2 ∧ x 2 ≤ 9) ∧ (k = 2 → x 0 < u 0 0 ∧ 1 ≤ x 1 ∧ x 1 ≤ 9 ∧ 1 ≤ x 2 ∧ x 2 ≤ 9) ∧ (k = 3 → x 0 < u 0 7 ∧ x 1 < u 0 3) ∧ (k = 4 → x 0 < u 0 7) ∧ (k = 5 → x 0 < u 0 0) ∧ (k = 6 → x 0 < u 0 7 ∧ x 1 < u 0 7 ∧ x 0 ≠ x 1) ∧ (k = 7 → x 0 < u 0 7 ∧ x 1 < u 0 7 ∧ x 0 ≠ x 1 ∧ 1 ≤ x 2 ∧ x 2 ≤ 9 ∧ 1 ≤ x 3 ∧ x 3 ≤ 20) ∧ (k = 8 → 1 ≤ x 0 ∧ x 0 ≤ 9 ∧ 1 ≤ x 1 ∧ x 1 ≤ 9) ∧ (k = 9 → x 0 < u 0 7) ∧ (k = 10 → x 0 < u 0 7) ∧ (k = 11 → 1 ≤ x 0 ∧ x 0 ≤ 30) ∧ (k = 12 → 1 ≤ x 0 ∧ x 0 ≤ 20)
theorem NX_f (h : NX u k x (ll k).length) : fits u k x := by
  have g := h.2
  refine ⟨?_, ?_, ?_, ?_, ?_, ?_, ?_, ?_, ?_, ?_, ?_, ?_, ?_⟩ <;> intro e <;> subst e
  · exact of_decide_eq_true (g 0 (by decide))
  · have a0 := of_decide_eq_true (g 0 (by decide))
    have a1 := of_decide_eq_true (g 1 (by decide))
    have a2 := of_decide_eq_true (g 2 (by decide))
    exact ⟨a0, a1.1, fun z => a1.2 z.symm, a2.1, a2.2⟩
  · have a0 := of_decide_eq_true (g 0 (by decide))
    have a1 := of_decide_eq_true (g 1 (by decide))
    have a2 := of_decide_eq_true (g 2 (by decide))
    exact ⟨a0, a1.1, a1.2, a2.1, a2.2⟩
  · exact ⟨of_decide_eq_true (g 0 (by decide)), of_decide_eq_true (g 1 (by decide))⟩
  · exact of_decide_eq_true (g 0 (by decide))
  · exact of_decide_eq_true (g 0 (by decide))
  · have a0 := of_decide_eq_true (g 0 (by decide))
    have a1 := of_decide_eq_true (g 1 (by decide))
    exact ⟨a0, a1.1, fun z => a1.2 z.symm⟩
  · have a0 := of_decide_eq_true (g 0 (by decide))
    have a1 := of_decide_eq_true (g 1 (by decide))
    have a2 := of_decide_eq_true (g 2 (by decide))
    have a3 := of_decide_eq_true (g 3 (by decide))
    exact ⟨a0, a1.1, fun z => a1.2 z.symm, a2.1, a2.2, a3.1, a3.2⟩
  · have a0 := of_decide_eq_true (g 0 (by decide))
    have a1 := of_decide_eq_true (g 1 (by decide))
    exact ⟨a0.1, a0.2, a1.1, a1.2⟩
  · exact of_decide_eq_true (g 0 (by decide))
  · exact of_decide_eq_true (g 0 (by decide))
  · exact of_decide_eq_true (g 0 (by decide))
  · exact of_decide_eq_true (g 0 (by decide))
theorem wf_app (hk : k < 12) (w : WF u) (hn : u 0 13 ≤ 999) (hf : fits u k x) (hl : legal u k x = true) : WF (app u k x) ∧ app u k x 0 13 ≤ 999 := by
  obtain ⟨f0, f1, f2, f3, f4, f5, f6, f7, f8, f9, f10, f11, -⟩ := hf
  have h12 : k = 0 ∨ k = 1 ∨ k = 2 ∨ k = 3 ∨ k = 4 ∨ k = 5 ∨ k = 6 ∨ k = 7 ∨ k = 8 ∨ k = 9 ∨ k = 10 ∨ k = 11 := by omega
  rcases h12 with rfl | rfl | rfl | rfl | rfl | rfl | rfl | rfl | rfl | rfl | rfl | rfl
  · exact ⟨wf_build w (of_decide_eq_true hl) (f0 rfl), (show qbuild u (x 0) 0 13 ≤ 999 by rw [n13_qbuild (x 0) 0 0 0]; exact hn)⟩
  · have f := f1 rfl
    exact ⟨wf_lay w (of_decide_eq_true hl) f.1 f.2.1 f.2.2.1 f.2.2.2, (show qlay u (x 0) (x 1) (x 2) 0 13 ≤ 999 by rw [n13_qlay (x 0) (x 1) 0 (x 2)]; exact hn)⟩
  · have f := f2 rfl
    have z := of_decide_eq_true hl
    exact ⟨wf_put w z.1 f.1 z.2 ⟨f.2.1, f.2.2.1⟩ f.2.2.2, (show qput u (x 0) (x 1) (x 2) 0 13 ≤ 999 by rw [n13_qput (x 0) (x 1) 0 (x 2)]; exact hn)⟩
  · have f := f3 rfl
    exact ⟨wf_go w f.1 f.2 (of_decide_eq_true hl), (show qgo u (x 0) (x 1) 0 13 ≤ 999 by rw [n13_qgo (x 0) (x 1) 0 0]; exact hn)⟩
  · exact ⟨wf_take w (f4 rfl) (of_decide_eq_true hl), (show qtake u (x 0) 0 13 ≤ 999 by rw [n13_qtake (x 0) 0 0 0]; exact hn)⟩
  · exact ⟨wf_rel w (f5 rfl), (show qrel u (x 0) 0 13 ≤ 999 by rw [n13_qrel (x 0) 0 0 0]; exact hn)⟩
  · have f := f6 rfl
    exact ⟨wf_drive w f.1 f.2.1 f.2.2, (show qdrive u (x 0) (x 1) 0 13 ≤ 999 by rw [n13_drive (x 0) (x 1)]; exact hn)⟩
  · have f := f7 rfl
    exact ⟨wf_agree w f.1 f.2.1 hl (by omega), (show qagree u (x 0) (x 1) (x 2) (x 3) 0 13 ≤ 999 by rw [n13_qagree (x 0) (x 1) (x 2) (x 3)]; exact hn)⟩
  · have f := f8 rfl
    exact ⟨wf_arr w ⟨f.1, f.2.1⟩ f.2.2, (show qarr u (x 0) (x 1) 0 13 ≤ 999 by rw [n13_qarr (x 0) (x 1) 0 0]; exact hn)⟩
  · exact ⟨wf_vt w (f9 rfl) hl true, (show qvt u (x 0) true 0 13 ≤ 999 by rw [n13_vt (x 0) true]; exact hn)⟩
  · exact ⟨wf_vt w (f10 rfl) hl false, (show qvt u (x 0) false 0 13 ≤ 999 by rw [n13_vt (x 0) false]; exact hn)⟩
  · have z : u 0 13 + x 0 ≤ 999 := of_decide_eq_true hl
    exact ⟨wf_N w (by omega), z⟩
theorem sw_k : ∀ k, k < 12 → xSw.getD k 0 = nI (k + 1) := by decide +kernel
theorem xz_0p {P : Prop} {i : Decidable P} : (@ite _ P i (some (0 : Int32)) (some 1)) = some (nB (decide (¬ P))) := by
  by_cases h : P
  · rw [if_pos h, nB_n (fun z => z h)]; rfl
  · rw [if_neg h, nB_d h]; rfl
theorem kc_refused (hk : k < 12) (hR : RC (xs 3 S) u) (w : WF u) (hn : u 0 13 ≤ 999) (hf : fits u k x) (hx : ∀ i, i < (ll k).length → S 16 i = nI (x i)) : f_X7_isRefused S k = some (nB (!legal u k x)) := by
  obtain ⟨f0, f1, f2, f3, f4, f5, f6, f7, f8, f9, f10, f11, -⟩ := hf
  have x0 : S 16 0 = nI (x 0) := hx 0 (by have := (ll_len k (by omega)).2.1; omega)
  have b0 : u 0 0 ≤ 10 ∧ u 0 3 ≤ 20 ∧ u 0 7 ≤ 8 := by obtain ⟨hB, w0, w3, w7, wN, wk, wg, wc, wd, wo, wv⟩ := w; exact ⟨w0, w3, w7⟩
  have r0 : xrd (0 : Int32) 4 (S 16) = some (nI (x 0)) := by rw [l_0, rd_n (by decide) (by decide), x0]
  have r1 : xrd (1 : Int32) 4 (S 16) = some (S 16 1) := rd_n (i := 1) (by decide) (by decide)
  have rs : xrd (nI k) 13 (fun j => xSw.getD j 0) = some (nI (k + 1)) := by rw [rd_n (by omega) (by decide), sw_k k hk]
  have h12 : k = 0 ∨ k = 1 ∨ k = 2 ∨ k = 3 ∨ k = 4 ∨ k = 5 ∨ k = 6 ∨ k = 7 ∨ k = 8 ∨ k = 9 ∨ k = 10 ∨ k = 11 := by omega
  rcases h12 with rfl | rfl | rfl | rfl | rfl | rfl | rfl | rfl | rfl | rfl | rfl | rfl
  · have e : S 3 0 = nI (u 0 0) := hR.1.1
    show _ = some (nB (!decide (u 0 0 < 10)))
    rw [f_X7_isRefused, r0, ob_s, r1, ob_s, rs, ob_s, if_pos (by decide)]
    simp (disch := omega) only [xl_s, ob_s, xb_s, rd_n, wr_n, m_1, m_1b, nI_add, pk_mul, l_0, l_1, l_2, l_3, l_4, l_5, l_6, l_7, l_8, l_9, l_10, l_11, l_12, l_13, l_14, l_15, l_16, l_17, l_18, l_19, l_20, l_21, l_22, l_23, l_24, l_30, l_31, l_32, l_40, l_41, l_48, l_57, l_59, l_64, l_90, l_97, l_99, l_100, l_119, l_122, l_186, l_200, l_255, l_600, l_999, l_1488, l_1000000, e]
    by_cases z : u 0 0 < 10
    · simp (disch := omega) only [i_ltT, decide_eq_true z, Bool.not_true]; rfl
    · simp (disch := omega) only [i_ltF, decide_eq_false z, Bool.not_false]; rfl
  · have e : S 3 3 = nI (u 0 3) := hR.1.2.1
    show _ = some (nB (!decide (u 0 3 < 20)))
    rw [f_X7_isRefused, r0, ob_s, r1, ob_s, rs, ob_s, if_neg (by decide), if_pos (by decide)]
    simp (disch := omega) only [xl_s, ob_s, xb_s, rd_n, wr_n, m_1, m_1b, nI_add, pk_mul, l_0, l_1, l_2, l_3, l_4, l_5, l_6, l_7, l_8, l_9, l_10, l_11, l_12, l_13, l_14, l_15, l_16, l_17, l_18, l_19, l_20, l_21, l_22, l_23, l_24, l_30, l_31, l_32, l_40, l_41, l_48, l_57, l_59, l_64, l_90, l_97, l_99, l_100, l_119, l_122, l_186, l_200, l_255, l_600, l_999, l_1488, l_1000000, e]
    by_cases z : u 0 3 < 20
    · simp (disch := omega) only [i_ltT, decide_eq_true z, Bool.not_true]; rfl
    · simp (disch := omega) only [i_ltF, decide_eq_false z, Bool.not_false]; rfl
  · have f := f2 rfl
    have e := kc_refCat hR w (k := x 0) (by omega)
    show _ = some (nB (!decide (u 0 7 < 8 ∧ qsit u (x 0) = 0)))
    rw [f_X7_isRefused, r0, ob_s, r1, ob_s, rs, ob_s, if_neg (by decide), if_neg (by decide), if_pos (by decide)]
    simp (disch := omega) only [xl_s, ob_s, xb_s, rd_n, wr_n, m_1, m_1b, nI_add, pk_mul, l_0, l_1, l_2, l_3, l_4, l_5, l_6, l_7, l_8, l_9, l_10, l_11, l_12, l_13, l_14, l_15, l_16, l_17, l_18, l_19, l_20, l_21, l_22, l_23, l_24, l_30, l_31, l_32, l_40, l_41, l_48, l_57, l_59, l_64, l_90, l_97, l_99, l_100, l_119, l_122, l_186, l_200, l_255, l_600, l_999, l_1488, l_1000000, e, xz_b]
  · have f := f3 rfl
    have x1 : S 16 1 = nI (x 1) := hx 1 (by decide)
    have e := kc_step hR w f.1 f.2
    have q3 := qstep_le u (x 0) (x 1)
    show _ = some (nB (!decide (qstep u (x 0) (x 1) = 0)))
    rw [f_X7_isRefused, r0, ob_s, r1, ob_s, rs, ob_s, if_neg (by decide), if_neg (by decide), if_neg (by decide), if_pos (by decide)]
    simp (disch := omega) only [xl_s, ob_s, xb_s, rd_n, wr_n, m_1, m_1b, nI_add, pk_mul, l_0, l_1, l_2, l_3, l_4, l_5, l_6, l_7, l_8, l_9, l_10, l_11, l_12, l_13, l_14, l_15, l_16, l_17, l_18, l_19, l_20, l_21, l_22, l_23, l_24, l_30, l_31, l_32, l_40, l_41, l_48, l_57, l_59, l_64, l_90, l_97, l_99, l_100, l_119, l_122, l_186, l_200, l_255, l_600, l_999, l_1488, l_1000000, x1, e]
    by_cases z : qstep u (x 0) (x 1) = 0
    · simp (disch := omega) only [i_eqT, decide_eq_true z, Bool.not_true]; rfl
    · simp (disch := omega) only [i_eqF, decide_eq_false z, Bool.not_false]; rfl
  · have e := kc_claim hR w (f4 rfl)
    have q3 := qclaim_le u (x 0)
    show _ = some (nB (!decide (qclaim u (x 0) = 0)))
    rw [f_X7_isRefused, r0, ob_s, r1, ob_s, rs, ob_s, if_neg (by decide), if_neg (by decide), if_neg (by decide), if_neg (by decide), if_pos (by decide)]
    simp (disch := omega) only [xl_s, ob_s, xb_s, rd_n, wr_n, m_1, m_1b, nI_add, pk_mul, l_0, l_1, l_2, l_3, l_4, l_5, l_6, l_7, l_8, l_9, l_10, l_11, l_12, l_13, l_14, l_15, l_16, l_17, l_18, l_19, l_20, l_21, l_22, l_23, l_24, l_30, l_31, l_32, l_40, l_41, l_48, l_57, l_59, l_64, l_90, l_97, l_99, l_100, l_119, l_122, l_186, l_200, l_255, l_600, l_999, l_1488, l_1000000, e]
    by_cases z : qclaim u (x 0) = 0
    · simp (disch := omega) only [i_eqT, decide_eq_true z, Bool.not_true]; rfl
    · simp (disch := omega) only [i_eqF, decide_eq_false z, Bool.not_false]; rfl
  · have f := f5 rfl
    have e : S 5 (x 0) = oI (u 2 (x 0)) := hR.2.2.1 (x 0) f
    have q3 : u 2 (x 0) < 1048576 := by obtain ⟨hB, w0, w3, w7, wN, wk, wg, wc, wd, wo, wv⟩ := w; exact hB 2 (x 0) (by decide)
    show _ = some (nB (!decide (u 2 (x 0) ≠ 0)))
    rw [f_X7_isRefused, r0, ob_s, r1, ob_s, rs, ob_s, if_neg (by decide), if_neg (by decide), if_neg (by decide), if_neg (by decide), if_neg (by decide), if_pos (by decide)]
    simp (disch := omega) only [xl_s, ob_s, xb_s, rd_n, wr_n, m_1, m_1b, nI_add, pk_mul, l_0, l_1, l_2, l_3, l_4, l_5, l_6, l_7, l_8, l_9, l_10, l_11, l_12, l_13, l_14, l_15, l_16, l_17, l_18, l_19, l_20, l_21, l_22, l_23, l_24, l_30, l_31, l_32, l_40, l_41, l_48, l_57, l_59, l_64, l_90, l_97, l_99, l_100, l_119, l_122, l_186, l_200, l_255, l_600, l_999, l_1488, l_1000000, e]
    by_cases z : u 2 (x 0) = 0
    · simp (disch := omega) only [i_oT, decide_eq_false (fun t : u 2 (x 0) ≠ 0 => t z), Bool.not_false]; rfl
    · simp (disch := omega) only [i_oF, decide_eq_true z, Bool.not_true]; rfl
  · have f := f6 rfl
    have x1 : S 16 1 = nI (x 1) := hx 1 (by decide)
    have e := kc_chase hR w f.1 f.2.1 f.2.2
    have q3 := qchase_le u (x 0) (x 1)
    show _ = some (nB (!decide (qchase u (x 0) (x 1) = 0)))
    rw [f_X7_isRefused, r0, ob_s, r1, ob_s, rs, ob_s, if_neg (by decide), if_neg (by decide), if_neg (by decide), if_neg (by decide), if_neg (by decide), if_neg (by decide), if_pos (by decide)]
    simp (disch := omega) only [xl_s, ob_s, xb_s, rd_n, wr_n, m_1, m_1b, nI_add, pk_mul, l_0, l_1, l_2, l_3, l_4, l_5, l_6, l_7, l_8, l_9, l_10, l_11, l_12, l_13, l_14, l_15, l_16, l_17, l_18, l_19, l_20, l_21, l_22, l_23, l_24, l_30, l_31, l_32, l_40, l_41, l_48, l_57, l_59, l_64, l_90, l_97, l_99, l_100, l_119, l_122, l_186, l_200, l_255, l_600, l_999, l_1488, l_1000000, x1, e]
    by_cases z : qchase u (x 0) (x 1) = 0
    · simp (disch := omega) only [i_eqT, decide_eq_true z, Bool.not_true]; rfl
    · simp (disch := omega) only [i_eqF, decide_eq_false z, Bool.not_false]; rfl
  · have f := f7 rfl
    have x1 : S 16 1 = nI (x 1) := hx 1 (by decide)
    have x2 : S 16 2 = nI (x 2) := hx 2 (by decide)
    have e := kc_refTruce hR w f.1 f.2.1 (f := x 2) (by omega)
    show _ = some (nB (!qbuy u (x 0) (x 1) (x 2)))
    rw [f_X7_isRefused, r0, ob_s, r1, ob_s, rs, ob_s, if_neg (by decide), if_neg (by decide), if_neg (by decide), if_neg (by decide), if_neg (by decide), if_neg (by decide), if_neg (by decide), if_pos (by decide)]
    simp (disch := omega) only [xl_s, ob_s, xb_s, rd_n, wr_n, m_1, m_1b, nI_add, pk_mul, l_0, l_1, l_2, l_3, l_4, l_5, l_6, l_7, l_8, l_9, l_10, l_11, l_12, l_13, l_14, l_15, l_16, l_17, l_18, l_19, l_20, l_21, l_22, l_23, l_24, l_30, l_31, l_32, l_40, l_41, l_48, l_57, l_59, l_64, l_90, l_97, l_99, l_100, l_119, l_122, l_186, l_200, l_255, l_600, l_999, l_1488, l_1000000, x1, x2, e, xz_b]
  · have e := kc_refKitten hR w
    show _ = some (nB (!qnom u))
    rw [f_X7_isRefused, r0, ob_s, r1, ob_s, rs, ob_s, if_neg (by decide), if_neg (by decide), if_neg (by decide), if_neg (by decide), if_neg (by decide), if_neg (by decide), if_neg (by decide), if_neg (by decide), if_pos (by decide)]
    simp (disch := omega) only [xl_s, ob_s, xb_s, rd_n, wr_n, m_1, m_1b, nI_add, pk_mul, l_0, l_1, l_2, l_3, l_4, l_5, l_6, l_7, l_8, l_9, l_10, l_11, l_12, l_13, l_14, l_15, l_16, l_17, l_18, l_19, l_20, l_21, l_22, l_23, l_24, l_30, l_31, l_32, l_40, l_41, l_48, l_57, l_59, l_64, l_90, l_97, l_99, l_100, l_119, l_122, l_186, l_200, l_255, l_600, l_999, l_1488, l_1000000, e, xz_b]
  · have f := f9 rfl
    have e := kc_refVote hR w (c := x 0) (by omega)
    show _ = some (nB (!qvot u (x 0)))
    rw [f_X7_isRefused, r0, ob_s, r1, ob_s, rs, ob_s, if_neg (by decide), if_neg (by decide), if_neg (by decide), if_neg (by decide), if_neg (by decide), if_neg (by decide), if_neg (by decide), if_neg (by decide), if_neg (by decide), if_pos (by decide)]
    simp (disch := omega) only [xl_s, ob_s, xb_s, rd_n, wr_n, m_1, m_1b, nI_add, pk_mul, l_0, l_1, l_2, l_3, l_4, l_5, l_6, l_7, l_8, l_9, l_10, l_11, l_12, l_13, l_14, l_15, l_16, l_17, l_18, l_19, l_20, l_21, l_22, l_23, l_24, l_30, l_31, l_32, l_40, l_41, l_48, l_57, l_59, l_64, l_90, l_97, l_99, l_100, l_119, l_122, l_186, l_200, l_255, l_600, l_999, l_1488, l_1000000, e, xz_b]
  · have f := f10 rfl
    have e := kc_refVote hR w (c := x 0) (by omega)
    show _ = some (nB (!qvot u (x 0)))
    rw [f_X7_isRefused, r0, ob_s, r1, ob_s, rs, ob_s, if_neg (by decide), if_neg (by decide), if_neg (by decide), if_neg (by decide), if_neg (by decide), if_neg (by decide), if_neg (by decide), if_neg (by decide), if_neg (by decide), if_neg (by decide), if_pos (by decide)]
    simp (disch := omega) only [xl_s, ob_s, xb_s, rd_n, wr_n, m_1, m_1b, nI_add, pk_mul, l_0, l_1, l_2, l_3, l_4, l_5, l_6, l_7, l_8, l_9, l_10, l_11, l_12, l_13, l_14, l_15, l_16, l_17, l_18, l_19, l_20, l_21, l_22, l_23, l_24, l_30, l_31, l_32, l_40, l_41, l_48, l_57, l_59, l_64, l_90, l_97, l_99, l_100, l_119, l_122, l_186, l_200, l_255, l_600, l_999, l_1488, l_1000000, e, xz_b]
  · have f := f11 rfl
    have h1 : xs 3 S 0 13 = nI (u 0 13) := hR.1.2.2.2.1
    have e : f_X6_refusesNights (xs 3 S) (nI (x 0)) = some (nB (!decide (u 0 13 + x 0 ≤ 999))) := by
      rw [f_X6_refusesNights]
      simp only [h1, nI_add, l_0, l_1, l_2, l_3, l_4, l_5, l_6, l_7, l_8, l_9, l_10, l_11, l_12, l_13, l_14, l_15, l_16, l_17, l_18, l_19, l_20, l_21, l_22, l_23, l_24, l_30, l_31, l_32, l_40, l_41, l_48, l_57, l_59, l_64, l_90, l_97, l_99, l_100, l_119, l_122, l_186, l_200, l_255, l_600, l_999, l_1488, l_1000000]
      by_cases z : u 0 13 + x 0 ≤ 999
      · simp (disch := omega) only [i_leT, decide_eq_true z, Bool.not_true]; rfl
      · simp (disch := omega) only [i_leF, decide_eq_false z, Bool.not_false]; rfl
    show _ = some (nB (!decide (u 0 13 + x 0 ≤ 999)))
    rw [f_X7_isRefused, r0, ob_s, r1, ob_s, rs, ob_s, if_neg (by decide), if_neg (by decide), if_neg (by decide), if_neg (by decide), if_neg (by decide), if_neg (by decide), if_neg (by decide), if_neg (by decide), if_neg (by decide), if_neg (by decide), if_neg (by decide), if_pos (by decide)]
    simp (disch := omega) only [xl_s, ob_s, xb_s, rd_n, wr_n, m_1, m_1b, nI_add, pk_mul, l_0, l_1, l_2, l_3, l_4, l_5, l_6, l_7, l_8, l_9, l_10, l_11, l_12, l_13, l_14, l_15, l_16, l_17, l_18, l_19, l_20, l_21, l_22, l_23, l_24, l_30, l_31, l_32, l_40, l_41, l_48, l_57, l_59, l_64, l_90, l_97, l_99, l_100, l_119, l_122, l_186, l_200, l_255, l_600, l_999, l_1488, l_1000000, e, xz_b]
theorem xs_14 : xs 11 (xs 3 S) = xs 14 S := by
  funext a y
  rw [xs_d, xs_d, xs_d, show 3 + (11 + a) = 14 + a by omega]
theorem xs_3m {S' : XS} : xs 3 (xm 3 13 S S') = fun a => if a < 13 then S' a else S (3 + a) := by
  funext a y
  rw [xs_d]
  by_cases q : a < 13
  · rw [xm_i (by omega), Nat.add_sub_cancel_left, if_pos q]
  · rw [xm_n (by omega), if_neg q]
theorem rc_3m {S' : XS} {v : QU} (h : RC S' v) : RC (xs 3 (xm 3 13 S S')) v := RC_cg (fun a ha => by rw [xs_3m]; exact (if_pos ha).symm) h
theorem fr_3m {S' : XS} : ∀ a, (a < 3 ∨ 16 ≤ a) → xm 3 13 S S' a = S a := fun a ha => by funext y; exact xm_n (by omega)
theorem xs_14m {S' : XS} : xs 3 (xm 14 2 S S') = xm 11 2 (xs 3 S) S' := by
  funext a y
  rw [xs_d]
  by_cases q : 11 ≤ a ∧ a < 13
  · rw [xm_i (by omega), xm_i (by omega), show 3 + a - 14 = a - 11 by omega]
  · rw [xm_n (by omega), xm_n (by omega), xs_d]
theorem kc_apply (hk : k < 12) (hR : RC (xs 3 S) u) (w : WF u) (hn : u 0 13 ≤ 999) (hf : fits u k x) (hl : legal u k x = true) (hx : ∀ i, i < (ll k).length → S 16 i = nI (x i)) : ∃ S', f_X7_apply S k = some S' ∧ RC (xs 3 S') (app u k x) ∧ ∀ a, (a < 3 ∨ 16 ≤ a) → S' a = S a := by
  obtain ⟨f0, f1, f2, f3, f4, f5, f6, f7, f8, f9, f10, f11, -⟩ := hf
  have x0 : S 16 0 = nI (x 0) := hx 0 (by have := (ll_len k (by omega)).2.1; omega)
  have b0 : u 0 0 ≤ 10 ∧ u 0 3 ≤ 20 ∧ u 0 7 ≤ 8 := by obtain ⟨hB, w0, w3, w7, wN, wk, wg, wc, wd, wo, wv⟩ := w; exact ⟨w0, w3, w7⟩
  have r0 : xrd (0 : Int32) 4 (S 16) = some (nI (x 0)) := by rw [l_0, rd_n (by decide) (by decide), x0]
  have r1 : xrd (1 : Int32) 4 (S 16) = some (S 16 1) := rd_n (i := 1) (by decide) (by decide)
  have rs : xrd (nI k) 13 (fun j => xSw.getD j 0) = some (nI (k + 1)) := by rw [rd_n (by omega) (by decide), sw_k k hk]
  have h12 : k = 0 ∨ k = 1 ∨ k = 2 ∨ k = 3 ∨ k = 4 ∨ k = 5 ∨ k = 6 ∨ k = 7 ∨ k = 8 ∨ k = 9 ∨ k = 10 ∨ k = 11 := by omega
  rcases h12 with rfl | rfl | rfl | rfl | rfl | rfl | rfl | rfl | rfl | rfl | rfl | rfl
  · obtain ⟨S2, s1, s2⟩ := kc_build hR w (of_decide_eq_true hl) (x := x 0)
    refine ⟨_, ?_, rc_3m s2, fr_3m⟩
    rw [f_X7_apply, r0, ob_s, r1, ob_s, rs, ob_s, if_pos (by decide)]
    simp (disch := omega) only [xl_s, ob_s, xb_s, rd_n, wr_n, m_1, m_1b, nI_add, pk_mul, l_0, l_1, l_2, l_3, l_4, l_5, l_6, l_7, l_8, l_9, l_10, l_11, l_12, l_13, l_14, l_15, l_16, l_17, l_18, l_19, l_20, l_21, l_22, l_23, l_24, l_30, l_31, l_32, l_40, l_41, l_48, l_57, l_59, l_64, l_90, l_97, l_99, l_100, l_119, l_122, l_186, l_200, l_255, l_600, l_999, l_1488, l_1000000, s1, len_roof]
  · have f := f1 rfl
    have x1 : S 16 1 = nI (x 1) := hx 1 (by decide)
    have x2 : S 16 2 = nI (x 2) := hx 2 (by decide)
    obtain ⟨S2, s1, s2⟩ := kc_lay hR w (of_decide_eq_true hl) (a := x 0) (b := x 1) (x := x 2)
    refine ⟨_, ?_, rc_3m s2, fr_3m⟩
    rw [f_X7_apply, r0, ob_s, r1, ob_s, rs, ob_s, if_neg (by decide), if_pos (by decide)]
    simp (disch := omega) only [xl_s, ob_s, xb_s, rd_n, wr_n, m_1, m_1b, nI_add, pk_mul, l_0, l_1, l_2, l_3, l_4, l_5, l_6, l_7, l_8, l_9, l_10, l_11, l_12, l_13, l_14, l_15, l_16, l_17, l_18, l_19, l_20, l_21, l_22, l_23, l_24, l_30, l_31, l_32, l_40, l_41, l_48, l_57, l_59, l_64, l_90, l_97, l_99, l_100, l_119, l_122, l_186, l_200, l_255, l_600, l_999, l_1488, l_1000000, x1, x2, s1, len_roof]
  · have f := f2 rfl
    have x1 : S 16 1 = nI (x 1) := hx 1 (by decide)
    have x2 : S 16 2 = nI (x 2) := hx 2 (by decide)
    have z := of_decide_eq_true hl
    obtain ⟨S2, s1, s2, -, -⟩ := kc_put hR w z.1 (k := x 0) (g := x 1) (s := x 2)
    refine ⟨_, ?_, rc_3m s2, fr_3m⟩
    rw [f_X7_apply, r0, ob_s, r1, ob_s, rs, ob_s, if_neg (by decide), if_neg (by decide), if_pos (by decide)]
    simp (disch := omega) only [xl_s, ob_s, xb_s, rd_n, wr_n, m_1, m_1b, nI_add, pk_mul, l_0, l_1, l_2, l_3, l_4, l_5, l_6, l_7, l_8, l_9, l_10, l_11, l_12, l_13, l_14, l_15, l_16, l_17, l_18, l_19, l_20, l_21, l_22, l_23, l_24, l_30, l_31, l_32, l_40, l_41, l_48, l_57, l_59, l_64, l_90, l_97, l_99, l_100, l_119, l_122, l_186, l_200, l_255, l_600, l_999, l_1488, l_1000000, x1, x2, s1, len_roof]
  · have f := f3 rfl
    have x1 : S 16 1 = nI (x 1) := hx 1 (by decide)
    obtain ⟨S2, s1, s2⟩ := kc_go hR w f.1 f.2
    refine ⟨_, ?_, rc_3m s2, fr_3m⟩
    rw [f_X7_apply, r0, ob_s, r1, ob_s, rs, ob_s, if_neg (by decide), if_neg (by decide), if_neg (by decide), if_pos (by decide)]
    simp (disch := omega) only [xl_s, ob_s, xb_s, rd_n, wr_n, m_1, m_1b, nI_add, pk_mul, l_0, l_1, l_2, l_3, l_4, l_5, l_6, l_7, l_8, l_9, l_10, l_11, l_12, l_13, l_14, l_15, l_16, l_17, l_18, l_19, l_20, l_21, l_22, l_23, l_24, l_30, l_31, l_32, l_40, l_41, l_48, l_57, l_59, l_64, l_90, l_97, l_99, l_100, l_119, l_122, l_186, l_200, l_255, l_600, l_999, l_1488, l_1000000, x1, s1, len_roof]
  · have z : qclaim u (x 0) = 0 := of_decide_eq_true hl
    obtain ⟨S2, s1, s2⟩ := kc_take hR w (f4 rfl) (wf_take w (f4 rfl) z)
    refine ⟨_, ?_, rc_3m s2, fr_3m⟩
    rw [f_X7_apply, r0, ob_s, r1, ob_s, rs, ob_s, if_neg (by decide), if_neg (by decide), if_neg (by decide), if_neg (by decide), if_pos (by decide)]
    simp (disch := omega) only [xl_s, ob_s, xb_s, rd_n, wr_n, m_1, m_1b, nI_add, pk_mul, l_0, l_1, l_2, l_3, l_4, l_5, l_6, l_7, l_8, l_9, l_10, l_11, l_12, l_13, l_14, l_15, l_16, l_17, l_18, l_19, l_20, l_21, l_22, l_23, l_24, l_30, l_31, l_32, l_40, l_41, l_48, l_57, l_59, l_64, l_90, l_97, l_99, l_100, l_119, l_122, l_186, l_200, l_255, l_600, l_999, l_1488, l_1000000, s1, len_roof]
  · obtain ⟨S2, s1, s2⟩ := kc_rel hR w (f5 rfl)
    refine ⟨_, ?_, rc_3m s2, fr_3m⟩
    rw [f_X7_apply, r0, ob_s, r1, ob_s, rs, ob_s, if_neg (by decide), if_neg (by decide), if_neg (by decide), if_neg (by decide), if_neg (by decide), if_pos (by decide)]
    simp (disch := omega) only [xl_s, ob_s, xb_s, rd_n, wr_n, m_1, m_1b, nI_add, pk_mul, l_0, l_1, l_2, l_3, l_4, l_5, l_6, l_7, l_8, l_9, l_10, l_11, l_12, l_13, l_14, l_15, l_16, l_17, l_18, l_19, l_20, l_21, l_22, l_23, l_24, l_30, l_31, l_32, l_40, l_41, l_48, l_57, l_59, l_64, l_90, l_97, l_99, l_100, l_119, l_122, l_186, l_200, l_255, l_600, l_999, l_1488, l_1000000, s1, len_roof]
  · have f := f6 rfl
    have x1 : S 16 1 = nI (x 1) := hx 1 (by decide)
    obtain ⟨S2, s1, s2⟩ := kc_drive hR w f.1 f.2.1 f.2.2
    refine ⟨_, ?_, rc_3m s2, fr_3m⟩
    rw [f_X7_apply, r0, ob_s, r1, ob_s, rs, ob_s, if_neg (by decide), if_neg (by decide), if_neg (by decide), if_neg (by decide), if_neg (by decide), if_neg (by decide), if_pos (by decide)]
    simp (disch := omega) only [xl_s, ob_s, xb_s, rd_n, wr_n, m_1, m_1b, nI_add, pk_mul, l_0, l_1, l_2, l_3, l_4, l_5, l_6, l_7, l_8, l_9, l_10, l_11, l_12, l_13, l_14, l_15, l_16, l_17, l_18, l_19, l_20, l_21, l_22, l_23, l_24, l_30, l_31, l_32, l_40, l_41, l_48, l_57, l_59, l_64, l_90, l_97, l_99, l_100, l_119, l_122, l_186, l_200, l_255, l_600, l_999, l_1488, l_1000000, x1, s1, len_roof]
  · have f := f7 rfl
    have x1 : S 16 1 = nI (x 1) := hx 1 (by decide)
    have x2 : S 16 2 = nI (x 2) := hx 2 (by decide)
    have x3 : S 16 3 = nI (x 3) := hx 3 (by decide)
    obtain ⟨S2, s1, s2⟩ := kc_agree hR w f.1 f.2.1 f.2.2.1 hl (n := x 3)
    refine ⟨_, ?_, rc_3m s2, fr_3m⟩
    rw [f_X7_apply, r0, ob_s, r1, ob_s, rs, ob_s, if_neg (by decide), if_neg (by decide), if_neg (by decide), if_neg (by decide), if_neg (by decide), if_neg (by decide), if_neg (by decide), if_pos (by decide)]
    simp (disch := omega) only [xl_s, ob_s, xb_s, rd_n, wr_n, m_1, m_1b, nI_add, pk_mul, l_0, l_1, l_2, l_3, l_4, l_5, l_6, l_7, l_8, l_9, l_10, l_11, l_12, l_13, l_14, l_15, l_16, l_17, l_18, l_19, l_20, l_21, l_22, l_23, l_24, l_30, l_31, l_32, l_40, l_41, l_48, l_57, l_59, l_64, l_90, l_97, l_99, l_100, l_119, l_122, l_186, l_200, l_255, l_600, l_999, l_1488, l_1000000, x1, x2, x3, s1, len_roof]
  · have f := f8 rfl
    have x1 : S 16 1 = nI (x 1) := hx 1 (by decide)
    have zk : u 11 0 = 0 := (of_decide_eq_true (show qnom u = true from hl)).1
    obtain ⟨S2, s1, s2⟩ := kc_arrive hR (a := x 0) (b := x 1) (by omega) (fun c _ => qb_0 w zk c)
    rw [xs_14] at s1
    refine ⟨xm 14 2 S S2, ?_, by rw [xs_14m]; exact s2, fun a ha => by funext y; exact xm_n (by omega)⟩
    rw [f_X7_apply, r0, ob_s, r1, ob_s, rs, ob_s, if_neg (by decide), if_neg (by decide), if_neg (by decide), if_neg (by decide), if_neg (by decide), if_neg (by decide), if_neg (by decide), if_neg (by decide), if_pos (by decide)]
    simp (disch := omega) only [xl_s, ob_s, xb_s, rd_n, wr_n, m_1, m_1b, nI_add, pk_mul, l_0, l_1, l_2, l_3, l_4, l_5, l_6, l_7, l_8, l_9, l_10, l_11, l_12, l_13, l_14, l_15, l_16, l_17, l_18, l_19, l_20, l_21, l_22, l_23, l_24, l_30, l_31, l_32, l_40, l_41, l_48, l_57, l_59, l_64, l_90, l_97, l_99, l_100, l_119, l_122, l_186, l_200, l_255, l_600, l_999, l_1488, l_1000000, x1, s1, len_kit2]
  · obtain ⟨S2, s1, s2⟩ := kc_vote hR w (f9 rfl) (show qvot u (x 0) = true from hl) true
    refine ⟨_, ?_, rc_3m s2, fr_3m⟩
    rw [nB_t] at s1
    rw [f_X7_apply, r0, ob_s, r1, ob_s, rs, ob_s, if_neg (by decide), if_neg (by decide), if_neg (by decide), if_neg (by decide), if_neg (by decide), if_neg (by decide), if_neg (by decide), if_neg (by decide), if_neg (by decide), if_pos (by decide)]
    simp (disch := omega) only [xl_s, ob_s, xb_s, rd_n, wr_n, m_1, m_1b, nI_add, pk_mul, l_0, l_1, l_2, l_3, l_4, l_5, l_6, l_7, l_8, l_9, l_10, l_11, l_12, l_13, l_14, l_15, l_16, l_17, l_18, l_19, l_20, l_21, l_22, l_23, l_24, l_30, l_31, l_32, l_40, l_41, l_48, l_57, l_59, l_64, l_90, l_97, l_99, l_100, l_119, l_122, l_186, l_200, l_255, l_600, l_999, l_1488, l_1000000, s1, len_roof, if_true]
  · obtain ⟨S2, s1, s2⟩ := kc_vote hR w (f10 rfl) (show qvot u (x 0) = true from hl) false
    refine ⟨_, ?_, rc_3m s2, fr_3m⟩
    rw [nB_f] at s1
    rw [f_X7_apply, r0, ob_s, r1, ob_s, rs, ob_s, if_neg (by decide), if_neg (by decide), if_neg (by decide), if_neg (by decide), if_neg (by decide), if_neg (by decide), if_neg (by decide), if_neg (by decide), if_neg (by decide), if_neg (by decide), if_pos (by decide), if_neg (show ¬ (10 : Nat) = 9 by decide)]
    simp (disch := omega) only [xl_s, ob_s, xb_s, rd_n, wr_n, m_1, m_1b, nI_add, pk_mul, l_0, l_1, l_2, l_3, l_4, l_5, l_6, l_7, l_8, l_9, l_10, l_11, l_12, l_13, l_14, l_15, l_16, l_17, l_18, l_19, l_20, l_21, l_22, l_23, l_24, l_30, l_31, l_32, l_40, l_41, l_48, l_57, l_59, l_64, l_90, l_97, l_99, l_100, l_119, l_122, l_186, l_200, l_255, l_600, l_999, l_1488, l_1000000, s1, len_roof]
  · have z : u 0 13 + x 0 ≤ 999 := of_decide_eq_true hl
    obtain ⟨S2, s1, s2⟩ := kc_spend hR w (N := x 0) (by omega)
    refine ⟨_, ?_, rc_3m s2, fr_3m⟩
    rw [f_X7_apply, r0, ob_s, r1, ob_s, rs, ob_s, if_neg (by decide), if_neg (by decide), if_neg (by decide), if_neg (by decide), if_neg (by decide), if_neg (by decide), if_neg (by decide), if_neg (by decide), if_neg (by decide), if_neg (by decide), if_neg (by decide), if_pos (by decide)]
    simp (disch := omega) only [xl_s, ob_s, xb_s, rd_n, wr_n, m_1, m_1b, nI_add, pk_mul, l_0, l_1, l_2, l_3, l_4, l_5, l_6, l_7, l_8, l_9, l_10, l_11, l_12, l_13, l_14, l_15, l_16, l_17, l_18, l_19, l_20, l_21, l_22, l_23, l_24, l_30, l_31, l_32, l_40, l_41, l_48, l_57, l_59, l_64, l_90, l_97, l_99, l_100, l_119, l_122, l_186, l_200, l_255, l_600, l_999, l_1488, l_1000000, s1, len_roof]
end
