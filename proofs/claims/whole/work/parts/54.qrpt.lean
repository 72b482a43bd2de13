/-! level 2: statements and repeats of a script, on both sides -/
def hdr (tx : Nat → Nat) (L p : Nat) : (Nat × Nat) ⊕ (Nat × Nat) :=
  if tkK tx L (tkE tx L p) = 2 then (if 1 ≤ tkV tx L (tkE tx L p) ∧ tkV tx L (tkE tx L p) ≤ 20 then (if tkK tx L (tkE tx L (tkE tx L p)) = 3 then .inr (tkE tx L (tkE tx L (tkE tx L p)), tkV tx L (tkE tx L p)) else .inl (1, tkS tx L (tkE tx L (tkE tx L p)))) else .inl (2, tkS tx L (tkE tx L p))) else .inl (1, tkS tx L (tkE tx L p))
section
variable {tx : Nat → Nat} {L p n d r k c j : Nat} {u : QU} {S S' T T' : XS} {x : Nat → Nat}
theorem rdn_e {e : Nat × Nat} : ∀ {d j p x}, rdn tx L u k (fin tx L u k) d j p x = .inl e → 1 ≤ e.1 ∧ e.1 ≤ 5 := by
  intro d
  induction d with
  | zero =>
    intro j p x h
    rw [rdn, fin] at h
    split at h
    · split at h
      · cases h
      · cases h; exact ⟨Nat.le_of_ble_eq_true rfl, Nat.le_of_ble_eq_true rfl⟩
    · cases h; exact ⟨Nat.le_of_ble_eq_true rfl, Nat.le_of_ble_eq_true rfl⟩
  | succ d ih =>
    intro j p x h
    rw [rdn] at h
    split at h
    · split at h
      · exact ih h
      · cases h; exact ⟨Nat.le_of_ble_eq_true rfl, Nat.le_of_ble_eq_true rfl⟩
    · cases h; exact ⟨Nat.le_of_ble_eq_true rfl, Nat.le_of_ble_eq_true rfl⟩
theorem rdn_m {v : Nat × QU} : ∀ {d j p x}, p ≤ L → rdn tx L u k (fin tx L u k) d j p x = .inr v → p < v.1 ∧ v.1 ≤ L ∧ ∀ l q, MT tx L l v.1 q → MT tx L l p q := by
  intro d
  induction d with
  | zero =>
    intro j p x hp h
    rw [rdn, fin] at h
    split at h
    · rename_i k5
      split at h
      · cases h
        have hE := tkE_b (tx := tx) hp
        exact ⟨tkK_E (tx := tx) hp (by omega), hE.2.1, fun l q g => MT_s (by omega) (by omega) g⟩
      · cases h
    · cases h
  | succ d ih =>
    intro j p x hp h
    have hE := tkE_b (tx := tx) hp
    rw [rdn] at h
    split at h
    · rename_i k2
      have hpE := tkK_E (tx := tx) hp (by omega)
      split at h
      · obtain ⟨a, b, g⟩ := ih hE.2.1 h
        exact ⟨by omega, b, fun l q m => MT_s (by omega) (by omega) (g l q m)⟩
      · cases h
    · cases h
theorem cmdO_e {e : Nat × Nat} (h : cmdO tx L u k p = .inl e) : 1 ≤ e.1 ∧ e.1 ≤ 5 := rdn_e h
theorem cmdO_m {v : Nat × QU} (hp : p ≤ L) (h : cmdO tx L u k p = .inr v) : p < v.1 ∧ v.1 ≤ L ∧ ∀ l q, MT tx L l v.1 q → MT tx L l p q := rdn_m hp h
/-- a token that is a word of a command -/
theorem qcm_1 (h : qcm tx (tkK tx L p) (tkS tx L p) (tkE tx L p) = k + 1) : tkK tx L p = 1 ∧ k < 13 ∧ (xPlace.getD k []).length = (xPlace.getD k []).length ∧ tkE tx L p - tkS tx L p = (xWord.getD k []).length := by
  obtain ⟨h1, h2, -⟩ := qf_s h
  have h3 : wq tx (tkK tx L p) (tkS tx L p) (tkE tx L p) (xWord.getD k []) = true := h2
  unfold wq at h3
  rw [Bool.and_eq_true, Bool.and_eq_true] at h3
  exact ⟨of_decide_eq_true h3.1, h1, rfl, (of_decide_eq_true h3.2.1).symm⟩
/-! the reference's command -/
theorem km_wd (h6 : L ≤ 600) (hp : p ≤ L) (h : AM tx L p r u T) : f_X9_wordAhead T = some (oI (qcm tx (tkK tx L p) (tkS tx L p) (tkE tx L p))) := by
  have hE := tkE_b (tx := tx) hp
  exact km_word h6 h.1.1.2.2 h.1.1.2.1 h.2.1 h.2.2.1 (tkK_le L p) hE.1 hE.2.1
theorem qcm_le (k s e : Nat) : qcm tx k s e ≤ 13 := qf_le
theorem km_cmd {RR : XS → Int32 → Option (Int32 × XS)} {y : Int32} (h6 : L ≤ 600) (hB : ∀ i, tx i < 256) (hp : p ≤ L) (h : AM tx L p n u T) (hk : k < 12) (hq : qcm tx (tkK tx L p) (tkS tx L p) (tkE tx L p) = k + 1) (w : WF u) (hn : u 0 13 ≤ 999) (n2 : n < 200) : ∃ b T', f_X9_readsCommand RR T y = some (nB b, T') ∧ FM T T' ∧ OM tx L (n + 1) b T' (cmdO tx L u k (tkE tx L p)) := by
  have hE := tkE_b (tx := tx) hp
  have hw := km_wd h6 hp h
  rw [hq] at hw
  have h21 : T 0 21 = nI n := h.1.2.2.2.1
  obtain ⟨T2, e1, e2, e3⟩ := km_nx (T := xput T 0 21 (nI (n + 1))) h6 hB hE.2.1 (by
    obtain ⟨⟨a1, a2, a3⟩, b1, b2, b3, b4⟩ := h.1
    exact ⟨⟨by rw [xp_s, if_neg (by decide)]; exact a1, by rw [xp_s, if_neg (by decide)]; exact a2, fun i hi => by rw [xp_n (by decide)]; exact a3 i hi⟩, by rw [xp_s, if_neg (by decide)]; exact b1, by rw [xp_s, if_neg (by decide)]; exact b2, by rw [xp_s, if_pos rfl], by rw [xp_n (by decide)]; exact b4⟩)
  obtain ⟨b, T3, f1, f2, f3⟩ := km_readsWord hk h6 hB hE.2.1 e2 w hn
  have e0 : oI (k + 1) = nI k := rfl
  refine ⟨b, T3, ?_, FM_t ⟨fun a h0 _ _ => xp_n h0, fun y _ _ h3 => by rw [xp_s, if_neg (by omega)]⟩ (FM_t (NT_FM e3) f2), f3⟩
  rw [f_X9_readsCommand, hw, ob_s, m_1, if_neg (fun z => by have := (oI_eq (a := k + 1) (b := 0) (by omega) (by decide)).mp z; omega)]
  rw [e0]
  simp (disch := omega) only [xl_s, ob_s, xb_s, rd_n, wr_n, m_1, m_1b, nI_add, pk_mul, l_0, l_1, l_2, l_3, l_4, l_5, l_6, l_7, l_8, l_9, l_10, l_11, l_12, l_13, l_14, l_15, l_16, l_17, l_18, l_19, l_20, l_21, l_22, l_23, l_24, l_30, l_31, l_32, l_40, l_41, l_48, l_57, l_59, l_64, l_90, l_97, l_99, l_100, l_119, l_122, l_186, l_200, l_255, l_600, l_999, l_1488, l_1000000, i_eqF, h21, e1, f1, xz_b]
theorem km_cmd0 {RR : XS → Int32 → Option (Int32 × XS)} {y : Int32} (h6 : L ≤ 600) (hp : p ≤ L) (h : AM tx L p n u T) (hq : qcm tx (tkK tx L p) (tkS tx L p) (tkE tx L p) = 0) : ∃ T', f_X9_readsCommand RR T y = some (nI 0, T') ∧ FM T T' ∧ EM 1 (tkS tx L p) T' := by
  have hw := km_wd h6 hp h
  rw [hq] at hw
  obtain ⟨T', e1, e2, e3⟩ := km_fail h 1
  refine ⟨T', ?_, e3, e2⟩
  rw [f_X9_readsCommand, hw, ob_s, m_1, if_pos rfl, l_1, e1, xb_s, xz_0, ob_s]
theorem km_full {RR : XS → Int32 → Option (Int32 × XS)} {y : Int32} (h6 : L ≤ 600) (hp : p ≤ L) (h : AM tx L p 200 u T) (hk : k < 12) (hq : qcm tx (tkK tx L p) (tkS tx L p) (tkE tx L p) = k + 1) : ∃ T', f_X9_readsCommand RR T y = some (nI 0, T') ∧ FM T T' ∧ EM 5 (tkS tx L p) T' := by
  have hw := km_wd h6 hp h
  rw [hq] at hw
  have h21 : T 0 21 = nI 200 := h.1.2.2.2.1
  obtain ⟨T', e1, e2, e3⟩ := km_fail h 5
  have e0 : oI (k + 1) = nI k := rfl
  refine ⟨T', ?_, e3, e2⟩
  rw [f_X9_readsCommand, hw, ob_s, m_1, if_neg (fun z => by have := (oI_eq (a := k + 1) (b := 0) (by omega) (by decide)).mp z; omega)]
  rw [e0]
  simp (disch := omega) only [xl_s, ob_s, xb_s, rd_n, wr_n, m_1, m_1b, nI_add, pk_mul, l_0, l_1, l_2, l_3, l_4, l_5, l_6, l_7, l_8, l_9, l_10, l_11, l_12, l_13, l_14, l_15, l_16, l_17, l_18, l_19, l_20, l_21, l_22, l_23, l_24, l_30, l_31, l_32, l_40, l_41, l_48, l_57, l_59, l_64, l_90, l_97, l_99, l_100, l_119, l_122, l_186, l_200, l_255, l_600, l_999, l_1488, l_1000000, i_eqF, h21, if_true, e1, xz_0]
theorem km_rep2 {RR : XS → Int32 → Option (Int32 × XS)} (h6 : L ≤ 600) (hp : p ≤ L) (h : AM tx L p n u T) (hq : qcm tx (tkK tx L p) (tkS tx L p) (tkE tx L p) = 13) : ∃ T', f_X9_readsCommand RR T (nI 2) = some (nI 0, T') ∧ FM T T' ∧ EM 4 (tkS tx L p) T' := by
  have hw := km_wd h6 hp h
  rw [hq] at hw
  obtain ⟨T', e1, e2, e3⟩ := km_fail h 4
  have e0 : oI 13 = nI 12 := rfl
  refine ⟨T', ?_, e3, e2⟩
  rw [f_X9_readsCommand, hw, ob_s, m_1, if_neg (by decide), e0]
  simp (disch := omega) only [xl_s, ob_s, xb_s, rd_n, wr_n, m_1, m_1b, nI_add, pk_mul, l_0, l_1, l_2, l_3, l_4, l_5, l_6, l_7, l_8, l_9, l_10, l_11, l_12, l_13, l_14, l_15, l_16, l_17, l_18, l_19, l_20, l_21, l_22, l_23, l_24, l_30, l_31, l_32, l_40, l_41, l_48, l_57, l_59, l_64, l_90, l_97, l_99, l_100, l_119, l_122, l_186, l_200, l_255, l_600, l_999, l_1488, l_1000000, if_true, e1, xz_0]
/-- the head of a repeat in the reference: its state before its first round, or the error -/
theorem km_rep {RC : XS → Int32 → Option (Int32 × XS)} (hd : d < 2) (h6 : L ≤ 600) (hB : ∀ i, tx i < 256) (hp : p ≤ L) (h : AM tx L p n u T) (hq : qcm tx (tkK tx L p) (tkS tx L p) (tkE tx L p) = 13) : ∃ T', FM T T' ∧ (∀ e, hdr tx L p = .inl e → f_X9_readsCommand (f_X9_readsRepeat RC) T (nI d) = some (nI 0, T') ∧ EM e.1 e.2 T') ∧ (∀ v, hdr tx L p = .inr v → f_X9_readsCommand (f_X9_readsRepeat RC) T (nI d) = ((f_X9_readsRepeat_L36 RC (fun v14 S15 => ((f_X9_next S15).bind fun S16 => (xbind2 (f_X9_is S16 1) fun v17 S18 => ((xz v17).bind fun v => some (v, S18))))) (nI d) (nI v.2) (nI v.1) FU 0 T').bind fun q => (xz q.1).bind fun y => some (y, q.2)) ∧ BM tx L v.1 n u T') := by
  have hE := tkE_b (tx := tx) hp
  have hw := km_wd h6 hp h
  rw [hq] at hw
  obtain ⟨T2, e1, e2, e3⟩ := km_nx h6 hB hE.2.1 h.1
  obtain ⟨b, T3, n1, n2, n3, n4⟩ := km_number (c := 114) (j := 0) (x := fun _ => 0) (lo := nI 1) (hi := nI 20) h6 hB hE.2.1 e2 (fun _ hv => by rw [in_rg hv (by decide) (by decide)]; rfl) (by decide)
  have e0 : oI 13 = nI 12 := rfl
  have xbb : ∀ (o : Option (Int32 × XS)), (xbind2 o fun v9 S10 => ((xz v9).bind fun v => some (v, S10))) = o.bind fun q => (xz q.1).bind fun y => some (y, q.2) := fun o => by
    cases o with
    | none => rfl
    | some q => rfl
  have hrc : ∀ RR, f_X9_readsCommand RR T (nI d) = (RR T2 (nI d)).bind fun q => (xz q.1).bind fun y => some (y, q.2) := fun RR => by
    rw [f_X9_readsCommand, hw, ob_s, m_1, if_neg (by decide), e0]
    simp (disch := omega) only [xl_s, ob_s, xb_s, rd_n, wr_n, m_1, m_1b, nI_add, pk_mul, l_0, l_1, l_2, l_3, l_4, l_5, l_6, l_7, l_8, l_9, l_10, l_11, l_12, l_13, l_14, l_15, l_16, l_17, l_18, l_19, l_20, l_21, l_22, l_23, l_24, l_30, l_31, l_32, l_40, l_41, l_48, l_57, l_59, l_64, l_90, l_97, l_99, l_100, l_119, l_122, l_186, l_200, l_255, l_600, l_999, l_1488, l_1000000, if_true, i_eqF, e1]
    exact xbb _
  have fm2 : FM T T2 := NT_FM e3
  cases b
  · obtain ⟨e, he, hE2⟩ := n4 rfl
    refine ⟨T3, FM_t fm2 n2, fun a ha => ⟨?_, ?_⟩, fun v hv => ?_⟩
    · rw [hrc, f_X9_readsRepeat]
      simp (disch := omega) only [xl_s, ob_s, xb_s, rd_n, wr_n, m_1, m_1b, nI_add, pk_mul, l_0, l_1, l_2, l_3, l_4, l_5, l_6, l_7, l_8, l_9, l_10, l_11, l_12, l_13, l_14, l_15, l_16, l_17, l_18, l_19, l_20, l_21, l_22, l_23, l_24, l_30, l_31, l_32, l_40, l_41, l_48, l_57, l_59, l_64, l_90, l_97, l_99, l_100, l_119, l_122, l_186, l_200, l_255, l_600, l_999, l_1488, l_1000000, n1, nB_f, if_true, Option.bind_some, xz_0]
    · rw [hdr] at ha
      rcases he with ⟨rfl, he⟩ | ⟨rfl, he, hl⟩
      · rw [if_neg he] at ha
        cases ha; exact hE2
      · rw [if_pos he, if_neg (of_decide_eq_false hl)] at ha
        cases ha; exact hE2
    · rw [hdr] at hv
      rcases he with ⟨rfl, he⟩ | ⟨rfl, he, hl⟩
      · rw [if_neg he] at hv
        cases hv
      · rw [if_pos he, if_neg (of_decide_eq_false hl)] at hv
        cases hv
  obtain ⟨hk1, hl1, hA1, hp1, hq1, hv1⟩ := n3 rfl
  obtain ⟨i1, i2⟩ := km_is hA1 (e := 4) (by decide)
  have hr : rk (tkK tx L (tkE tx L (tkE tx L p))) = 4 ↔ tkK tx L (tkE tx L (tkE tx L p)) = 3 := rk_inj (b := 3) (tkK_le L _) (by decide)
  have hg : 1 ≤ tkV tx L (tkE tx L p) ∧ tkV tx L (tkE tx L p) ≤ 20 := of_decide_eq_true hl1
  by_cases q : tkK tx L (tkE tx L (tkE tx L p)) = 3
  · refine ⟨T3, FM_t fm2 n2, fun a ha => ?_, fun v hv => ?_⟩
    · rw [hdr, if_pos hk1, if_pos hg, if_pos q] at ha
      cases ha
    · rw [hdr, if_pos hk1, if_pos hg, if_pos q] at hv
      cases hv
      refine ⟨?_, hA1.1⟩
      have z0 : T3 10 0 = nI (tkV tx L (tkE tx L p)) := by rw [hv1, if_pos rfl]
      have z19 := hA1.1.1.2.1
      rw [hrc, f_X9_readsRepeat]
      simp (disch := omega) only [xl_s, ob_s, xb_s, rd_n, wr_n, m_1, m_1b, nI_add, pk_mul, l_0, l_1, l_2, l_3, l_4, l_5, l_6, l_7, l_8, l_9, l_10, l_11, l_12, l_13, l_14, l_15, l_16, l_17, l_18, l_19, l_20, l_21, l_22, l_23, l_24, l_30, l_31, l_32, l_40, l_41, l_48, l_57, l_59, l_64, l_90, l_97, l_99, l_100, l_119, l_122, l_186, l_200, l_255, l_600, l_999, l_1488, l_1000000, n1, nB_t, z10, if_false, i1 (hr.mpr q), z0, z19]
  · obtain ⟨T4, f1, f2, f3⟩ := i2 (fun z => q (hr.mp z))
    refine ⟨T4, FM_t fm2 (FM_t n2 f3), fun a ha => ⟨?_, ?_⟩, fun v hv => ?_⟩
    · rw [hrc, f_X9_readsRepeat]
      simp (disch := omega) only [xl_s, ob_s, xb_s, rd_n, wr_n, m_1, m_1b, nI_add, pk_mul, l_0, l_1, l_2, l_3, l_4, l_5, l_6, l_7, l_8, l_9, l_10, l_11, l_12, l_13, l_14, l_15, l_16, l_17, l_18, l_19, l_20, l_21, l_22, l_23, l_24, l_30, l_31, l_32, l_40, l_41, l_48, l_57, l_59, l_64, l_90, l_97, l_99, l_100, l_119, l_122, l_186, l_200, l_255, l_600, l_999, l_1488, l_1000000, n1, nB_t, z10, if_false, f1, if_true, Option.bind_some, xz_0]
    · rw [hdr, if_pos hk1, if_pos hg, if_neg q] at ha
      cases ha; exact f2
    · rw [hdr, if_pos hk1, if_pos hg, if_neg q] at hv
      cases hv
end
