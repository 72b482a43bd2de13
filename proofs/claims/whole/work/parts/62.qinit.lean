/-! level 2: the beginning -/
def tx0 (i : Nat) : Nat := ([114, 111, 111, 102, 59, 32, 99, 104, 105, 109, 110, 101, 121, 32, 54, 59, 32, 99, 104, 105, 109, 110, 101, 121, 32, 51, 59, 32, 99, 104, 105, 109, 110, 101, 121, 32, 57, 59, 32, 99, 104, 105, 109, 110, 101, 121, 32, 48, 59, 32, 99, 104, 105, 109, 110, 101, 121, 32, 52, 59, 32, 103, 117, 116, 116, 101, 114, 32, 48, 32, 49, 32, 53, 59, 32, 103, 117, 116, 116, 101, 114, 32, 49, 32, 50, 32, 51, 59, 32, 103, 117, 116, 116, 101, 114, 32, 50, 32, 51, 32, 55, 59, 32, 103, 117, 116, 116, 101, 114, 32, 48, 32, 51, 32, 50, 59, 32, 103, 117, 116, 116, 101, 114, 32, 51, 32, 52, 32, 57, 59, 32, 99, 97, 116, 32, 48, 32, 52, 32, 53, 59, 32, 99, 97, 116, 32, 50, 32, 51, 32, 54, 59, 32, 99, 97, 116, 32, 52, 32, 54, 32, 51, 59, 32, 99, 108, 97, 105, 109, 32, 48, 59, 32, 99, 108, 97, 105, 109, 32, 49, 59, 32, 116, 114, 117, 99, 101, 32, 50, 32, 49, 32, 50, 32, 54, 59, 32, 110, 105, 103, 104, 116, 115, 32, 51, 59] : List Nat).getD i 0
theorem tx_c9 : (List.range 131).all (fun i => decide (xch lb9 (nI i) = nI (tx0 i))) = true := by decide +kernel
theorem tx_c10 : (List.range 75).all (fun i => decide (xch lb10 (nI i) = nI (tx0 (131 + i)))) = true := by decide +kernel
theorem tx_ba : (List.range 206).all (fun i => decide (tx0 i < 128)) = true := by decide +kernel
theorem tx_b (i : Nat) : tx0 i < 256 := by
  by_cases h : i < 206
  · have := of_decide_eq_true (List.all_eq_true.mp tx_ba i (List.mem_range.mpr h))
    omega
  · have : tx0 i = 0 := by
      unfold tx0
      rw [List.getD_eq_getElem?_getD, List.getElem?_eq_none (by
        show 206 ≤ i
        omega)]
      rfl
    omega
section
variable {tx : Nat → Nat} {L p n k : Nat} {u : QU} {S S' T T' : XS} {x : Nat → Nat}
theorem km_tell {w : List Int32} (hw : w.length < 600) {n : Nat} (h11 : T 0 11 = nI n) (hn : n + w.length ≤ 600) : ∃ T', f_X9_tell T w = some T' ∧ T' 0 11 = nI (n + w.length) ∧ (∀ i, i < w.length → T' 7 (n + i) = xch w (nI i)) ∧ (∀ i, i < n → T' 7 i = T 7 i) ∧ (∀ a, a ≠ 0 → a ≠ 7 → T' a = T a) ∧ ∀ y, y ≠ 11 → T' 0 y = T 0 y := by
  have hcast : Int32.ofNat w.length = nI w.length := rfl
  unfold f_X9_tell
  simp only [l_0]
  refine q_lp (fun f j T1 => ∃ T', f_X9_tell_L2 w (fun v6 S7 => some S7) f (nI j) T1 = some T' ∧ T' 0 11 = nI (n + w.length) ∧ (∀ i, i < w.length → T' 7 (n + i) = xch w (nI i)) ∧ (∀ i, i < n → T' 7 i = T 7 i) ∧ (∀ a, a ≠ 0 → a ≠ 7 → T' a = T a) ∧ ∀ y, y ≠ 11 → T' 0 y = T 0 y) (fun j T1 => T1 0 11 = nI (n + j) ∧ (∀ i, i < j → T1 7 (n + i) = xch w (nI i)) ∧ (∀ i, i < n → T1 7 i = T 7 i) ∧ (∀ a, a ≠ 0 → a ≠ 7 → T1 a = T a) ∧ ∀ y, y ≠ 11 → T1 0 y = T 0 y) w.length T (by omega) ⟨h11, fun i hi => by omega, fun _ _ => rfl, fun _ _ _ => rfl, fun _ _ => rfl⟩ ?_ ?_
  · intro f T1 hI
    refine ⟨T1, ?_, hI⟩
    rw [f_X9_tell_L2, hcast, i_leT (Nat.le_refl _) (by omega)]
  · intro f j T1 hj hI ih
    obtain ⟨a1, a2, a3, a4, a5⟩ := hI
    rw [f_X9_tell_L2, hcast, i_leF hj (by omega)]
    simp (disch := omega) only [xl_s, ob_s, xb_s, rd_n, wr_n, m_1, m_1b, nI_add, pk_mul, l_0, l_1, l_2, l_3, l_4, l_5, l_6, l_7, l_8, l_9, l_10, l_11, l_12, l_13, l_14, l_15, l_16, l_17, l_18, l_19, l_20, l_21, l_22, l_23, l_24, l_30, l_31, l_32, l_40, l_41, l_48, l_57, l_59, l_64, l_90, l_97, l_99, l_100, l_119, l_122, l_186, l_200, l_255, l_600, l_999, l_1488, l_1000000, cr_n, a1, xq_n]
    refine ih _ ⟨?_, fun i hi => ?_, fun i hi => ?_, fun a h0 h7 => ?_, fun y hy => ?_⟩
    · rw [xp_s, if_pos rfl]; rfl
    · rw [xp_n (by decide), xp_s]
      by_cases q : i = j
      · rw [if_pos (by omega), q]
      · rw [if_neg (by omega)]; exact a2 i (by omega)
    · rw [xp_n (by decide), xp_s, if_neg (by omega)]; exact a3 i hi
    · rw [xp_n h0, xp_n h7]; exact a4 a h0 h7
    · rw [xp_s, if_neg hy, xp_n (by decide)]; exact a5 y hy
theorem L34_s (h6 : L ≤ 600) (hB : ∀ i, tx i < 256) (hp : p ≤ L) (hk : k < 12) (hq : qcm tx (tkK tx L p) (tkS tx L p) (tkE tx L p) = k + 1) {v : Nat × QU} (hc : cmdO tx L u k (tkE tx L p) = .inr v) (w : WF u) (hn : u 0 13 ≤ 999) (n2 : n < 200) (h : AM tx L p n u T) : ∃ T2, AM tx L v.1 (n + 1) v.2 T2 ∧ FM T T2 ∧ ∀ K f, f_X9_readsAll_L34 K (f + 1) T = f_X9_readsAll_L34 K f T2 := by
  have hE := tkE_b (tx := tx) hp
  obtain ⟨b, T1, t1, t2, t3⟩ := km_cmd (RR := f_X9_readsRepeat (f_RC 2)) (y := nI 0) h6 hB hp h hk hq w hn n2
  rw [hc] at t3
  obtain ⟨rfl, t4⟩ := t3
  obtain ⟨g1, g2, -⟩ := cmdO_m hE.2.1 hc
  obtain ⟨T2, y1, y2, y3⟩ := km_nx h6 hB g2 t4
  refine ⟨T2, y2, FM_t t2 (NT_FM y3), fun K f => ?_⟩
  obtain ⟨k1, -⟩ := qcm_1 hq
  have h17 : T 0 17 = nI 2 := by rw [h.2.1, k1]; rfl
  have hR : f_RC3 T (nI 0) = some (nB true, T1) := t1
  rw [f_X9_readsAll_L34]
  simp (disch := omega) only [xl_s, ob_s, xb_s, rd_n, wr_n, m_1, m_1b, nI_add, pk_mul, l_0, l_1, l_2, l_3, l_4, l_5, l_6, l_7, l_8, l_9, l_10, l_11, l_12, l_13, l_14, l_15, l_16, l_17, l_18, l_19, l_20, l_21, l_22, l_23, l_24, l_30, l_31, l_32, l_40, l_41, l_48, l_57, l_59, l_64, l_90, l_97, l_99, l_100, l_119, l_122, l_186, l_200, l_255, l_600, l_999, l_1488, l_1000000, h17, i_eqF, hR, nB_t, z10, if_false, y1]
theorem cmdO_1 {v : Nat} {F : Nat → (Nat → Nat) → (Nat × Nat) ⊕ (Nat × QU)} {d j e : Nat} (h1 : tkK tx L p = 2) (hv : tkV tx L p = v) (he : tkE tx L p = e) (hl : lt u x ((ll k).getD j 0) v = true) : rdn tx L u k F (d + 1) j p x = rdn tx L u k F d (j + 1) e (xu x j v) := by
  subst hv
  subst he
  exact rdn_y h1 hl
theorem fin_1 {e : Nat} (h5 : tkK tx L p = 5) (he : tkE tx L p = e) (hl : legal u k x = true) : fin tx L u k p x = .inr (e, app u k x) := by
  subst he
  rw [fin, if_pos h5, if_pos hl]
theorem rc_1m {S' : XS} {v : QU} (h : RC S' v) : RC (xs 1 (xm 1 13 S S')) v := RC_cg (fun a ha => by funext y; rw [xs_d, xm_i (by omega), Nat.add_sub_cancel_left]) h
theorem fr_1m {S' : XS} : ∀ a, (a < 1 ∨ 14 ≤ a) → xm 1 13 S S' a = S a := fun a ha => by funext y; exact xm_n (by omega)
def u_0 : QU := q0
def u_1 : QU := app u_0 0 (xu (fun _ => 0) 0 6)
def u_2 : QU := app u_1 0 (xu (fun _ => 0) 0 3)
def u_3 : QU := app u_2 0 (xu (fun _ => 0) 0 9)
def u_4 : QU := app u_3 0 (xu (fun _ => 0) 0 0)
def u_5 : QU := app u_4 0 (xu (fun _ => 0) 0 4)
def u_6 : QU := app u_5 1 (xu (xu (xu (fun _ => 0) 0 0) 1 1) 2 5)
def u_7 : QU := app u_6 1 (xu (xu (xu (fun _ => 0) 0 1) 1 2) 2 3)
def u_8 : QU := app u_7 1 (xu (xu (xu (fun _ => 0) 0 2) 1 3) 2 7)
def u_9 : QU := app u_8 1 (xu (xu (xu (fun _ => 0) 0 0) 1 3) 2 2)
def u_10 : QU := app u_9 1 (xu (xu (xu (fun _ => 0) 0 3) 1 4) 2 9)
def u_11 : QU := app u_10 2 (xu (xu (xu (fun _ => 0) 0 0) 1 4) 2 5)
def u_12 : QU := app u_11 2 (xu (xu (xu (fun _ => 0) 0 2) 1 3) 2 6)
def u_13 : QU := app u_12 2 (xu (xu (xu (fun _ => 0) 0 4) 1 6) 2 3)
def u_14 : QU := app u_13 4 (xu (fun _ => 0) 0 0)
def u_15 : QU := app u_14 4 (xu (fun _ => 0) 0 1)
def u_16 : QU := app u_15 7 (xu (xu (xu (xu (fun _ => 0) 0 2) 1 1) 2 2) 3 6)
def u_17 : QU := app u_16 11 (xu (fun _ => 0) 0 3)
theorem lg_0 : legal u_0 0 (xu (fun _ => 0) 0 6) = true := by decide +kernel
theorem ft_0 : fits u_0 0 (xu (fun _ => 0) 0 6) := by
  refine ⟨?_, ?_, ?_, ?_, ?_, ?_, ?_, ?_, ?_, ?_, ?_, ?_, ?_⟩ <;> decide +kernel
theorem lg_1 : legal u_1 0 (xu (fun _ => 0) 0 3) = true := by decide +kernel
theorem ft_1 : fits u_1 0 (xu (fun _ => 0) 0 3) := by
  refine ⟨?_, ?_, ?_, ?_, ?_, ?_, ?_, ?_, ?_, ?_, ?_, ?_, ?_⟩ <;> decide +kernel
theorem lg_2 : legal u_2 0 (xu (fun _ => 0) 0 9) = true := by decide +kernel
theorem ft_2 : fits u_2 0 (xu (fun _ => 0) 0 9) := by
  refine ⟨?_, ?_, ?_, ?_, ?_, ?_, ?_, ?_, ?_, ?_, ?_, ?_, ?_⟩ <;> decide +kernel
theorem lg_3 : legal u_3 0 (xu (fun _ => 0) 0 0) = true := by decide +kernel
theorem ft_3 : fits u_3 0 (xu (fun _ => 0) 0 0) := by
  refine ⟨?_, ?_, ?_, ?_, ?_, ?_, ?_, ?_, ?_, ?_, ?_, ?_, ?_⟩ <;> decide +kernel
theorem lg_4 : legal u_4 0 (xu (fun _ => 0) 0 4) = true := by decide +kernel
theorem ft_4 : fits u_4 0 (xu (fun _ => 0) 0 4) := by
  refine ⟨?_, ?_, ?_, ?_, ?_, ?_, ?_, ?_, ?_, ?_, ?_, ?_, ?_⟩ <;> decide +kernel
theorem lg_5 : legal u_5 1 (xu (xu (xu (fun _ => 0) 0 0) 1 1) 2 5) = true := by decide +kernel
theorem ft_5 : fits u_5 1 (xu (xu (xu (fun _ => 0) 0 0) 1 1) 2 5) := by
  refine ⟨?_, ?_, ?_, ?_, ?_, ?_, ?_, ?_, ?_, ?_, ?_, ?_, ?_⟩ <;> decide +kernel
theorem lg_6 : legal u_6 1 (xu (xu (xu (fun _ => 0) 0 1) 1 2) 2 3) = true := by decide +kernel
theorem ft_6 : fits u_6 1 (xu (xu (xu (fun _ => 0) 0 1) 1 2) 2 3) := by
  refine ⟨?_, ?_, ?_, ?_, ?_, ?_, ?_, ?_, ?_, ?_, ?_, ?_, ?_⟩ <;> decide +kernel
theorem lg_7 : legal u_7 1 (xu (xu (xu (fun _ => 0) 0 2) 1 3) 2 7) = true := by decide +kernel
theorem ft_7 : fits u_7 1 (xu (xu (xu (fun _ => 0) 0 2) 1 3) 2 7) := by
  refine ⟨?_, ?_, ?_, ?_, ?_, ?_, ?_, ?_, ?_, ?_, ?_, ?_, ?_⟩ <;> decide +kernel
theorem lg_8 : legal u_8 1 (xu (xu (xu (fun _ => 0) 0 0) 1 3) 2 2) = true := by decide +kernel
theorem ft_8 : fits u_8 1 (xu (xu (xu (fun _ => 0) 0 0) 1 3) 2 2) := by
  refine ⟨?_, ?_, ?_, ?_, ?_, ?_, ?_, ?_, ?_, ?_, ?_, ?_, ?_⟩ <;> decide +kernel
theorem lg_9 : legal u_9 1 (xu (xu (xu (fun _ => 0) 0 3) 1 4) 2 9) = true := by decide +kernel
theorem ft_9 : fits u_9 1 (xu (xu (xu (fun _ => 0) 0 3) 1 4) 2 9) := by
  refine ⟨?_, ?_, ?_, ?_, ?_, ?_, ?_, ?_, ?_, ?_, ?_, ?_, ?_⟩ <;> decide +kernel
theorem lg_10 : legal u_10 2 (xu (xu (xu (fun _ => 0) 0 0) 1 4) 2 5) = true := by decide +kernel
theorem ft_10 : fits u_10 2 (xu (xu (xu (fun _ => 0) 0 0) 1 4) 2 5) := by
  refine ⟨?_, ?_, ?_, ?_, ?_, ?_, ?_, ?_, ?_, ?_, ?_, ?_, ?_⟩ <;> decide +kernel
theorem lg_11 : legal u_11 2 (xu (xu (xu (fun _ => 0) 0 2) 1 3) 2 6) = true := by decide +kernel
theorem ft_11 : fits u_11 2 (xu (xu (xu (fun _ => 0) 0 2) 1 3) 2 6) := by
  refine ⟨?_, ?_, ?_, ?_, ?_, ?_, ?_, ?_, ?_, ?_, ?_, ?_, ?_⟩ <;> decide +kernel
theorem lg_12 : legal u_12 2 (xu (xu (xu (fun _ => 0) 0 4) 1 6) 2 3) = true := by decide +kernel
theorem ft_12 : fits u_12 2 (xu (xu (xu (fun _ => 0) 0 4) 1 6) 2 3) := by
  refine ⟨?_, ?_, ?_, ?_, ?_, ?_, ?_, ?_, ?_, ?_, ?_, ?_, ?_⟩ <;> decide +kernel
theorem lg_13 : legal u_13 4 (xu (fun _ => 0) 0 0) = true := by decide +kernel
theorem ft_13 : fits u_13 4 (xu (fun _ => 0) 0 0) := by
  refine ⟨?_, ?_, ?_, ?_, ?_, ?_, ?_, ?_, ?_, ?_, ?_, ?_, ?_⟩ <;> decide +kernel
theorem lg_14 : legal u_14 4 (xu (fun _ => 0) 0 1) = true := by decide +kernel
theorem ft_14 : fits u_14 4 (xu (fun _ => 0) 0 1) := by
  refine ⟨?_, ?_, ?_, ?_, ?_, ?_, ?_, ?_, ?_, ?_, ?_, ?_, ?_⟩ <;> decide +kernel
theorem lg_15 : legal u_15 7 (xu (xu (xu (xu (fun _ => 0) 0 2) 1 1) 2 2) 3 6) = true := by decide +kernel
theorem ft_15 : fits u_15 7 (xu (xu (xu (xu (fun _ => 0) 0 2) 1 1) 2 2) 3 6) := by
  refine ⟨?_, ?_, ?_, ?_, ?_, ?_, ?_, ?_, ?_, ?_, ?_, ?_, ?_⟩ <;> decide +kernel
theorem lg_16 : legal u_16 11 (xu (fun _ => 0) 0 3) = true := by decide +kernel
theorem ft_16 : fits u_16 11 (xu (fun _ => 0) 0 3) := by
  refine ⟨?_, ?_, ?_, ?_, ?_, ?_, ?_, ?_, ?_, ?_, ?_, ?_, ?_⟩ <;> decide +kernel
theorem wu_0 : WF u_0 ∧ u_0 0 13 ≤ 999 := ⟨wf_0, by decide +kernel⟩
theorem wu_1 : WF u_1 ∧ u_1 0 13 ≤ 999 := wf_app (by decide) wu_0.1 wu_0.2 ft_0 lg_0
theorem wu_2 : WF u_2 ∧ u_2 0 13 ≤ 999 := wf_app (by decide) wu_1.1 wu_1.2 ft_1 lg_1
theorem wu_3 : WF u_3 ∧ u_3 0 13 ≤ 999 := wf_app (by decide) wu_2.1 wu_2.2 ft_2 lg_2
theorem wu_4 : WF u_4 ∧ u_4 0 13 ≤ 999 := wf_app (by decide) wu_3.1 wu_3.2 ft_3 lg_3
theorem wu_5 : WF u_5 ∧ u_5 0 13 ≤ 999 := wf_app (by decide) wu_4.1 wu_4.2 ft_4 lg_4
theorem wu_6 : WF u_6 ∧ u_6 0 13 ≤ 999 := wf_app (by decide) wu_5.1 wu_5.2 ft_5 lg_5
theorem wu_7 : WF u_7 ∧ u_7 0 13 ≤ 999 := wf_app (by decide) wu_6.1 wu_6.2 ft_6 lg_6
theorem wu_8 : WF u_8 ∧ u_8 0 13 ≤ 999 := wf_app (by decide) wu_7.1 wu_7.2 ft_7 lg_7
theorem wu_9 : WF u_9 ∧ u_9 0 13 ≤ 999 := wf_app (by decide) wu_8.1 wu_8.2 ft_8 lg_8
theorem wu_10 : WF u_10 ∧ u_10 0 13 ≤ 999 := wf_app (by decide) wu_9.1 wu_9.2 ft_9 lg_9
theorem wu_11 : WF u_11 ∧ u_11 0 13 ≤ 999 := wf_app (by decide) wu_10.1 wu_10.2 ft_10 lg_10
theorem wu_12 : WF u_12 ∧ u_12 0 13 ≤ 999 := wf_app (by decide) wu_11.1 wu_11.2 ft_11 lg_11
theorem wu_13 : WF u_13 ∧ u_13 0 13 ≤ 999 := wf_app (by decide) wu_12.1 wu_12.2 ft_12 lg_12
theorem wu_14 : WF u_14 ∧ u_14 0 13 ≤ 999 := wf_app (by decide) wu_13.1 wu_13.2 ft_13 lg_13
theorem wu_15 : WF u_15 ∧ u_15 0 13 ≤ 999 := wf_app (by decide) wu_14.1 wu_14.2 ft_14 lg_14
theorem wu_16 : WF u_16 ∧ u_16 0 13 ≤ 999 := wf_app (by decide) wu_15.1 wu_15.2 ft_15 lg_15
theorem wu_17 : WF u_17 ∧ u_17 0 13 ≤ 999 := wf_app (by decide) wu_16.1 wu_16.2 ft_16 lg_16
theorem cm_0 : cmdO tx0 206 u_0 0 13 = .inr (16, u_1) := by
  show rdn tx0 206 u_0 0 (fin tx0 206 u_0 0) 1 0 13 (fun _ => 0) = _
  rw [cmdO_1 (p := 13) (v := 6) (e := 15) (by decide +kernel) (by decide +kernel) (by decide +kernel) (by decide +kernel)]
  rw [rdn]
  exact fin_1 (by decide +kernel) (by decide +kernel) lg_0
theorem qm_0 : qcm tx0 (tkK tx0 206 5) (tkS tx0 206 5) (tkE tx0 206 5) = 0 + 1 ∧ tkE tx0 206 5 = 13 := by decide +kernel
theorem cm_1 : cmdO tx0 206 u_1 0 24 = .inr (27, u_2) := by
  show rdn tx0 206 u_1 0 (fin tx0 206 u_1 0) 1 0 24 (fun _ => 0) = _
  rw [cmdO_1 (p := 24) (v := 3) (e := 26) (by decide +kernel) (by decide +kernel) (by decide +kernel) (by decide +kernel)]
  rw [rdn]
  exact fin_1 (by decide +kernel) (by decide +kernel) lg_1
theorem qm_1 : qcm tx0 (tkK tx0 206 16) (tkS tx0 206 16) (tkE tx0 206 16) = 0 + 1 ∧ tkE tx0 206 16 = 24 := by decide +kernel
theorem cm_2 : cmdO tx0 206 u_2 0 35 = .inr (38, u_3) := by
  show rdn tx0 206 u_2 0 (fin tx0 206 u_2 0) 1 0 35 (fun _ => 0) = _
  rw [cmdO_1 (p := 35) (v := 9) (e := 37) (by decide +kernel) (by decide +kernel) (by decide +kernel) (by decide +kernel)]
  rw [rdn]
  exact fin_1 (by decide +kernel) (by decide +kernel) lg_2
theorem qm_2 : qcm tx0 (tkK tx0 206 27) (tkS tx0 206 27) (tkE tx0 206 27) = 0 + 1 ∧ tkE tx0 206 27 = 35 := by decide +kernel
theorem cm_3 : cmdO tx0 206 u_3 0 46 = .inr (49, u_4) := by
  show rdn tx0 206 u_3 0 (fin tx0 206 u_3 0) 1 0 46 (fun _ => 0) = _
  rw [cmdO_1 (p := 46) (v := 0) (e := 48) (by decide +kernel) (by decide +kernel) (by decide +kernel) (by decide +kernel)]
  rw [rdn]
  exact fin_1 (by decide +kernel) (by decide +kernel) lg_3
theorem qm_3 : qcm tx0 (tkK tx0 206 38) (tkS tx0 206 38) (tkE tx0 206 38) = 0 + 1 ∧ tkE tx0 206 38 = 46 := by decide +kernel
theorem cm_4 : cmdO tx0 206 u_4 0 57 = .inr (60, u_5) := by
  show rdn tx0 206 u_4 0 (fin tx0 206 u_4 0) 1 0 57 (fun _ => 0) = _
  rw [cmdO_1 (p := 57) (v := 4) (e := 59) (by decide +kernel) (by decide +kernel) (by decide +kernel) (by decide +kernel)]
  rw [rdn]
  exact fin_1 (by decide +kernel) (by decide +kernel) lg_4
theorem qm_4 : qcm tx0 (tkK tx0 206 49) (tkS tx0 206 49) (tkE tx0 206 49) = 0 + 1 ∧ tkE tx0 206 49 = 57 := by decide +kernel
theorem cm_5 : cmdO tx0 206 u_5 1 67 = .inr (74, u_6) := by
  show rdn tx0 206 u_5 1 (fin tx0 206 u_5 1) 3 0 67 (fun _ => 0) = _
  rw [cmdO_1 (p := 67) (v := 0) (e := 69) (by decide +kernel) (by decide +kernel) (by decide +kernel) (by decide +kernel)]
  rw [cmdO_1 (p := 69) (v := 1) (e := 71) (by decide +kernel) (by decide +kernel) (by decide +kernel) (by decide +kernel)]
  rw [cmdO_1 (p := 71) (v := 5) (e := 73) (by decide +kernel) (by decide +kernel) (by decide +kernel) (by decide +kernel)]
  rw [rdn]
  exact fin_1 (by decide +kernel) (by decide +kernel) lg_5
theorem qm_5 : qcm tx0 (tkK tx0 206 60) (tkS tx0 206 60) (tkE tx0 206 60) = 1 + 1 ∧ tkE tx0 206 60 = 67 := by decide +kernel
theorem cm_6 : cmdO tx0 206 u_6 1 81 = .inr (88, u_7) := by
  show rdn tx0 206 u_6 1 (fin tx0 206 u_6 1) 3 0 81 (fun _ => 0) = _
  rw [cmdO_1 (p := 81) (v := 1) (e := 83) (by decide +kernel) (by decide +kernel) (by decide +kernel) (by decide +kernel)]
  rw [cmdO_1 (p := 83) (v := 2) (e := 85) (by decide +kernel) (by decide +kernel) (by decide +kernel) (by decide +kernel)]
  rw [cmdO_1 (p := 85) (v := 3) (e := 87) (by decide +kernel) (by decide +kernel) (by decide +kernel) (by decide +kernel)]
  rw [rdn]
  exact fin_1 (by decide +kernel) (by decide +kernel) lg_6
theorem qm_6 : qcm tx0 (tkK tx0 206 74) (tkS tx0 206 74) (tkE tx0 206 74) = 1 + 1 ∧ tkE tx0 206 74 = 81 := by decide +kernel
theorem cm_7 : cmdO tx0 206 u_7 1 95 = .inr (102, u_8) := by
  show rdn tx0 206 u_7 1 (fin tx0 206 u_7 1) 3 0 95 (fun _ => 0) = _
  rw [cmdO_1 (p := 95) (v := 2) (e := 97) (by decide +kernel) (by decide +kernel) (by decide +kernel) (by decide +kernel)]
  rw [cmdO_1 (p := 97) (v := 3) (e := 99) (by decide +kernel) (by decide +kernel) (by decide +kernel) (by decide +kernel)]
  rw [cmdO_1 (p := 99) (v := 7) (e := 101) (by decide +kernel) (by decide +kernel) (by decide +kernel) (by decide +kernel)]
  rw [rdn]
  exact fin_1 (by decide +kernel) (by decide +kernel) lg_7
theorem qm_7 : qcm tx0 (tkK tx0 206 88) (tkS tx0 206 88) (tkE tx0 206 88) = 1 + 1 ∧ tkE tx0 206 88 = 95 := by decide +kernel
theorem cm_8 : cmdO tx0 206 u_8 1 109 = .inr (116, u_9) := by
  show rdn tx0 206 u_8 1 (fin tx0 206 u_8 1) 3 0 109 (fun _ => 0) = _
  rw [cmdO_1 (p := 109) (v := 0) (e := 111) (by decide +kernel) (by decide +kernel) (by decide +kernel) (by decide +kernel)]
  rw [cmdO_1 (p := 111) (v := 3) (e := 113) (by decide +kernel) (by decide +kernel) (by decide +kernel) (by decide +kernel)]
  rw [cmdO_1 (p := 113) (v := 2) (e := 115) (by decide +kernel) (by decide +kernel) (by decide +kernel) (by decide +kernel)]
  rw [rdn]
  exact fin_1 (by decide +kernel) (by decide +kernel) lg_8
theorem qm_8 : qcm tx0 (tkK tx0 206 102) (tkS tx0 206 102) (tkE tx0 206 102) = 1 + 1 ∧ tkE tx0 206 102 = 109 := by decide +kernel
theorem cm_9 : cmdO tx0 206 u_9 1 123 = .inr (130, u_10) := by
  show rdn tx0 206 u_9 1 (fin tx0 206 u_9 1) 3 0 123 (fun _ => 0) = _
  rw [cmdO_1 (p := 123) (v := 3) (e := 125) (by decide +kernel) (by decide +kernel) (by decide +kernel) (by decide +kernel)]
  rw [cmdO_1 (p := 125) (v := 4) (e := 127) (by decide +kernel) (by decide +kernel) (by decide +kernel) (by decide +kernel)]
  rw [cmdO_1 (p := 127) (v := 9) (e := 129) (by decide +kernel) (by decide +kernel) (by decide +kernel) (by decide +kernel)]
  rw [rdn]
  exact fin_1 (by decide +kernel) (by decide +kernel) lg_9
theorem qm_9 : qcm tx0 (tkK tx0 206 116) (tkS tx0 206 116) (tkE tx0 206 116) = 1 + 1 ∧ tkE tx0 206 116 = 123 := by decide +kernel
theorem cm_10 : cmdO tx0 206 u_10 2 134 = .inr (141, u_11) := by
  show rdn tx0 206 u_10 2 (fin tx0 206 u_10 2) 3 0 134 (fun _ => 0) = _
  rw [cmdO_1 (p := 134) (v := 0) (e := 136) (by decide +kernel) (by decide +kernel) (by decide +kernel) (by decide +kernel)]
  rw [cmdO_1 (p := 136) (v := 4) (e := 138) (by decide +kernel) (by decide +kernel) (by decide +kernel) (by decide +kernel)]
  rw [cmdO_1 (p := 138) (v := 5) (e := 140) (by decide +kernel) (by decide +kernel) (by decide +kernel) (by decide +kernel)]
  rw [rdn]
  exact fin_1 (by decide +kernel) (by decide +kernel) lg_10
theorem qm_10 : qcm tx0 (tkK tx0 206 130) (tkS tx0 206 130) (tkE tx0 206 130) = 2 + 1 ∧ tkE tx0 206 130 = 134 := by decide +kernel
theorem cm_11 : cmdO tx0 206 u_11 2 145 = .inr (152, u_12) := by
  show rdn tx0 206 u_11 2 (fin tx0 206 u_11 2) 3 0 145 (fun _ => 0) = _
  rw [cmdO_1 (p := 145) (v := 2) (e := 147) (by decide +kernel) (by decide +kernel) (by decide +kernel) (by decide +kernel)]
  rw [cmdO_1 (p := 147) (v := 3) (e := 149) (by decide +kernel) (by decide +kernel) (by decide +kernel) (by decide +kernel)]
  rw [cmdO_1 (p := 149) (v := 6) (e := 151) (by decide +kernel) (by decide +kernel) (by decide +kernel) (by decide +kernel)]
  rw [rdn]
  exact fin_1 (by decide +kernel) (by decide +kernel) lg_11
theorem qm_11 : qcm tx0 (tkK tx0 206 141) (tkS tx0 206 141) (tkE tx0 206 141) = 2 + 1 ∧ tkE tx0 206 141 = 145 := by decide +kernel
theorem cm_12 : cmdO tx0 206 u_12 2 156 = .inr (163, u_13) := by
  show rdn tx0 206 u_12 2 (fin tx0 206 u_12 2) 3 0 156 (fun _ => 0) = _
  rw [cmdO_1 (p := 156) (v := 4) (e := 158) (by decide +kernel) (by decide +kernel) (by decide +kernel) (by decide +kernel)]
  rw [cmdO_1 (p := 158) (v := 6) (e := 160) (by decide +kernel) (by decide +kernel) (by decide +kernel) (by decide +kernel)]
  rw [cmdO_1 (p := 160) (v := 3) (e := 162) (by decide +kernel) (by decide +kernel) (by decide +kernel) (by decide +kernel)]
  rw [rdn]
  exact fin_1 (by decide +kernel) (by decide +kernel) lg_12
theorem qm_12 : qcm tx0 (tkK tx0 206 152) (tkS tx0 206 152) (tkE tx0 206 152) = 2 + 1 ∧ tkE tx0 206 152 = 156 := by decide +kernel
theorem cm_13 : cmdO tx0 206 u_13 4 169 = .inr (172, u_14) := by
  show rdn tx0 206 u_13 4 (fin tx0 206 u_13 4) 1 0 169 (fun _ => 0) = _
  rw [cmdO_1 (p := 169) (v := 0) (e := 171) (by decide +kernel) (by decide +kernel) (by decide +kernel) (by decide +kernel)]
  rw [rdn]
  exact fin_1 (by decide +kernel) (by decide +kernel) lg_13
theorem qm_13 : qcm tx0 (tkK tx0 206 163) (tkS tx0 206 163) (tkE tx0 206 163) = 4 + 1 ∧ tkE tx0 206 163 = 169 := by decide +kernel
theorem cm_14 : cmdO tx0 206 u_14 4 178 = .inr (181, u_15) := by
  show rdn tx0 206 u_14 4 (fin tx0 206 u_14 4) 1 0 178 (fun _ => 0) = _
  rw [cmdO_1 (p := 178) (v := 1) (e := 180) (by decide +kernel) (by decide +kernel) (by decide +kernel) (by decide +kernel)]
  rw [rdn]
  exact fin_1 (by decide +kernel) (by decide +kernel) lg_14
theorem qm_14 : qcm tx0 (tkK tx0 206 172) (tkS tx0 206 172) (tkE tx0 206 172) = 4 + 1 ∧ tkE tx0 206 172 = 178 := by decide +kernel
theorem cm_15 : cmdO tx0 206 u_15 7 187 = .inr (196, u_16) := by
  show rdn tx0 206 u_15 7 (fin tx0 206 u_15 7) 4 0 187 (fun _ => 0) = _
  rw [cmdO_1 (p := 187) (v := 2) (e := 189) (by decide +kernel) (by decide +kernel) (by decide +kernel) (by decide +kernel)]
  rw [cmdO_1 (p := 189) (v := 1) (e := 191) (by decide +kernel) (by decide +kernel) (by decide +kernel) (by decide +kernel)]
  rw [cmdO_1 (p := 191) (v := 2) (e := 193) (by decide +kernel) (by decide +kernel) (by decide +kernel) (by decide +kernel)]
  rw [cmdO_1 (p := 193) (v := 6) (e := 195) (by decide +kernel) (by decide +kernel) (by decide +kernel) (by decide +kernel)]
  rw [rdn]
  exact fin_1 (by decide +kernel) (by decide +kernel) lg_15
theorem qm_15 : qcm tx0 (tkK tx0 206 181) (tkS tx0 206 181) (tkE tx0 206 181) = 7 + 1 ∧ tkE tx0 206 181 = 187 := by decide +kernel
theorem cm_16 : cmdO tx0 206 u_16 11 203 = .inr (206, u_17) := by
  show rdn tx0 206 u_16 11 (fin tx0 206 u_16 11) 1 0 203 (fun _ => 0) = _
  rw [cmdO_1 (p := 203) (v := 3) (e := 205) (by decide +kernel) (by decide +kernel) (by decide +kernel) (by decide +kernel)]
  rw [rdn]
  exact fin_1 (by decide +kernel) (by decide +kernel) lg_16
theorem qm_16 : qcm tx0 (tkK tx0 206 196) (tkS tx0 206 196) (tkE tx0 206 196) = 11 + 1 ∧ tkE tx0 206 196 = 203 := by decide +kernel
theorem in_T (h11 : T 0 11 = nI 0) : ∃ T', f_X9_init T = some T' ∧ RM (T' 1) u_17 ∧ T' 0 12 = nI 0 ∧ T' 0 13 = oI 0 ∧ (∀ a, a ≠ 0 → a ≠ 1 → a ≠ 7 → a ≠ 10 → T' a = T a) ∧ ∀ y, y ≠ 11 → y ≠ 12 → y ≠ 13 → y ≠ 16 → ¬ (17 ≤ y ∧ y ≤ 21) → T' 0 y = T 0 y := by
  have l9 : lb9.length = 131 := by decide +kernel
  have l10 : lb10.length = 75 := by decide +kernel
  obtain ⟨Ta, a1, a2, a3, a4, a5, a6⟩ := km_tell (w := lb9) (by rw [l9]; decide) h11 (by rw [l9]; decide)
  rw [l9] at a2 a3
  obtain ⟨Tb, b1, b2, b3, b4, b5, b6⟩ := km_tell (w := lb10) (by rw [l10]; decide) a2 (by rw [l10]; decide)
  rw [l10] at b2 b3
  have hTM : TM tx0 206 Tb := fun i hi => by
    by_cases q : i < 131
    · rw [b4 i (by omega)]
      have e1 := a3 i q
      rw [Nat.zero_add] at e1
      rw [e1]
      exact of_decide_eq_true (List.all_eq_true.mp tx_c9 i (List.mem_range.mpr q))
    · have e1 := b3 (i - 131) (by
        show i - 131 < 75
        omega)
      have e2 : 0 + 131 + (i - 131) = i := by omega
      rw [e2] at e1
      rw [e1]
      have e3 := of_decide_eq_true (List.all_eq_true.mp tx_c10 (i - 131) (List.mem_range.mpr (by omega)))
      rw [e3, show 131 + (i - 131) = i by omega]
  have hL : Tb 0 11 = nI 206 := b2
  obtain ⟨T1, T2, f1, c1, f2, c2, e⟩ := run_ml (tx := tx0) (L := 206) (by decide) tx_b hL hTM
  have hw : wq tx0 (tkK tx0 206 0) (tkS tx0 206 0) (tkE tx0 206 0) lb0 = true := by decide +kernel
  have hE0 : tkE tx0 206 0 = 4 := by decide +kernel
  have hE1 : tkE tx0 206 4 = 5 := by decide +kernel
  have hk5 : tkK tx0 206 4 = 5 := by decide +kernel
  rw [hE0] at c2
  have i1 := (km_is c2 (e := 1) (by decide)).1 (by rw [hk5]; rfl)
  have c3 := c2.1
  rw [hE1] at c3
  obtain ⟨S0, y1, y2, y3⟩ := km_nx (p := 5) (by decide) tx_b (by decide) c3
  obtain ⟨S1, x1, g1, z1⟩ := L34_s (k := 0) (by decide) tx_b (by decide) (by decide) qm_0.1 (by rw [qm_0.2]; exact cm_0) wu_0.1 wu_0.2 (by decide) y2
  obtain ⟨S2, x2, g2, z2⟩ := L34_s (k := 0) (by decide) tx_b (by decide) (by decide) qm_1.1 (by rw [qm_1.2]; exact cm_1) wu_1.1 wu_1.2 (by decide) x1
  obtain ⟨S3, x3, g3, z3⟩ := L34_s (k := 0) (by decide) tx_b (by decide) (by decide) qm_2.1 (by rw [qm_2.2]; exact cm_2) wu_2.1 wu_2.2 (by decide) x2
  obtain ⟨S4, x4, g4, z4⟩ := L34_s (k := 0) (by decide) tx_b (by decide) (by decide) qm_3.1 (by rw [qm_3.2]; exact cm_3) wu_3.1 wu_3.2 (by decide) x3
  obtain ⟨S5, x5, g5, z5⟩ := L34_s (k := 0) (by decide) tx_b (by decide) (by decide) qm_4.1 (by rw [qm_4.2]; exact cm_4) wu_4.1 wu_4.2 (by decide) x4
  obtain ⟨S6, x6, g6, z6⟩ := L34_s (k := 1) (by decide) tx_b (by decide) (by decide) qm_5.1 (by rw [qm_5.2]; exact cm_5) wu_5.1 wu_5.2 (by decide) x5
  obtain ⟨S7, x7, g7, z7⟩ := L34_s (k := 1) (by decide) tx_b (by decide) (by decide) qm_6.1 (by rw [qm_6.2]; exact cm_6) wu_6.1 wu_6.2 (by decide) x6
  obtain ⟨S8, x8, g8, z8⟩ := L34_s (k := 1) (by decide) tx_b (by decide) (by decide) qm_7.1 (by rw [qm_7.2]; exact cm_7) wu_7.1 wu_7.2 (by decide) x7
  obtain ⟨S9, x9, g9, z9⟩ := L34_s (k := 1) (by decide) tx_b (by decide) (by decide) qm_8.1 (by rw [qm_8.2]; exact cm_8) wu_8.1 wu_8.2 (by decide) x8
  obtain ⟨S10, x10, g10, z10⟩ := L34_s (k := 1) (by decide) tx_b (by decide) (by decide) qm_9.1 (by rw [qm_9.2]; exact cm_9) wu_9.1 wu_9.2 (by decide) x9
  obtain ⟨S11, x11, g11, z11⟩ := L34_s (k := 2) (by decide) tx_b (by decide) (by decide) qm_10.1 (by rw [qm_10.2]; exact cm_10) wu_10.1 wu_10.2 (by decide) x10
  obtain ⟨S12, x12, g12, z12⟩ := L34_s (k := 2) (by decide) tx_b (by decide) (by decide) qm_11.1 (by rw [qm_11.2]; exact cm_11) wu_11.1 wu_11.2 (by decide) x11
  obtain ⟨S13, x13, g13, z13⟩ := L34_s (k := 2) (by decide) tx_b (by decide) (by decide) qm_12.1 (by rw [qm_12.2]; exact cm_12) wu_12.1 wu_12.2 (by decide) x12
  obtain ⟨S14, x14, g14, z14⟩ := L34_s (k := 4) (by decide) tx_b (by decide) (by decide) qm_13.1 (by rw [qm_13.2]; exact cm_13) wu_13.1 wu_13.2 (by decide) x13
  obtain ⟨S15, x15, g15, z15⟩ := L34_s (k := 4) (by decide) tx_b (by decide) (by decide) qm_14.1 (by rw [qm_14.2]; exact cm_14) wu_14.1 wu_14.2 (by decide) x14
  obtain ⟨S16, x16, g16, z16⟩ := L34_s (k := 7) (by decide) tx_b (by decide) (by decide) qm_15.1 (by rw [qm_15.2]; exact cm_15) wu_15.1 wu_15.2 (by decide) x15
  obtain ⟨S17, x17, g17, z17⟩ := L34_s (k := 11) (by decide) tx_b (by decide) (by decide) qm_16.1 (by rw [qm_16.2]; exact cm_16) wu_16.1 wu_16.2 (by decide) x16
  have k0 : tkK tx0 206 206 = 0 := by decide +kernel
  have h17 : S17 0 17 = nI 0 := by rw [x17.2.1, k0]; rfl
  obtain ⟨fm, hfm⟩ : ∃ f, FU = f + 100 := ⟨1999900, rfl⟩
  have hx : f_X9_readsAll_L34 (fun S10 => some (nI 1, S10)) FU S0 = some (nI 1, S17) := by
    rw [hfm, show fm + 100 = fm + (99 - 17) + 1 + 1 + 1 + 1 + 1 + 1 + 1 + 1 + 1 + 1 + 1 + 1 + 1 + 1 + 1 + 1 + 1 + 1 from by omega]
    rw [z1, z2, z3, z4, z5, z6, z7, z8, z9, z10, z11, z12, z13, z14, z15, z16, z17, f_X9_readsAll_L34]
    simp (disch := omega) only [xl_s, ob_s, xb_s, rd_n, wr_n, m_1, m_1b, nI_add, pk_mul, l_0, l_1, l_2, l_3, l_4, l_5, l_6, l_7, l_8, l_9, l_10, l_11, l_12, l_13, l_14, l_15, l_16, l_17, l_18, l_19, l_20, l_21, l_22, l_23, l_24, l_30, l_31, l_32, l_40, l_41, l_48, l_57, l_59, l_64, l_90, l_97, l_99, l_100, l_119, l_122, l_186, l_200, l_255, l_600, l_999, l_1488, l_1000000, h17, if_true]
  have fm9 : FM Tb S17 := FM_t f1 (FM_t (NT_FM f2) (FM_t (NT_FM y3) (FM_t g1 (FM_t g2 (FM_t g3 (FM_t g4 (FM_t g5 (FM_t g6 (FM_t g7 (FM_t g8 (FM_t g9 (FM_t g10 (FM_t g11 (FM_t g12 (FM_t g13 (FM_t g14 (FM_t g15 (FM_t g16 g17))))))))))))))))))
  have hp : f_X9_parses Tb = some (nI 1, S17) := by
    rw [e, hw, nB_t, if_neg (by decide), i1, xb_s, if_neg (by decide), y1, ob_s, hx, ob_s, xz_1, ob_s]
  refine ⟨xput S17 0 16 (nI 0), ?_, ?_, ?_, ?_, fun a h0 h1 h7 h10 => ?_, fun y h11 h12 h13 h16 h17 => ?_⟩
  · rw [f_X9_init, a1, ob_s, b1, ob_s, hp, xb_s, xl_s, l_0]
  · rw [xp_n (by decide)]; exact x17.1.2.2.2.2
  · rw [xp_s, if_neg (by decide)]; exact x17.1.2.1
  · rw [xp_s, if_neg (by decide)]; exact x17.1.2.2.1
  · rw [xp_n h0, fm9.1 a h0 h1 h10, b5 a h0 h7, a5 a h0 h7]
  · rw [xp_s, if_neg h16, fm9.2 y h12 h13 h17, b6 y h11, a6 y h11]
theorem in_C (r0 : RC (xs 1 S) u_0) : ∃ S', f_X8_init S = some S' ∧ RC (xs 1 S') u_17 ∧ ∀ a, (a < 1 ∨ 14 ≤ a) → S' a = S a := by
  obtain ⟨S1, e1, t1⟩ := kc_build r0 wu_0.1 (of_decide_eq_true lg_0) (x := 6)
  have r1 : RC (xs 1 (xm 1 13 S S1)) u_1 := rc_1m t1
  obtain ⟨S2, e2, t2⟩ := kc_build r1 wu_1.1 (of_decide_eq_true lg_1) (x := 3)
  have r2 : RC (xs 1 (xm 1 13 (xm 1 13 S S1) S2)) u_2 := rc_1m t2
  obtain ⟨S3, e3, t3⟩ := kc_build r2 wu_2.1 (of_decide_eq_true lg_2) (x := 9)
  have r3 : RC (xs 1 (xm 1 13 (xm 1 13 (xm 1 13 S S1) S2) S3)) u_3 := rc_1m t3
  obtain ⟨S4, e4, t4⟩ := kc_build r3 wu_3.1 (of_decide_eq_true lg_3) (x := 0)
  have r4 : RC (xs 1 (xm 1 13 (xm 1 13 (xm 1 13 (xm 1 13 S S1) S2) S3) S4)) u_4 := rc_1m t4
  obtain ⟨S5, e5, t5⟩ := kc_build r4 wu_4.1 (of_decide_eq_true lg_4) (x := 4)
  have r5 : RC (xs 1 (xm 1 13 (xm 1 13 (xm 1 13 (xm 1 13 (xm 1 13 S S1) S2) S3) S4) S5)) u_5 := rc_1m t5
  obtain ⟨S6, e6, t6⟩ := kc_lay r5 wu_5.1 (of_decide_eq_true lg_5) (a := 0) (b := 1) (x := 5)
  have r6 : RC (xs 1 (xm 1 13 (xm 1 13 (xm 1 13 (xm 1 13 (xm 1 13 (xm 1 13 S S1) S2) S3) S4) S5) S6)) u_6 := rc_1m t6
  obtain ⟨S7, e7, t7⟩ := kc_lay r6 wu_6.1 (of_decide_eq_true lg_6) (a := 1) (b := 2) (x := 3)
  have r7 : RC (xs 1 (xm 1 13 (xm 1 13 (xm 1 13 (xm 1 13 (xm 1 13 (xm 1 13 (xm 1 13 S S1) S2) S3) S4) S5) S6) S7)) u_7 := rc_1m t7
  obtain ⟨S8, e8, t8⟩ := kc_lay r7 wu_7.1 (of_decide_eq_true lg_7) (a := 2) (b := 3) (x := 7)
  have r8 : RC (xs 1 (xm 1 13 (xm 1 13 (xm 1 13 (xm 1 13 (xm 1 13 (xm 1 13 (xm 1 13 (xm 1 13 S S1) S2) S3) S4) S5) S6) S7) S8)) u_8 := rc_1m t8
  obtain ⟨S9, e9, t9⟩ := kc_lay r8 wu_8.1 (of_decide_eq_true lg_8) (a := 0) (b := 3) (x := 2)
  have r9 : RC (xs 1 (xm 1 13 (xm 1 13 (xm 1 13 (xm 1 13 (xm 1 13 (xm 1 13 (xm 1 13 (xm 1 13 (xm 1 13 S S1) S2) S3) S4) S5) S6) S7) S8) S9)) u_9 := rc_1m t9
  obtain ⟨S10, e10, t10⟩ := kc_lay r9 wu_9.1 (of_decide_eq_true lg_9) (a := 3) (b := 4) (x := 9)
  have r10 : RC (xs 1 (xm 1 13 (xm 1 13 (xm 1 13 (xm 1 13 (xm 1 13 (xm 1 13 (xm 1 13 (xm 1 13 (xm 1 13 (xm 1 13 S S1) S2) S3) S4) S5) S6) S7) S8) S9) S10)) u_10 := rc_1m t10
  obtain ⟨S11, e11, t11, -, -⟩ := kc_put r10 wu_10.1 (by decide +kernel) (k := 0) (g := 4) (s := 5)
  have r11 : RC (xs 1 (xm 1 13 (xm 1 13 (xm 1 13 (xm 1 13 (xm 1 13 (xm 1 13 (xm 1 13 (xm 1 13 (xm 1 13 (xm 1 13 (xm 1 13 S S1) S2) S3) S4) S5) S6) S7) S8) S9) S10) S11)) u_11 := rc_1m t11
  obtain ⟨S12, e12, t12, -, -⟩ := kc_put r11 wu_11.1 (by decide +kernel) (k := 2) (g := 3) (s := 6)
  have r12 : RC (xs 1 (xm 1 13 (xm 1 13 (xm 1 13 (xm 1 13 (xm 1 13 (xm 1 13 (xm 1 13 (xm 1 13 (xm 1 13 (xm 1 13 (xm 1 13 (xm 1 13 S S1) S2) S3) S4) S5) S6) S7) S8) S9) S10) S11) S12)) u_12 := rc_1m t12
  obtain ⟨S13, e13, t13, -, -⟩ := kc_put r12 wu_12.1 (by decide +kernel) (k := 4) (g := 6) (s := 3)
  have r13 : RC (xs 1 (xm 1 13 (xm 1 13 (xm 1 13 (xm 1 13 (xm 1 13 (xm 1 13 (xm 1 13 (xm 1 13 (xm 1 13 (xm 1 13 (xm 1 13 (xm 1 13 (xm 1 13 S S1) S2) S3) S4) S5) S6) S7) S8) S9) S10) S11) S12) S13)) u_13 := rc_1m t13
  obtain ⟨S14, e14, t14⟩ := kc_take (c := 0) r13 wu_13.1 (by decide +kernel) (wf_take wu_13.1 (by decide +kernel) (of_decide_eq_true lg_13))
  have r14 : RC (xs 1 (xm 1 13 (xm 1 13 (xm 1 13 (xm 1 13 (xm 1 13 (xm 1 13 (xm 1 13 (xm 1 13 (xm 1 13 (xm 1 13 (xm 1 13 (xm 1 13 (xm 1 13 (xm 1 13 S S1) S2) S3) S4) S5) S6) S7) S8) S9) S10) S11) S12) S13) S14)) u_14 := rc_1m t14
  obtain ⟨S15, e15, t15⟩ := kc_take (c := 1) r14 wu_14.1 (by decide +kernel) (wf_take wu_14.1 (by decide +kernel) (of_decide_eq_true lg_14))
  have r15 : RC (xs 1 (xm 1 13 (xm 1 13 (xm 1 13 (xm 1 13 (xm 1 13 (xm 1 13 (xm 1 13 (xm 1 13 (xm 1 13 (xm 1 13 (xm 1 13 (xm 1 13 (xm 1 13 (xm 1 13 (xm 1 13 S S1) S2) S3) S4) S5) S6) S7) S8) S9) S10) S11) S12) S13) S14) S15)) u_15 := rc_1m t15
  obtain ⟨S16, e16, t16⟩ := kc_agree (a := 2) (b := 1) (f := 2) (n := 6) r15 wu_15.1 (by decide +kernel) (by decide +kernel) (by decide) lg_15
  have r16 : RC (xs 1 (xm 1 13 (xm 1 13 (xm 1 13 (xm 1 13 (xm 1 13 (xm 1 13 (xm 1 13 (xm 1 13 (xm 1 13 (xm 1 13 (xm 1 13 (xm 1 13 (xm 1 13 (xm 1 13 (xm 1 13 (xm 1 13 S S1) S2) S3) S4) S5) S6) S7) S8) S9) S10) S11) S12) S13) S14) S15) S16)) u_16 := rc_1m t16
  obtain ⟨S17, e17, t17⟩ := kc_spend (N := 3) r16 wu_16.1 (by have := wu_16.2; omega)
  have r17 : RC (xs 1 (xm 1 13 (xm 1 13 (xm 1 13 (xm 1 13 (xm 1 13 (xm 1 13 (xm 1 13 (xm 1 13 (xm 1 13 (xm 1 13 (xm 1 13 (xm 1 13 (xm 1 13 (xm 1 13 (xm 1 13 (xm 1 13 (xm 1 13 S S1) S2) S3) S4) S5) S6) S7) S8) S9) S10) S11) S12) S13) S14) S15) S16) S17)) u_17 := rc_1m t17
  refine ⟨(xm 1 13 (xm 1 13 (xm 1 13 (xm 1 13 (xm 1 13 (xm 1 13 (xm 1 13 (xm 1 13 (xm 1 13 (xm 1 13 (xm 1 13 (xm 1 13 (xm 1 13 (xm 1 13 (xm 1 13 (xm 1 13 (xm 1 13 S S1) S2) S3) S4) S5) S6) S7) S8) S9) S10) S11) S12) S13) S14) S15) S16) S17), ?_, r17, fun a ha => ?_⟩
  · simp only [f_X8_init, len_roof, xl_s, l_0, l_1, l_2, l_3, l_4, l_5, l_6, l_7, l_8, l_9, l_10, l_11, l_12, l_13, l_14, l_15, l_16, l_17, l_18, l_19, l_20, l_21, l_22, l_23, l_24, l_30, l_31, l_32, l_40, l_41, l_48, l_57, l_59, l_64, l_90, l_97, l_99, l_100, l_119, l_122, l_186, l_200, l_255, l_600, l_999, l_1488, l_1000000, e1, e2, e3, e4, e5, e6, e7, e8, e9, e10, e11, e12, e13, e14, e15, e16, e17, xb_s]
  · rw [fr_1m a ha, fr_1m a ha, fr_1m a ha, fr_1m a ha, fr_1m a ha, fr_1m a ha, fr_1m a ha, fr_1m a ha, fr_1m a ha, fr_1m a ha, fr_1m a ha, fr_1m a ha, fr_1m a ha, fr_1m a ha, fr_1m a ha, fr_1m a ha, fr_1m a ha]
end
