/-! level 2: the tokens of a script, on both sides -/
def kd (b : Nat) : Nat := if 97 ≤ b ∧ b ≤ 122 then 1 else if 48 ≤ b ∧ b ≤ 57 then 2 else if b = 40 then 3 else if b = 41 then 4 else if b = 59 then 5 else 6
def rk (k : Nat) : Nat := if k = 1 then 2 else if k = 2 then 3 else if k = 3 then 4 else if k = 4 then 5 else if k = 5 then 1 else k
def sk (tx : Nat → Nat) : Nat → Nat → Nat
  | 0, p => p
  | d + 1, p => if tx p = 32 ∨ tx p = 10 then sk tx d (p + 1) else p
def rn (tx : Nat → Nat) (k : Nat) : Nat → Nat → Nat
  | 0, p => p
  | d + 1, p => if kd (tx p) = k then rn tx k d (p + 1) else p
def nv (tx : Nat → Nat) : Nat → Nat → Nat → Nat
  | 0, _, a => a
  | d + 1, p, a => nv tx d (p + 1) (a * 10 + tx p - 48)
def tkS (tx : Nat → Nat) (L p : Nat) : Nat := sk tx (L - p) p
def tkE (tx : Nat → Nat) (L p : Nat) : Nat := if L ≤ tkS tx L p then tkS tx L p else if kd (tx (tkS tx L p)) = 1 ∨ kd (tx (tkS tx L p)) = 2 then rn tx (kd (tx (tkS tx L p))) (L - (tkS tx L p + 1)) (tkS tx L p + 1) else tkS tx L p + 1
def tkK (tx : Nat → Nat) (L p : Nat) : Nat := if L ≤ tkS tx L p then 0 else if kd (tx (tkS tx L p)) = 2 ∧ 3 < tkE tx L p - tkS tx L p then 6 else kd (tx (tkS tx L p))
def tkV (tx : Nat → Nat) (L p : Nat) : Nat := nv tx (tkE tx L p - tkS tx L p) (tkS tx L p) 0
section
variable {tx : Nat → Nat} {L p : Nat} {R T : XS}
theorem kd_le (b : Nat) : 1 ≤ kd b ∧ kd b ≤ 6 := by
  unfold kd
  repeat' split
  all_goals omega
theorem rk_inj {a b : Nat} (ha : a ≤ 6) (hb : b ≤ 6) : rk a = rk b ↔ a = b := by
  unfold rk
  constructor
  · intro h
    repeat' split at h
    all_goals omega
  · intro h
    rw [h]
theorem rk_le {a : Nat} (h : a ≤ 6) : rk a ≤ 6 := by
  unfold rk
  repeat' split
  all_goals omega
theorem sk_b (d p : Nat) : p ≤ sk tx d p ∧ sk tx d p ≤ p + d := by
  induction d generalizing p with
  | zero => exact ⟨Nat.le_refl p, Nat.le_refl p⟩
  | succ d ih =>
    unfold sk
    split
    · have := ih (p + 1)
      omega
    · omega
theorem rn_b (k d p : Nat) : p ≤ rn tx k d p ∧ rn tx k d p ≤ p + d := by
  induction d generalizing p with
  | zero => exact ⟨Nat.le_refl p, Nat.le_refl p⟩
  | succ d ih =>
    unfold rn
    split
    · have := ih (p + 1)
      omega
    · omega
theorem rn_k (k d p : Nat) : ∀ i, p ≤ i → i < rn tx k d p → kd (tx i) = k := by
  induction d generalizing p with
  | zero => intro i h1 h2; unfold rn at h2; omega
  | succ d ih =>
    intro i h1 h2
    unfold rn at h2
    split at h2
    · by_cases e : i = p
      · rw [e]; assumption
      · exact ih (p + 1) i (by omega) h2
    · omega
theorem kd_2 {b : Nat} (h : kd b = 2) : 48 ≤ b ∧ b ≤ 57 := by
  unfold kd at h
  repeat' split at h
  all_goals omega
theorem nv_lt (d p a : Nat) (h : ∀ i, p ≤ i → i < p + d → kd (tx i) = 2) : nv tx d p a < (a + 1) * 10 ^ d := by
  induction d generalizing p a with
  | zero => unfold nv; omega
  | succ d ih =>
    unfold nv
    have h0 := kd_2 (h p (by omega) (by omega))
    have h1 := ih (p + 1) (a * 10 + tx p - 48) (fun i h1 h2 => h i (by omega) (by omega))
    have h2 : (a * 10 + tx p - 48 + 1) * 10 ^ d ≤ ((a + 1) * 10) * 10 ^ d := Nat.mul_le_mul_right _ (by omega)
    have h3 : ((a + 1) * 10) * 10 ^ d = (a + 1) * 10 ^ (d + 1) := by rw [Nat.mul_assoc, Nat.pow_succ, Nat.mul_comm (10 ^ d) 10]
    omega
theorem tkS_b (h : p ≤ L) : p ≤ tkS tx L p ∧ tkS tx L p ≤ L := by
  have := sk_b (tx := tx) (L - p) p
  unfold tkS
  omega
theorem tkE_b (h : p ≤ L) : tkS tx L p ≤ tkE tx L p ∧ tkE tx L p ≤ L ∧ (tkS tx L p < L → tkS tx L p < tkE tx L p) := by
  have hs := tkS_b (tx := tx) h
  have h2 := rn_b (tx := tx) (kd (tx (tkS tx L p))) (L - (tkS tx L p + 1)) (tkS tx L p + 1)
  unfold tkE
  repeat' split
  all_goals omega
theorem tkK_0 (h : p ≤ L) : tkK tx L p = 0 ↔ tkS tx L p = L := by
  have hs := tkS_b (tx := tx) h
  have := kd_le (tx (tkS tx L p))
  unfold tkK
  repeat' split
  all_goals omega
theorem tkK_le (L p : Nat) : tkK tx L p ≤ 6 := by
  have := kd_le (tx (tkS tx L p))
  unfold tkK
  repeat' split
  all_goals omega
theorem tkK_E (h : p ≤ L) (hk : tkK tx L p ≠ 0) : p < tkE tx L p := by
  have h1 := tkS_b (tx := tx) h
  have h2 := tkE_b (tx := tx) h
  have h3 := mt (tkK_0 (tx := tx) h).mpr hk
  omega
theorem tkV_le (h : p ≤ L) (hk : tkK tx L p = 2) : tkE tx L p - tkS tx L p ≤ 3 ∧ tkV tx L p ≤ 999 ∧ ∀ i, tkS tx L p ≤ i → i < tkE tx L p → kd (tx i) = 2 := by
  have hs := tkS_b (tx := tx) h
  have hb := tkE_b (tx := tx) h
  have k2 : kd (tx (tkS tx L p)) = 2 ∧ tkE tx L p - tkS tx L p ≤ 3 ∧ tkS tx L p < L := by
    unfold tkK at hk
    split at hk
    · omega
    · split at hk
      · omega
      · rename_i a b
        refine ⟨hk, ?_, by omega⟩
        have := mt (fun x => And.intro hk x) b
        omega
  have all2 : ∀ i, tkS tx L p ≤ i → i < tkE tx L p → kd (tx i) = 2 := fun i h1 h2 => by
    by_cases e : i = tkS tx L p
    · rw [e]; exact k2.1
    · have he : tkE tx L p = rn tx 2 (L - (tkS tx L p + 1)) (tkS tx L p + 1) := by
        unfold tkE
        rw [if_neg (by omega), k2.1, if_pos (Or.inr rfl)]
      rw [he] at h2
      exact rn_k 2 _ _ i (by omega) h2
  refine ⟨k2.2.1, ?_, all2⟩
  have h1 := nv_lt (tx := tx) (tkE tx L p - tkS tx L p) (tkS tx L p) 0 (fun i a b => all2 i a (by omega))
  have h2 : 10 ^ (tkE tx L p - tkS tx L p) ≤ 10 ^ 3 := Nat.pow_le_pow_right (by decide) k2.2.1
  unfold tkV
  omega
theorem by_c : ∀ b, b < 256 → ((nI b).toInt8.toInt32 = nI 32 ↔ b = 32) ∧ ((nI b).toInt8.toInt32 = nI 10 ↔ b = 10) := by decide +kernel
theorem by_k : ∀ b, b < 256 → f_X4_kindOf (fun _ _ => 0) ((nI b).toInt8.toInt32) = some (nI (kd b)) := by decide +kernel
theorem by_r : ∀ b, b < 256 → f_X9_sortOf (nI b) = some (nI (rk (kd b))) := by decide +kernel
theorem by_n : ∀ b, b < 128 → (nI b).toInt8.toInt32 = nI b := by decide +kernel
theorem kc_kind {b : Nat} (hb : b < 256) {S : XS} : f_X4_kindOf S ((nI b).toInt8.toInt32) = some (nI (kd b)) := by_k b hb
theorem xpp {S : XS} {k j : Nat} {a b : Int32} : xput (xput S k j a) k j b = xput S k j b := by
  funext x y
  by_cases h : x = k
  · subst h
    by_cases g : y = j
    · rw [xp_s, if_pos g, xp_s, if_pos g]
    · rw [xp_s, if_neg g, xp_s, if_neg g, xp_s, if_neg g]
  · rw [xq_n h, xq_n h, xq_n h]
theorem xself {S : XS} {k j : Nat} {a : Int32} (h : S k j = a) : xput S k j a = S := by
  funext x y
  by_cases h1 : x = k
  · subst h1
    rw [xp_s]
    by_cases g : y = j
    · rw [if_pos g, g, h]
    · rw [if_neg g]
  · rw [xq_n h1]
/-- the class's text from the place 1 of its reader; the reference's, cell 7 -/
def TC (tx : Nat → Nat) (L : Nat) (R : XS) : Prop := ∀ i, i < L → R 1 i = (nI (tx i)).toInt8.toInt32
def TM (tx : Nat → Nat) (L : Nat) (T : XS) : Prop := ∀ i, i < L → T 7 i = nI (tx i)
theorem kc_L0 (h6 : L ≤ 600) (hB : ∀ i, tx i < 256) (hx : TC tx L R) (hL : R 0 1 = nI L) {K : XS → Option XS} : ∀ d n p, p + d = L → d < n → f_X4_next_L0 K n (xput R 0 2 (nI p)) = K (xput R 0 2 (nI (sk tx d p))) := by
  intro d
  induction d with
  | zero =>
    intro n p hp hn
    obtain ⟨n, rfl⟩ : ∃ k, n = k + 1 := ⟨n - 1, by omega⟩
    simp (disch := omega) only [f_X4_next_L0, xl_s, ob_s, xb_s, rd_n, wr_n, m_1, m_1b, nI_add, pk_mul, l_0, l_1, l_2, l_3, l_4, l_5, l_6, l_7, l_8, l_9, l_10, l_11, l_12, l_13, l_14, l_15, l_16, l_17, l_18, l_19, l_20, l_21, l_22, l_23, l_24, l_30, l_31, l_32, l_40, l_41, l_48, l_57, l_59, l_64, l_90, l_97, l_99, l_100, l_119, l_122, l_186, l_200, l_255, l_600, l_999, l_1488, l_1000000, xp_s, i_F, i_T, hL, i_leT, sk, if_true, if_false, and_self]
  | succ d ih =>
    intro n p hp hn
    obtain ⟨n, rfl⟩ : ∃ k, n = k + 1 := ⟨n - 1, by omega⟩
    have e1 : R 1 p = (nI (tx p)).toInt8.toInt32 := hx p (by omega)
    obtain ⟨e2, e3⟩ := by_c (tx p) (hB p)
    have ih' := ih n (p + 1) (by omega) (by omega)
    simp (disch := omega) only [f_X4_next_L0, xl_s, ob_s, xb_s, rd_n, wr_n, m_1, m_1b, nI_add, pk_mul, l_0, l_1, l_2, l_3, l_4, l_5, l_6, l_7, l_8, l_9, l_10, l_11, l_12, l_13, l_14, l_15, l_16, l_17, l_18, l_19, l_20, l_21, l_22, l_23, l_24, l_30, l_31, l_32, l_40, l_41, l_48, l_57, l_59, l_64, l_90, l_97, l_99, l_100, l_119, l_122, l_186, l_200, l_255, l_600, l_999, l_1488, l_1000000, xp_s, i_F, i_T, hL, i_leF, xq_n, e1, sk, xpp, if_true, if_false, and_self]
    by_cases q : tx p = 32
    · rw [if_pos (e2.mpr q), if_pos (Or.inl q)]; exact ih'
    · rw [if_neg (fun z => q (e2.mp z))]
      by_cases q2 : tx p = 10
      · rw [if_pos (e3.mpr q2), if_pos (Or.inr q2)]; exact ih'
      · rw [if_neg (fun z => q2 (e3.mp z)), if_neg (fun z => z.elim q q2)]
theorem km_L8 (h6 : L ≤ 600) (hx : TM tx L T) (hB : ∀ i, tx i < 256) (hL : T 0 11 = nI L) {K : XS → Option XS} : ∀ d n p, p + d = L → d < n → f_X9_next_L8 K n (xput T 0 18 (nI p)) = K (xput T 0 18 (nI (sk tx d p))) := by
  intro d
  induction d with
  | zero =>
    intro n p hp hn
    obtain ⟨n, rfl⟩ : ∃ k, n = k + 1 := ⟨n - 1, by omega⟩
    simp (disch := omega) only [f_X9_next_L8, xl_s, ob_s, xb_s, rd_n, wr_n, m_1, m_1b, nI_add, pk_mul, l_0, l_1, l_2, l_3, l_4, l_5, l_6, l_7, l_8, l_9, l_10, l_11, l_12, l_13, l_14, l_15, l_16, l_17, l_18, l_19, l_20, l_21, l_22, l_23, l_24, l_30, l_31, l_32, l_40, l_41, l_48, l_57, l_59, l_64, l_90, l_97, l_99, l_100, l_119, l_122, l_186, l_200, l_255, l_600, l_999, l_1488, l_1000000, xp_s, i_F, i_T, hL, i_leT, sk, if_true, if_false, and_self]
  | succ d ih =>
    intro n p hp hn
    obtain ⟨n, rfl⟩ : ∃ k, n = k + 1 := ⟨n - 1, by omega⟩
    have e1 : T 7 p = nI (tx p) := hx p (by omega)
    have e0 := hB p
    have ih' := ih n (p + 1) (by omega) (by omega)
    simp (disch := omega) only [f_X9_next_L8, xl_s, ob_s, xb_s, rd_n, wr_n, m_1, m_1b, nI_add, pk_mul, l_0, l_1, l_2, l_3, l_4, l_5, l_6, l_7, l_8, l_9, l_10, l_11, l_12, l_13, l_14, l_15, l_16, l_17, l_18, l_19, l_20, l_21, l_22, l_23, l_24, l_30, l_31, l_32, l_40, l_41, l_48, l_57, l_59, l_64, l_90, l_97, l_99, l_100, l_119, l_122, l_186, l_200, l_255, l_600, l_999, l_1488, l_1000000, xp_s, i_F, i_T, hL, i_leF, xq_n, e1, sk, xpp, if_true, if_false, and_self]
    by_cases q : tx p = 32
    · rw [if_pos (by rw [q]), if_pos (Or.inl q)]; exact ih'
    · rw [if_neg (fun z => q ((nI_eq (by omega) (by decide)).mp z))]
      by_cases q2 : tx p = 10
      · rw [if_pos (by rw [q2]), if_pos (Or.inr q2)]; exact ih'
      · rw [if_neg (fun z => q2 ((nI_eq (by omega) (by decide)).mp z)), if_neg (fun z => z.elim q q2)]
theorem kc_L119 (h6 : L ≤ 600) (hB : ∀ i, tx i < 256) (hx : TC tx L R) (hL : R 0 1 = nI L) {k : Nat} (hk : R 0 3 = nI k) (h6k : k ≤ 6) {K : XS → Option XS} : ∀ d n p, p + d = L → d < n → f_X4_next_L119 K n (xput R 0 2 (nI p)) = K (xput R 0 2 (nI (rn tx k d p))) := by
  intro d
  induction d with
  | zero =>
    intro n p hp hn
    obtain ⟨n, rfl⟩ : ∃ k, n = k + 1 := ⟨n - 1, by omega⟩
    simp (disch := omega) only [f_X4_next_L119, xl_s, ob_s, xb_s, rd_n, wr_n, m_1, m_1b, nI_add, pk_mul, l_0, l_1, l_2, l_3, l_4, l_5, l_6, l_7, l_8, l_9, l_10, l_11, l_12, l_13, l_14, l_15, l_16, l_17, l_18, l_19, l_20, l_21, l_22, l_23, l_24, l_30, l_31, l_32, l_40, l_41, l_48, l_57, l_59, l_64, l_90, l_97, l_99, l_100, l_119, l_122, l_186, l_200, l_255, l_600, l_999, l_1488, l_1000000, xp_s, i_F, i_T, hL, i_leT, rn, if_true, if_false, and_self]
  | succ d ih =>
    intro n p hp hn
    obtain ⟨n, rfl⟩ : ∃ k, n = k + 1 := ⟨n - 1, by omega⟩
    have e1 : R 1 p = (nI (tx p)).toInt8.toInt32 := hx p (by omega)
    have e2 := kd_le (tx p)
    have ih' := ih n (p + 1) (by omega) (by omega)
    simp (disch := omega) only [f_X4_next_L119, xl_s, ob_s, xb_s, rd_n, wr_n, m_1, m_1b, nI_add, pk_mul, l_0, l_1, l_2, l_3, l_4, l_5, l_6, l_7, l_8, l_9, l_10, l_11, l_12, l_13, l_14, l_15, l_16, l_17, l_18, l_19, l_20, l_21, l_22, l_23, l_24, l_30, l_31, l_32, l_40, l_41, l_48, l_57, l_59, l_64, l_90, l_97, l_99, l_100, l_119, l_122, l_186, l_200, l_255, l_600, l_999, l_1488, l_1000000, xp_s, i_F, i_T, hL, i_leF, xq_n, e1, kc_kind (hB p), hk, rn, xpp, if_true, if_false, and_self]
    by_cases q : kd (tx p) = k
    · rw [if_pos (by rw [q]), if_pos q]; exact ih'
    · rw [if_neg (fun z => q ((nI_eq (by omega) (by omega)).mp z)), if_neg q]
theorem km_L111 (h6 : L ≤ 600) (hx : TM tx L T) (hB : ∀ i, tx i < 256) (hL : T 0 11 = nI L) {k : Nat} (h17 : T 0 17 = nI (rk k)) (hk : k = 1 ∨ k = 2) {K : XS → Option XS} : ∀ d n p, p + d = L → d < n → f_X9_next_L111 K n (xput T 0 19 (nI p)) = K (xput T 0 19 (nI (rn tx k d p))) := by
  intro d
  have h23 : ∀ (x y : Option XS), (if nI (rk k) = nI 2 then x else if nI (rk k) = nI 3 then x else y) = x := fun x y => by
    rcases hk with rfl | rfl
    · exact if_pos rfl
    · rw [if_neg (by decide)]; exact if_pos (by decide)
  induction d with
  | zero =>
    intro n p hp hn
    obtain ⟨n, rfl⟩ : ∃ k, n = k + 1 := ⟨n - 1, by omega⟩
    simp (disch := omega) only [f_X9_next_L111, xl_s, ob_s, xb_s, rd_n, wr_n, m_1, m_1b, nI_add, pk_mul, l_0, l_1, l_2, l_3, l_4, l_5, l_6, l_7, l_8, l_9, l_10, l_11, l_12, l_13, l_14, l_15, l_16, l_17, l_18, l_19, l_20, l_21, l_22, l_23, l_24, l_30, l_31, l_32, l_40, l_41, l_48, l_57, l_59, l_64, l_90, l_97, l_99, l_100, l_119, l_122, l_186, l_200, l_255, l_600, l_999, l_1488, l_1000000, xp_s, i_F, i_T, hL, i_leT, rn, h17, h23, if_true, if_false, and_self]
  | succ d ih =>
    intro n p hp hn
    obtain ⟨n, rfl⟩ : ∃ k, n = k + 1 := ⟨n - 1, by omega⟩
    have e1 : T 7 p = nI (tx p) := hx p (by omega)
    have e2 := kd_le (tx p)
    have e3 := rk_le e2.2
    have e4 : rk k ≤ 6 := rk_le (by omega)
    have ih' := ih n (p + 1) (by omega) (by omega)
    simp (disch := omega) only [f_X9_next_L111, xl_s, ob_s, xb_s, rd_n, wr_n, m_1, m_1b, nI_add, pk_mul, l_0, l_1, l_2, l_3, l_4, l_5, l_6, l_7, l_8, l_9, l_10, l_11, l_12, l_13, l_14, l_15, l_16, l_17, l_18, l_19, l_20, l_21, l_22, l_23, l_24, l_30, l_31, l_32, l_40, l_41, l_48, l_57, l_59, l_64, l_90, l_97, l_99, l_100, l_119, l_122, l_186, l_200, l_255, l_600, l_999, l_1488, l_1000000, xp_s, i_F, i_T, hL, i_leF, xq_n, e1, by_r (tx p) (hB p), h17, h23, rn, xpp, if_true, if_false, and_self]
    by_cases q : kd (tx p) = k
    · rw [if_pos (by rw [q]), if_pos q]; exact ih'
    · rw [if_neg (fun z => q ((rk_inj e2.2 (by omega)).mp ((nI_eq (by omega) (by omega)).mp z))), if_neg q]
theorem kc_L30 (h6 : L ≤ 600) (hx : TC tx L R) {e : Nat} (he : e ≤ L) (h2 : R 0 2 = nI e) {K : Int32 → XS → Option XS} : ∀ d n p a, p + d = e → d < n → (∀ i, p ≤ i → i < e → kd (tx i) = 2) → (a + 1) * 10 ^ d ≤ 1000 → f_X4_readNumber_L30 K n (nI p) (xput R 0 5 (nI a)) = K (nI e) (xput R 0 5 (nI (nv tx d p a))) := by
  intro d
  induction d with
  | zero =>
    intro n p a hp hn hd ha
    obtain ⟨n, rfl⟩ : ∃ k, n = k + 1 := ⟨n - 1, by omega⟩
    simp (disch := omega) only [f_X4_readNumber_L30, xl_s, ob_s, xb_s, rd_n, wr_n, m_1, m_1b, nI_add, pk_mul, l_0, l_1, l_2, l_3, l_4, l_5, l_6, l_7, l_8, l_9, l_10, l_11, l_12, l_13, l_14, l_15, l_16, l_17, l_18, l_19, l_20, l_21, l_22, l_23, l_24, l_30, l_31, l_32, l_40, l_41, l_48, l_57, l_59, l_64, l_90, l_97, l_99, l_100, l_119, l_122, l_186, l_200, l_255, l_600, l_999, l_1488, l_1000000, xp_s, i_F, i_T, h2, i_leT, nv, if_true, if_false, and_self]
    rw [show p = e by omega]
  | succ d ih =>
    intro n p a hp hn hd ha
    obtain ⟨n, rfl⟩ : ∃ k, n = k + 1 := ⟨n - 1, by omega⟩
    have k2 := kd_2 (hd p (by omega) (by omega))
    have e1 : R 1 p = nI (tx p) := by rw [hx p (by omega)]; exact by_n _ (by omega)
    have hpow : 1 ≤ 10 ^ d := Nat.one_le_pow _ _ (by decide)
    have h10 : (a + 1) * 10 ^ (d + 1) = ((a + 1) * 10) * 10 ^ d := by rw [Nat.mul_assoc, Nat.pow_succ, Nat.mul_comm (10 ^ d) 10]
    have hb : (a + 1) * 10 ≤ ((a + 1) * 10) * 10 ^ d := Nat.le_mul_of_pos_right _ hpow
    have ih' := ih n (p + 1) (a * 10 + tx p - 48) (by omega) (by omega) (fun i h1 h2 => hd i (by omega) h2) (by
      have : (a * 10 + tx p - 48 + 1) * 10 ^ d ≤ ((a + 1) * 10) * 10 ^ d := Nat.mul_le_mul_right _ (by omega)
      omega)
    have es : nI (a * 10 + tx p) - nI 48 = nI (a * 10 + tx p - 48) := pk_sub (by omega)
    simp (disch := omega) only [f_X4_readNumber_L30, xl_s, ob_s, xb_s, rd_n, wr_n, m_1, m_1b, nI_add, pk_mul, l_0, l_1, l_2, l_3, l_4, l_5, l_6, l_7, l_8, l_9, l_10, l_11, l_12, l_13, l_14, l_15, l_16, l_17, l_18, l_19, l_20, l_21, l_22, l_23, l_24, l_30, l_31, l_32, l_40, l_41, l_48, l_57, l_59, l_64, l_90, l_97, l_99, l_100, l_119, l_122, l_186, l_200, l_255, l_600, l_999, l_1488, l_1000000, xp_s, i_F, i_T, h2, i_leF, xq_n, e1, es, xpp, nv, if_true, if_false, and_self]
    exact ih'
theorem km_L207 (h6 : L ≤ 600) (hx : TM tx L T) {e : Nat} (he : e ≤ L) (h2 : T 0 19 = nI e) (h3 : T 0 17 = nI 3) {K : Int32 → XS → Option XS} : ∀ d n p a, p + d = e → d < n → (∀ i, p ≤ i → i < e → kd (tx i) = 2) → (a + 1) * 10 ^ d ≤ 1000 → f_X9_next_L207 K n (nI p) (xput T 0 20 (nI a)) = K (nI e) (xput T 0 20 (nI (nv tx d p a))) := by
  intro d
  induction d with
  | zero =>
    intro n p a hp hn hd ha
    obtain ⟨n, rfl⟩ : ∃ k, n = k + 1 := ⟨n - 1, by omega⟩
    simp (disch := omega) only [f_X9_next_L207, xl_s, ob_s, xb_s, rd_n, wr_n, m_1, m_1b, nI_add, pk_mul, l_0, l_1, l_2, l_3, l_4, l_5, l_6, l_7, l_8, l_9, l_10, l_11, l_12, l_13, l_14, l_15, l_16, l_17, l_18, l_19, l_20, l_21, l_22, l_23, l_24, l_30, l_31, l_32, l_40, l_41, l_48, l_57, l_59, l_64, l_90, l_97, l_99, l_100, l_119, l_122, l_186, l_200, l_255, l_600, l_999, l_1488, l_1000000, xp_s, i_F, i_T, h2, i_leT, nv, if_true, if_false, and_self]
    rw [show p = e by omega]
  | succ d ih =>
    intro n p a hp hn hd ha
    obtain ⟨n, rfl⟩ : ∃ k, n = k + 1 := ⟨n - 1, by omega⟩
    have k2 := kd_2 (hd p (by omega) (by omega))
    have e1 : T 7 p = nI (tx p) := hx p (by omega)
    have hpow : 1 ≤ 10 ^ d := Nat.one_le_pow _ _ (by decide)
    have h10 : (a + 1) * 10 ^ (d + 1) = ((a + 1) * 10) * 10 ^ d := by rw [Nat.mul_assoc, Nat.pow_succ, Nat.mul_comm (10 ^ d) 10]
    have hb : (a + 1) * 10 ≤ ((a + 1) * 10) * 10 ^ d := Nat.le_mul_of_pos_right _ hpow
    have ih' := ih n (p + 1) (a * 10 + tx p - 48) (by omega) (by omega) (fun i h1 h2 => hd i (by omega) h2) (by
      have : (a * 10 + tx p - 48 + 1) * 10 ^ d ≤ ((a + 1) * 10) * 10 ^ d := Nat.mul_le_mul_right _ (by omega)
      omega)
    have es : nI (10 * a + tx p) - nI 48 = nI (a * 10 + tx p - 48) := by rw [pk_sub (by omega), Nat.mul_comm]
    simp (disch := omega) only [f_X9_next_L207, xl_s, ob_s, xb_s, rd_n, wr_n, m_1, m_1b, nI_add, pk_mul, l_0, l_1, l_2, l_3, l_4, l_5, l_6, l_7, l_8, l_9, l_10, l_11, l_12, l_13, l_14, l_15, l_16, l_17, l_18, l_19, l_20, l_21, l_22, l_23, l_24, l_30, l_31, l_32, l_40, l_41, l_48, l_57, l_59, l_64, l_90, l_97, l_99, l_100, l_119, l_122, l_186, l_200, l_255, l_600, l_999, l_1488, l_1000000, xp_s, i_F, i_T, h2, h3, i_leF, xq_n, e1, es, xpp, nv, if_true, if_false, and_self]
    exact ih'
theorem FU_1 : ∃ n, FU = n + 1 := ⟨1999999, rfl⟩
theorem L_lt {d : Nat} (h : d ≤ 600) : d < FU := by
  have : 600 < FU := by decide
  omega
theorem kc_next (h6 : L ≤ 600) (hB : ∀ i, tx i < 256) (hx : TC tx L R) (hL : R 0 1 = nI L) (hp : p ≤ L) (h2 : R 0 2 = nI p) : ∃ R', f_X4_next R = some R' ∧ R' 0 1 = nI L ∧ R' 0 2 = nI (tkE tx L p) ∧ R' 0 3 = nI (tkK tx L p) ∧ R' 0 4 = nI (tkS tx L p) ∧ (tkK tx L p = 2 → R' 0 5 = nI (tkV tx L p)) ∧ ∀ a, 1 ≤ a → R' a = R a := by
  have hS := tkS_b (tx := tx) hp
  have hE := tkE_b (tx := tx) hp
  have h0 : ∀ K, f_X4_next_L0 K FU R = K (xput R 0 2 (nI (tkS tx L p))) := fun K => by
    have := kc_L0 h6 hB hx hL (K := K) (L - p) FU p (by omega) (L_lt (by omega))
    rw [xself h2] at this
    exact this
  by_cases q : L ≤ tkS tx L p
  · have e1 : tkE tx L p = tkS tx L p := by unfold tkE; rw [if_pos q]
    have e2 : tkK tx L p = 0 := by unfold tkK; rw [if_pos q]
    refine ⟨xput (xput (xput R 0 2 (nI (tkS tx L p))) 0 4 (nI (tkS tx L p))) 0 3 (nI 0), ?_, ?_, ?_, ?_, ?_, (fun z => by rw [e2] at z; cases z), fun a ha => by rw [xp_n (by omega), xp_n (by omega), xp_n (by omega)]⟩
    · simp (disch := omega) only [f_X4_next, h0, xl_s, ob_s, xb_s, rd_n, wr_n, m_1, m_1b, nI_add, pk_mul, l_0, l_1, l_2, l_3, l_4, l_5, l_6, l_7, l_8, l_9, l_10, l_11, l_12, l_13, l_14, l_15, l_16, l_17, l_18, l_19, l_20, l_21, l_22, l_23, l_24, l_30, l_31, l_32, l_40, l_41, l_48, l_57, l_59, l_64, l_90, l_97, l_99, l_100, l_119, l_122, l_186, l_200, l_255, l_600, l_999, l_1488, l_1000000, xp_s, i_F, i_T, hL, i_leT, i_eqF, if_true, if_false, and_self]
    · simp (disch := omega) only [xp_s, i_F, i_T, hL, if_true, if_false, and_self]
    · rw [e1]; simp (disch := omega) only [xp_s, i_F, i_T, if_true, if_false, and_self]
    · rw [e2]; simp (disch := omega) only [xp_s, i_F, i_T, if_true, if_false, and_self]
    · simp (disch := omega) only [xp_s, i_F, i_T, if_true, if_false, and_self]
  have e1 : R 1 (tkS tx L p) = (nI (tx (tkS tx L p))).toInt8.toInt32 := hx _ (by omega)
  have ek : ∀ S, f_X4_kindOf S ((nI (tx (tkS tx L p))).toInt8.toInt32) = some (nI (kd (tx (tkS tx L p)))) := fun S => kc_kind (hB (tkS tx L p))
  have hk := kd_le (tx (tkS tx L p))
  have ht : tkE tx L p = if kd (tx (tkS tx L p)) = 1 ∨ kd (tx (tkS tx L p)) = 2 then rn tx (kd (tx (tkS tx L p))) (L - (tkS tx L p + 1)) (tkS tx L p + 1) else tkS tx L p + 1 := by unfold tkE; rw [if_neg q]
  have hK : tkK tx L p = if kd (tx (tkS tx L p)) = 2 ∧ 3 < tkE tx L p - tkS tx L p then 6 else kd (tx (tkS tx L p)) := by unfold tkK; rw [if_neg q]
  have hv := tkV_le (tx := tx) hp
  have hV : tkV tx L p = nv tx (tkE tx L p - tkS tx L p) (tkS tx L p) 0 := rfl
  generalize hs : tkS tx L p = s at *
  generalize he : tkE tx L p = e at *
  generalize hkk : kd (tx s) = k at *
  have run : ∀ K, k = 1 ∨ k = 2 → f_X4_next_L119 K FU (xput (xput (xput (xput (xput R 0 2 (nI s)) 0 4 (nI s)) 0 3 (nI 0)) 0 3 (nI k)) 0 2 (nI (s + 1))) = K (xput (xput (xput (xput (xput R 0 2 (nI s)) 0 4 (nI s)) 0 3 (nI 0)) 0 3 (nI k)) 0 2 (nI e)) := fun K hk => by
    rw [kc_L119 (R := xput (xput (xput (xput R 0 2 (nI s)) 0 4 (nI s)) 0 3 (nI 0)) 0 3 (nI k)) h6 hB (fun i hi => by rw [xp_n (by decide), xp_n (by decide), xp_n (by decide), xp_n (by decide)]; exact hx i hi) (by simp (disch := omega) only [xp_s, i_F, i_T, hL, if_true, if_false, and_self]) (k := k) (by simp (disch := omega) only [xp_s, i_F, i_T, if_true, if_false, and_self]) (by omega) (L - (s + 1)) FU (s + 1) (by omega) (L_lt (by omega)), ht, if_pos hk]
  by_cases q1 : k = 1
  · subst q1
    have e2 : tkK tx L p = 1 := by rw [hK, if_neg (by omega)]
    have run1 := fun K => run K (Or.inl rfl)
    refine ⟨xput (xput (xput (xput (xput R 0 2 (nI s)) 0 4 (nI s)) 0 3 (nI 0)) 0 3 (nI 1)) 0 2 (nI e), ?_, ?_, ?_, ?_, ?_, (fun z => by rw [e2] at z; cases z), fun a ha => by rw [xp_n (by omega), xp_n (by omega), xp_n (by omega), xp_n (by omega), xp_n (by omega)]⟩
    · simp (disch := omega) only [f_X4_next, h0, xl_s, ob_s, xb_s, rd_n, wr_n, m_1, m_1b, nI_add, pk_mul, l_0, l_1, l_2, l_3, l_4, l_5, l_6, l_7, l_8, l_9, l_10, l_11, l_12, l_13, l_14, l_15, l_16, l_17, l_18, l_19, l_20, l_21, l_22, l_23, l_24, l_30, l_31, l_32, l_40, l_41, l_48, l_57, l_59, l_64, l_90, l_97, l_99, l_100, l_119, l_122, l_186, l_200, l_255, l_600, l_999, l_1488, l_1000000, xp_s, i_F, i_T, hL, i_leF, xq_n, e1, ek, i_eqT, i_eqF, run1, if_true, if_false, and_self]
    · simp (disch := omega) only [xp_s, i_F, i_T, hL, if_true, if_false, and_self]
    · simp (disch := omega) only [xp_s, i_F, i_T, if_true, if_false, and_self]
    · rw [e2]; simp (disch := omega) only [xp_s, i_F, i_T, if_true, if_false, and_self]
    · simp (disch := omega) only [xp_s, i_F, i_T, if_true, if_false, and_self]
  by_cases q2 : k = 2
  · subst q2
    have run2 := fun K => run K (Or.inr rfl)
    have sub : nI e - nI s = nI (e - s) := pk_sub (by omega)
    by_cases q3 : e - s ≤ 3
    · have e2 : tkK tx L p = 2 := by rw [hK, if_neg (by omega)]
      obtain ⟨-, v9, d2⟩ := hv e2
      have num := kc_L30 (R := xput (xput (xput (xput (xput R 0 2 (nI s)) 0 4 (nI s)) 0 3 (nI 0)) 0 3 (nI 2)) 0 2 (nI e)) (L := L) (tx := tx) h6 (fun i hi => by rw [xp_n (by decide), xp_n (by decide), xp_n (by decide), xp_n (by decide), xp_n (by decide)]; exact hx i hi) (e := e) (by omega) (by simp (disch := omega) only [xp_s, i_F, i_T, if_true, if_false, and_self]) (K := fun v6 S7 => some S7) (e - s) FU s 0 (by omega) (L_lt (by omega)) d2 (by
        have : 10 ^ (e - s) ≤ 10 ^ 3 := Nat.pow_le_pow_right (by decide) q3
        omega)
      refine ⟨xput (xput (xput (xput (xput (xput R 0 2 (nI s)) 0 4 (nI s)) 0 3 (nI 0)) 0 3 (nI 2)) 0 2 (nI e)) 0 5 (nI (tkV tx L p)), ?_, ?_, ?_, ?_, ?_, fun z => ?_, fun a ha => by rw [xp_n (by omega), xp_n (by omega), xp_n (by omega), xp_n (by omega), xp_n (by omega), xp_n (by omega)]⟩
      · simp (disch := omega) only [f_X4_next, h0, xl_s, ob_s, xb_s, rd_n, wr_n, m_1, m_1b, nI_add, pk_mul, l_0, l_1, l_2, l_3, l_4, l_5, l_6, l_7, l_8, l_9, l_10, l_11, l_12, l_13, l_14, l_15, l_16, l_17, l_18, l_19, l_20, l_21, l_22, l_23, l_24, l_30, l_31, l_32, l_40, l_41, l_48, l_57, l_59, l_64, l_90, l_97, l_99, l_100, l_119, l_122, l_186, l_200, l_255, l_600, l_999, l_1488, l_1000000, xp_s, i_F, i_T, hL, i_leF, xq_n, e1, ek, i_eqT, i_eqF, run2, f_X4_readNumber, sub, i_leT, num, hV, if_true, if_false, and_self]
      · simp (disch := omega) only [xp_s, i_F, i_T, hL, if_true, if_false, and_self]
      · simp (disch := omega) only [xp_s, i_F, i_T, if_true, if_false, and_self]
      · rw [e2]; simp (disch := omega) only [xp_s, i_F, i_T, if_true, if_false, and_self]
      · simp (disch := omega) only [xp_s, i_F, i_T, if_true, if_false, and_self]
      · simp (disch := omega) only [xp_s, i_F, i_T, if_true, if_false, and_self]
    · have e2 : tkK tx L p = 6 := by rw [hK, if_pos ⟨rfl, by omega⟩]
      refine ⟨xput (xput (xput (xput (xput (xput R 0 2 (nI s)) 0 4 (nI s)) 0 3 (nI 0)) 0 3 (nI 2)) 0 2 (nI e)) 0 3 (nI 6), ?_, ?_, ?_, ?_, ?_, (fun z => by rw [e2] at z; cases z), fun a ha => by rw [xp_n (by omega), xp_n (by omega), xp_n (by omega), xp_n (by omega), xp_n (by omega), xp_n (by omega)]⟩
      · simp (disch := omega) only [f_X4_next, h0, xl_s, ob_s, xb_s, rd_n, wr_n, m_1, m_1b, nI_add, pk_mul, l_0, l_1, l_2, l_3, l_4, l_5, l_6, l_7, l_8, l_9, l_10, l_11, l_12, l_13, l_14, l_15, l_16, l_17, l_18, l_19, l_20, l_21, l_22, l_23, l_24, l_30, l_31, l_32, l_40, l_41, l_48, l_57, l_59, l_64, l_90, l_97, l_99, l_100, l_119, l_122, l_186, l_200, l_255, l_600, l_999, l_1488, l_1000000, xp_s, i_F, i_T, hL, i_leF, xq_n, e1, ek, i_eqT, i_eqF, run2, f_X4_readNumber, sub, if_true, if_false, and_self]
      · simp (disch := omega) only [xp_s, i_F, i_T, hL, if_true, if_false, and_self]
      · simp (disch := omega) only [xp_s, i_F, i_T, if_true, if_false, and_self]
      · rw [e2]; simp (disch := omega) only [xp_s, i_F, i_T, if_true, if_false, and_self]
      · simp (disch := omega) only [xp_s, i_F, i_T, if_true, if_false, and_self]
  · have e2 : tkK tx L p = k := by rw [hK, if_neg (by omega)]
    have e3 : e = s + 1 := by rw [ht, if_neg (by omega)]
    refine ⟨xput (xput (xput (xput (xput R 0 2 (nI s)) 0 4 (nI s)) 0 3 (nI 0)) 0 3 (nI k)) 0 2 (nI (s + 1)), ?_, ?_, ?_, ?_, ?_, (fun z => by omega), fun a ha => by rw [xp_n (by omega), xp_n (by omega), xp_n (by omega), xp_n (by omega), xp_n (by omega)]⟩
    · simp (disch := omega) only [f_X4_next, h0, xl_s, ob_s, xb_s, rd_n, wr_n, m_1, m_1b, nI_add, pk_mul, l_0, l_1, l_2, l_3, l_4, l_5, l_6, l_7, l_8, l_9, l_10, l_11, l_12, l_13, l_14, l_15, l_16, l_17, l_18, l_19, l_20, l_21, l_22, l_23, l_24, l_30, l_31, l_32, l_40, l_41, l_48, l_57, l_59, l_64, l_90, l_97, l_99, l_100, l_119, l_122, l_186, l_200, l_255, l_600, l_999, l_1488, l_1000000, xp_s, i_F, i_T, hL, i_leF, xq_n, e1, ek, i_eqT, i_eqF, if_true, if_false, and_self]
    · simp (disch := omega) only [xp_s, i_F, i_T, hL, if_true, if_false, and_self]
    · rw [e3]; simp (disch := omega) only [xp_s, i_F, i_T, if_true, if_false, and_self]
    · rw [e2]; simp (disch := omega) only [xp_s, i_F, i_T, if_true, if_false, and_self]
    · simp (disch := omega) only [xp_s, i_F, i_T, if_true, if_false, and_self]
/-- the places of the reference's cell 0 that a token moves -/
def NT (T T' : XS) : Prop := (∀ a, a ≠ 0 → T' a = T a) ∧ ∀ y, y ≠ 17 → y ≠ 18 → y ≠ 19 → y ≠ 20 → T' 0 y = T 0 y
theorem km_next (h6 : L ≤ 600) (hB : ∀ i, tx i < 256) (hx : TM tx L T) (hL : T 0 11 = nI L) (hp : p ≤ L) (h2 : T 0 19 = nI p) : ∃ T', f_X9_next T = some T' ∧ T' 0 19 = nI (tkE tx L p) ∧ T' 0 17 = nI (rk (tkK tx L p)) ∧ T' 0 18 = nI (tkS tx L p) ∧ (tkK tx L p = 2 → T' 0 20 = nI (tkV tx L p)) ∧ NT T T' := by
  have hS := tkS_b (tx := tx) hp
  have hE := tkE_b (tx := tx) hp
  have h0 : ∀ K, f_X9_next_L8 K FU (xput T 0 18 (nI p)) = K (xput T 0 18 (nI (tkS tx L p))) := fun K => km_L8 h6 hx hB hL (K := K) (L - p) FU p (by omega) (L_lt (by omega))
  by_cases q : L ≤ tkS tx L p
  · have e1 : tkE tx L p = tkS tx L p := by unfold tkE; rw [if_pos q]
    have e2 : tkK tx L p = 0 := by unfold tkK; rw [if_pos q]
    have e3 : tkS tx L p = L := by omega
    refine ⟨xput (xput (xput T 0 18 (nI (tkS tx L p))) 0 19 (nI (tkS tx L p))) 0 17 (nI 0), ?_, ?_, ?_, ?_, (fun z => by rw [e2] at z; cases z), fun a ha => by rw [xp_n (by omega), xp_n (by omega), xp_n (by omega)], fun y h1 h2 h3 h4 => by rw [xp_s, if_neg h1, xp_s, if_neg h3, xp_s, if_neg h2]⟩
    · simp (disch := omega) only [f_X9_next, xl_s, ob_s, xb_s, rd_n, wr_n, m_1, m_1b, nI_add, pk_mul, l_0, l_1, l_2, l_3, l_4, l_5, l_6, l_7, l_8, l_9, l_10, l_11, l_12, l_13, l_14, l_15, l_16, l_17, l_18, l_19, l_20, l_21, l_22, l_23, l_24, l_30, l_31, l_32, l_40, l_41, l_48, l_57, l_59, l_64, l_90, l_97, l_99, l_100, l_119, l_122, l_186, l_200, l_255, l_600, l_999, l_1488, l_1000000, h2, h0, xp_s, i_F, i_T, hL, i_eqT, if_true, if_false, and_self]
    · rw [e1]; simp (disch := omega) only [xp_s, i_F, i_T, if_true, if_false, and_self]
    · rw [e2]; simp (disch := omega) only [xp_s, i_F, i_T, rk, if_true, if_false, and_self]
    · simp (disch := omega) only [xp_s, i_F, i_T, if_true, if_false, and_self]
  have e1 : T 7 (tkS tx L p) = nI (tx (tkS tx L p)) := hx _ (by omega)
  have ek := by_r _ (hB (tkS tx L p))
  have hk := kd_le (tx (tkS tx L p))
  have ht : tkE tx L p = if kd (tx (tkS tx L p)) = 1 ∨ kd (tx (tkS tx L p)) = 2 then rn tx (kd (tx (tkS tx L p))) (L - (tkS tx L p + 1)) (tkS tx L p + 1) else tkS tx L p + 1 := by unfold tkE; rw [if_neg q]
  have hK : tkK tx L p = if kd (tx (tkS tx L p)) = 2 ∧ 3 < tkE tx L p - tkS tx L p then 6 else kd (tx (tkS tx L p)) := by unfold tkK; rw [if_neg q]
  have hv := tkV_le (tx := tx) hp
  have hV : tkV tx L p = nv tx (tkE tx L p - tkS tx L p) (tkS tx L p) 0 := rfl
  generalize hs : tkS tx L p = s at *
  generalize he : tkE tx L p = e at *
  generalize hkk : kd (tx s) = k at *
  have nt : ∀ x y z : Int32, NT T (xput (xput (xput (xput (xput T 0 18 (nI s)) 0 19 (nI s)) 0 17 x) 0 19 y) 0 20 z) := fun x y z => ⟨fun a ha => by rw [xp_n ha, xp_n ha, xp_n ha, xp_n ha, xp_n ha], fun y h1 h2 h3 h4 => by rw [xp_s, if_neg h4, xp_s, if_neg h3, xp_s, if_neg h1, xp_s, if_neg h3, xp_s, if_neg h2]⟩
  have run : ∀ K, k = 1 ∨ k = 2 → f_X9_next_L111 K FU (xput (xput (xput (xput T 0 18 (nI s)) 0 19 (nI s)) 0 17 (nI (rk k))) 0 19 (nI (s + 1))) = K (xput (xput (xput (xput T 0 18 (nI s)) 0 19 (nI s)) 0 17 (nI (rk k))) 0 19 (nI e)) := fun K hk => by
    rw [km_L111 (T := xput (xput (xput T 0 18 (nI s)) 0 19 (nI s)) 0 17 (nI (rk k))) h6 (fun i hi => by rw [xp_n (by decide), xp_n (by decide), xp_n (by decide)]; exact hx i hi) hB (by simp (disch := omega) only [xp_s, i_F, i_T, hL, if_true, if_false, and_self]) (k := k) (by simp (disch := omega) only [xp_s, i_F, i_T, if_true, if_false, and_self]) hk (L - (s + 1)) FU (s + 1) (by omega) (L_lt (by omega)), ht, if_pos hk]
  by_cases q1 : k = 1
  · subst q1
    have e2 : tkK tx L p = 1 := by rw [hK, if_neg (by omega)]
    have run1 : ∀ K, f_X9_next_L111 K FU (xput (xput (xput (xput T 0 18 (nI s)) 0 19 (nI s)) 0 17 (nI 2)) 0 19 (nI (s + 1))) = K (xput (xput (xput (xput T 0 18 (nI s)) 0 19 (nI s)) 0 17 (nI 2)) 0 19 (nI e)) := fun K => run K (Or.inl rfl)
    have ek1 : f_X9_sortOf (nI (tx s)) = some (nI 2) := ek
    have ex : ∀ (K : Int32 → XS → Option XS), f_X9_next_L207 K FU (nI s) (xput (xput (xput (xput (xput T 0 18 (nI s)) 0 19 (nI s)) 0 17 (nI 2)) 0 19 (nI e)) 0 20 (nI 0)) = K (nI s) (xput (xput (xput (xput (xput T 0 18 (nI s)) 0 19 (nI s)) 0 17 (nI 2)) 0 19 (nI e)) 0 20 (nI 0)) := fun K => by
      obtain ⟨fm, hfm⟩ := FU_1
      rw [hfm]
      simp (disch := omega) only [f_X9_next_L207, xl_s, ob_s, xb_s, rd_n, wr_n, m_1, m_1b, nI_add, pk_mul, l_0, l_1, l_2, l_3, l_4, l_5, l_6, l_7, l_8, l_9, l_10, l_11, l_12, l_13, l_14, l_15, l_16, l_17, l_18, l_19, l_20, l_21, l_22, l_23, l_24, l_30, l_31, l_32, l_40, l_41, l_48, l_57, l_59, l_64, l_90, l_97, l_99, l_100, l_119, l_122, l_186, l_200, l_255, l_600, l_999, l_1488, l_1000000, xp_s, i_F, i_T, i_leF, i_eqF, if_true, if_false, and_self]
    refine ⟨xput (xput (xput (xput (xput T 0 18 (nI s)) 0 19 (nI s)) 0 17 (nI 2)) 0 19 (nI e)) 0 20 (nI 0), ?_, ?_, ?_, ?_, (fun z => by rw [e2] at z; cases z), nt _ _ _⟩
    · simp (disch := omega) only [f_X9_next, xl_s, ob_s, xb_s, rd_n, wr_n, m_1, m_1b, nI_add, pk_mul, l_0, l_1, l_2, l_3, l_4, l_5, l_6, l_7, l_8, l_9, l_10, l_11, l_12, l_13, l_14, l_15, l_16, l_17, l_18, l_19, l_20, l_21, l_22, l_23, l_24, l_30, l_31, l_32, l_40, l_41, l_48, l_57, l_59, l_64, l_90, l_97, l_99, l_100, l_119, l_122, l_186, l_200, l_255, l_600, l_999, l_1488, l_1000000, h2, h0, xp_s, i_F, i_T, hL, i_eqF, xq_n, e1, ek1, run1, ex, if_true, if_false, and_self]
    · simp (disch := omega) only [xp_s, i_F, i_T, if_true, if_false, and_self]
    · rw [e2]; simp (disch := omega) only [xp_s, i_F, i_T, rk, if_true, if_false, and_self]
    · simp (disch := omega) only [xp_s, i_F, i_T, if_true, if_false, and_self]
  by_cases q2 : k = 2
  · subst q2
    have run2 : ∀ K, f_X9_next_L111 K FU (xput (xput (xput (xput T 0 18 (nI s)) 0 19 (nI s)) 0 17 (nI 3)) 0 19 (nI (s + 1))) = K (xput (xput (xput (xput T 0 18 (nI s)) 0 19 (nI s)) 0 17 (nI 3)) 0 19 (nI e)) := fun K => run K (Or.inr rfl)
    have ek2 : f_X9_sortOf (nI (tx s)) = some (nI 3) := ek
    have sub : nI e - nI s = nI (e - s) := pk_sub (by omega)
    by_cases q3 : e - s ≤ 3
    · have e2 : tkK tx L p = 2 := by rw [hK, if_neg (by omega)]
      obtain ⟨-, v9, d2⟩ := hv e2
      have num := km_L207 (T := xput (xput (xput (xput T 0 18 (nI s)) 0 19 (nI s)) 0 17 (nI 3)) 0 19 (nI e)) (L := L) (tx := tx) h6 (fun i hi => by rw [xp_n (by decide), xp_n (by decide), xp_n (by decide), xp_n (by decide)]; exact hx i hi) (e := e) (by omega) (by simp (disch := omega) only [xp_s, i_F, i_T, if_true, if_false, and_self]) (by simp (disch := omega) only [xp_s, i_F, i_T, if_true, if_false, and_self]) (K := fun v6 S7 => some S7) (e - s) FU s 0 (by omega) (L_lt (by omega)) d2 (by
        have : 10 ^ (e - s) ≤ 10 ^ 3 := Nat.pow_le_pow_right (by decide) q3
        omega)
      refine ⟨xput (xput (xput (xput (xput T 0 18 (nI s)) 0 19 (nI s)) 0 17 (nI 3)) 0 19 (nI e)) 0 20 (nI (tkV tx L p)), ?_, ?_, ?_, ?_, fun z => ?_, nt _ _ _⟩
      · simp (disch := omega) only [f_X9_next, xl_s, ob_s, xb_s, rd_n, wr_n, m_1, m_1b, nI_add, pk_mul, l_0, l_1, l_2, l_3, l_4, l_5, l_6, l_7, l_8, l_9, l_10, l_11, l_12, l_13, l_14, l_15, l_16, l_17, l_18, l_19, l_20, l_21, l_22, l_23, l_24, l_30, l_31, l_32, l_40, l_41, l_48, l_57, l_59, l_64, l_90, l_97, l_99, l_100, l_119, l_122, l_186, l_200, l_255, l_600, l_999, l_1488, l_1000000, h2, h0, xp_s, i_F, i_T, hL, i_eqF, i_eqT, xq_n, e1, ek2, run2, sub, i_leT, num, hV, if_true, if_false, and_self]
      · simp (disch := omega) only [xp_s, i_F, i_T, if_true, if_false, and_self]
      · rw [e2]; simp (disch := omega) only [xp_s, i_F, i_T, rk, if_true, if_false, and_self]
      · simp (disch := omega) only [xp_s, i_F, i_T, if_true, if_false, and_self]
      · simp (disch := omega) only [xp_s, i_F, i_T, if_true, if_false, and_self]
    · have e2 : tkK tx L p = 6 := by rw [hK, if_pos ⟨rfl, by omega⟩]
      have ex : ∀ (K : Int32 → XS → Option XS), f_X9_next_L207 K FU (nI s) (xput (xput (xput (xput (xput (xput T 0 18 (nI s)) 0 19 (nI s)) 0 17 (nI 3)) 0 19 (nI e)) 0 17 (nI 6)) 0 20 (nI 0)) = K (nI s) (xput (xput (xput (xput (xput (xput T 0 18 (nI s)) 0 19 (nI s)) 0 17 (nI 3)) 0 19 (nI e)) 0 17 (nI 6)) 0 20 (nI 0)) := fun K => by
        obtain ⟨fm, hfm⟩ := FU_1
        rw [hfm]
        simp (disch := omega) only [f_X9_next_L207, xl_s, ob_s, xb_s, rd_n, wr_n, m_1, m_1b, nI_add, pk_mul, l_0, l_1, l_2, l_3, l_4, l_5, l_6, l_7, l_8, l_9, l_10, l_11, l_12, l_13, l_14, l_15, l_16, l_17, l_18, l_19, l_20, l_21, l_22, l_23, l_24, l_30, l_31, l_32, l_40, l_41, l_48, l_57, l_59, l_64, l_90, l_97, l_99, l_100, l_119, l_122, l_186, l_200, l_255, l_600, l_999, l_1488, l_1000000, xp_s, i_F, i_T, i_leF, i_eqF, if_true, if_false, and_self]
      refine ⟨xput (xput (xput (xput (xput (xput T 0 18 (nI s)) 0 19 (nI s)) 0 17 (nI 3)) 0 19 (nI e)) 0 17 (nI 6)) 0 20 (nI 0), ?_, ?_, ?_, ?_, (fun z => by rw [e2] at z; cases z), fun a ha => by rw [xp_n ha, xp_n ha, xp_n ha, xp_n ha, xp_n ha, xp_n ha], fun y h1 h2 h3 h4 => by rw [xp_s, if_neg h4, xp_s, if_neg h1, xp_s, if_neg h3, xp_s, if_neg h1, xp_s, if_neg h3, xp_s, if_neg h2]⟩
      · simp (disch := omega) only [f_X9_next, xl_s, ob_s, xb_s, rd_n, wr_n, m_1, m_1b, nI_add, pk_mul, l_0, l_1, l_2, l_3, l_4, l_5, l_6, l_7, l_8, l_9, l_10, l_11, l_12, l_13, l_14, l_15, l_16, l_17, l_18, l_19, l_20, l_21, l_22, l_23, l_24, l_30, l_31, l_32, l_40, l_41, l_48, l_57, l_59, l_64, l_90, l_97, l_99, l_100, l_119, l_122, l_186, l_200, l_255, l_600, l_999, l_1488, l_1000000, h2, h0, xp_s, i_F, i_T, hL, i_eqF, i_eqT, xq_n, e1, ek2, run2, sub, i_leF, ex, if_true, if_false, and_self]
      · simp (disch := omega) only [xp_s, i_F, i_T, if_true, if_false, and_self]
      · rw [e2]; simp (disch := omega) only [xp_s, i_F, i_T, rk, if_true, if_false, and_self]
      · simp (disch := omega) only [xp_s, i_F, i_T, if_true, if_false, and_self]
  · have e2 : tkK tx L p = k := by rw [hK, if_neg (by omega)]
    have e3 : e = s + 1 := by rw [ht, if_neg (by omega)]
    have r1 : rk k ≠ 2 ∧ rk k ≠ 3 ∧ rk k ≤ 6 := by
      unfold rk
      repeat' split
      all_goals omega
    have ex : ∀ (K : Int32 → XS → Option XS), f_X9_next_L207 K FU (nI s) (xput (xput (xput (xput (xput T 0 18 (nI s)) 0 19 (nI s)) 0 17 (nI (rk k))) 0 19 (nI (s + 1))) 0 20 (nI 0)) = K (nI s) (xput (xput (xput (xput (xput T 0 18 (nI s)) 0 19 (nI s)) 0 17 (nI (rk k))) 0 19 (nI (s + 1))) 0 20 (nI 0)) := fun K => by
      obtain ⟨fm, hfm⟩ := FU_1
      rw [hfm]
      simp (disch := omega) only [f_X9_next_L207, xl_s, ob_s, xb_s, rd_n, wr_n, m_1, m_1b, nI_add, pk_mul, l_0, l_1, l_2, l_3, l_4, l_5, l_6, l_7, l_8, l_9, l_10, l_11, l_12, l_13, l_14, l_15, l_16, l_17, l_18, l_19, l_20, l_21, l_22, l_23, l_24, l_30, l_31, l_32, l_40, l_41, l_48, l_57, l_59, l_64, l_90, l_97, l_99, l_100, l_119, l_122, l_186, l_200, l_255, l_600, l_999, l_1488, l_1000000, xp_s, i_F, i_T, i_leF, i_eqF, if_true, if_false, and_self]
    have ex2 : ∀ (K : XS → Option XS), f_X9_next_L111 K FU (xput (xput (xput (xput T 0 18 (nI s)) 0 19 (nI s)) 0 17 (nI (rk k))) 0 19 (nI (s + 1))) = K (xput (xput (xput (xput T 0 18 (nI s)) 0 19 (nI s)) 0 17 (nI (rk k))) 0 19 (nI (s + 1))) := fun K => by
      obtain ⟨fm, hfm⟩ := FU_1
      rw [hfm]
      simp (disch := omega) only [f_X9_next_L111, xl_s, ob_s, xb_s, rd_n, wr_n, m_1, m_1b, nI_add, pk_mul, l_0, l_1, l_2, l_3, l_4, l_5, l_6, l_7, l_8, l_9, l_10, l_11, l_12, l_13, l_14, l_15, l_16, l_17, l_18, l_19, l_20, l_21, l_22, l_23, l_24, l_30, l_31, l_32, l_40, l_41, l_48, l_57, l_59, l_64, l_90, l_97, l_99, l_100, l_119, l_122, l_186, l_200, l_255, l_600, l_999, l_1488, l_1000000, xp_s, i_F, i_T, i_leF, i_eqF, if_true, if_false, and_self]
    refine ⟨xput (xput (xput (xput (xput T 0 18 (nI s)) 0 19 (nI s)) 0 17 (nI (rk k))) 0 19 (nI (s + 1))) 0 20 (nI 0), ?_, ?_, ?_, ?_, (fun z => by omega), nt _ _ _⟩
    · simp (disch := omega) only [f_X9_next, xl_s, ob_s, xb_s, rd_n, wr_n, m_1, m_1b, nI_add, pk_mul, l_0, l_1, l_2, l_3, l_4, l_5, l_6, l_7, l_8, l_9, l_10, l_11, l_12, l_13, l_14, l_15, l_16, l_17, l_18, l_19, l_20, l_21, l_22, l_23, l_24, l_30, l_31, l_32, l_40, l_41, l_48, l_57, l_59, l_64, l_90, l_97, l_99, l_100, l_119, l_122, l_186, l_200, l_255, l_600, l_999, l_1488, l_1000000, h2, h0, xp_s, i_F, i_T, hL, i_eqF, xq_n, e1, ek, ex2, ex, if_true, if_false, and_self]
    · rw [e3]; simp (disch := omega) only [xp_s, i_F, i_T, if_true, if_false, and_self]
    · rw [e2]; simp (disch := omega) only [xp_s, i_F, i_T, if_true, if_false, and_self]
    · simp (disch := omega) only [xp_s, i_F, i_T, if_true, if_false, and_self]
end
