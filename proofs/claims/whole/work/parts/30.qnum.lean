/-! level 2, pure: numbers, masks, loops -/
theorem fa_and (a b : Nat) : nI a &&& nI b = nI (a &&& b) := by
  apply Int32.toBitVec_inj.1
  show BitVec.ofNat 32 a &&& BitVec.ofNat 32 b = BitVec.ofNat 32 (a &&& b)
  apply BitVec.eq_of_getLsbD_eq
  intro i hi
  simp [hi]
theorem fa_or (a b : Nat) : nI a ||| nI b = nI (a ||| b) := by
  apply Int32.toBitVec_inj.1
  show BitVec.ofNat 32 a ||| BitVec.ofNat 32 b = BitVec.ofNat 32 (a ||| b)
  apply BitVec.eq_of_getLsbD_eq
  intro i hi
  simp [hi]
def fb_ct (p : Nat → Bool) : Nat → Nat
  | 0 => 0
  | n + 1 => fb_ct p n + (if p n then 1 else 0)
theorem fb_ct_succ (p : Nat → Bool) (n : Nat) : fb_ct p (n + 1) = fb_ct p n + (if p n then 1 else 0) := rfl
theorem fb_ct_le (p : Nat → Bool) : ∀ n, fb_ct p n ≤ n
  | 0 => Nat.le_refl _
  | n + 1 => by
    have h := fb_ct_le p n
    rw [fb_ct_succ]
    split <;> omega
theorem fb_ct_step (p : Nat → Bool) (m : Nat) : ∀ n, fb_ct p m ≤ fb_ct p (m + n)
  | 0 => Nat.le_refl _
  | n + 1 => by
    have h := fb_ct_step p m n
    show fb_ct p m ≤ fb_ct p (m + n + 1)
    rw [fb_ct_succ]
    omega
theorem fb_ct_mono (p : Nat → Bool) {m n : Nat} (h : m ≤ n) : fb_ct p m ≤ fb_ct p n := by
  have := fb_ct_step p m (n - m)
  rwa [Nat.add_sub_cancel' h] at this
theorem fb_ct_cong {p q : Nat → Bool} : ∀ {n : Nat}, (∀ k, k < n → p k = q k) → fb_ct p n = fb_ct q n
  | 0, _ => rfl
  | n + 1, h => by
    rw [fb_ct_succ, fb_ct_succ, fb_ct_cong (fun k hk => h k (by omega)), h n (by omega)]
/-- one place changed -/
theorem fb_ct_out (p : Nat → Bool) (b : Bool) {i n : Nat} (h : n ≤ i) : fb_ct (fun k => if k = i then b else p k) n = fb_ct p n :=
  fb_ct_cong fun k hk => if_neg (by omega)
theorem fb_ct_upd (p : Nat → Bool) (b : Bool) {i : Nat} : ∀ {n : Nat}, i < n → fb_ct (fun k => if k = i then b else p k) n + (if p i then 1 else 0) = fb_ct p n + (if b then 1 else 0)
  | 0, h => absurd h (Nat.not_lt_zero i)
  | n + 1, h => by
    rw [fb_ct_succ, fb_ct_succ]
    rcases Nat.lt_or_ge i n with q | q
    · have := fb_ct_upd p b q
      have e : (if n = i then b else p n) = p n := if_neg (by omega)
      rw [e]
      omega
    · have e : i = n := by omega
      subst e
      rw [fb_ct_out p b (Nat.le_refl _)]
      simp only [if_true]
      omega
theorem fb_ct_sub {p q : Nat → Bool} : ∀ {n : Nat}, (∀ k, k < n → p k = true → q k = true) → fb_ct p n ≤ fb_ct q n
  | 0, _ => Nat.le_refl _
  | n + 1, h => by
    have h1 := fb_ct_sub (n := n) (p := p) (q := q) (fun k hk => h k (by omega))
    have h2 := h n (by omega)
    rw [fb_ct_succ, fb_ct_succ]
    cases hp : p n <;> cases hq : q n <;> simp_all <;> omega
theorem fb_ct_or {p q : Nat → Bool} : ∀ {n : Nat}, (∀ k, k < n → ¬ (p k = true ∧ q k = true)) → fb_ct (fun k => p k || q k) n = fb_ct p n + fb_ct q n
  | 0, _ => rfl
  | n + 1, h => by
    have h1 := fb_ct_or (n := n) (p := p) (q := q) (fun k hk => h k (by omega))
    have h2 := h n (by omega)
    rw [fb_ct_succ, fb_ct_succ, fb_ct_succ, h1]
    cases hp : p n <;> cases hq : q n <;> simp_all <;> omega
theorem fb_ct_not (p : Nat → Bool) : ∀ n, fb_ct p n + fb_ct (fun k => !p k) n = n
  | 0 => rfl
  | n + 1 => by
    have h := fb_ct_not p n
    rw [fb_ct_succ, fb_ct_succ]
    cases p n <;> simp <;> omega
theorem fb_ct_split (p : Nat → Bool) (m : Nat) : ∀ n, fb_ct p (m + n) = fb_ct p m + fb_ct (fun k => p (m + k)) n
  | 0 => rfl
  | n + 1 => by
    have h := fb_ct_split p m n
    show fb_ct p (m + n + 1) = _
    rw [fb_ct_succ, fb_ct_succ, h, Nat.add_assoc]
theorem fb_ct_zero {p : Nat → Bool} : ∀ {n : Nat}, fb_ct p n = 0 ↔ ∀ k, k < n → p k = false
  | 0 => ⟨fun _ k hk => absurd hk (Nat.not_lt_zero k), fun _ => rfl⟩
  | n + 1 => by
    have h := fb_ct_zero (p := p) (n := n)
    rw [fb_ct_succ]
    constructor
    · intro e k hk
      have e1 : fb_ct p n = 0 := by omega
      rcases Nat.lt_or_ge k n with q | q
      · exact h.mp e1 k q
      · have ek : k = n := by omega
        subst ek
        cases hp : p k
        · rfl
        · simp [hp] at e
    · intro a
      rw [h.mpr (fun k hk => a k (by omega)), a n (by omega)]
      rfl
theorem fb_ct_pos {p : Nat → Bool} {n : Nat} : 0 < fb_ct p n ↔ ∃ k, k < n ∧ p k = true := by
  constructor
  · intro h
    refine Classical.byContradiction fun hx => ?_
    have := fb_ct_zero.mpr (fun k hk => by
      cases hp : p k
      · rfl
      · exact absurd ⟨k, hk, hp⟩ hx : ∀ k, k < n → p k = false)
    omega
  · rintro ⟨k, hk, hp⟩
    rcases Nat.eq_zero_or_pos (fb_ct p n) with e | e
    · have := fb_ct_zero.mp e k hk
      rw [this] at hp
      cases hp
    · exact e
theorem fb_ct_all {p : Nat → Bool} {n : Nat} : fb_ct p n = n ↔ ∀ k, k < n → p k = true := by
  have h := fb_ct_not p n
  constructor
  · intro e k hk
    have z : fb_ct (fun k => !p k) n = 0 := by omega
    have := fb_ct_zero.mp z k hk
    cases hp : p k
    · simp [hp] at this
    · rfl
  · intro a
    have z : fb_ct (fun k => !p k) n = 0 := fb_ct_zero.mpr (fun k hk => by simp [a k hk])
    omega
/-- the k-th place with the property -/
theorem fb_ct_kth {p : Nat → Bool} {k : Nat} : ∀ {n : Nat}, k < fb_ct p n → ∃ i, i < n ∧ p i = true ∧ fb_ct p i = k
  | 0, h => absurd h (Nat.not_lt_zero k)
  | n + 1, h => by
    rcases Nat.lt_or_ge k (fb_ct p n) with q | q
    · obtain ⟨i, h1, h2⟩ := fb_ct_kth q
      exact ⟨i, by omega, h2⟩
    · rw [fb_ct_succ] at h
      cases hp : p n
      · simp [hp] at h; omega
      · simp [hp] at h
        exact ⟨n, by omega, hp, by omega⟩
theorem fb_ct_kth_one {p : Nat → Bool} {i j : Nat} (hi : p i = true) (hj : p j = true) (e : fb_ct p i = fb_ct p j) : i = j := by
  have key : ∀ a b : Nat, a < b → p a = true → fb_ct p a < fb_ct p b := by
    intro a b hab ha
    have h := fb_ct_mono p (show a + 1 ≤ b from hab)
    rw [fb_ct_succ, ha] at h
    simp at h
    omega
  rcases Nat.lt_trichotomy i j with q | q | q
  · have := key i j q hi; omega
  · exact q
  · have := key j i q hj; omega
def fb_sm (f : Nat → Nat) : Nat → Nat
  | 0 => 0
  | n + 1 => fb_sm f n + f n
theorem fb_sm_succ (f : Nat → Nat) (n : Nat) : fb_sm f (n + 1) = fb_sm f n + f n := rfl
theorem fb_sm_cong {f g : Nat → Nat} : ∀ {n : Nat}, (∀ k, k < n → f k = g k) → fb_sm f n = fb_sm g n
  | 0, _ => rfl
  | n + 1, h => by rw [fb_sm_succ, fb_sm_succ, fb_sm_cong (fun k hk => h k (by omega)), h n (by omega)]
theorem fb_sm_out (f : Nat → Nat) (v : Nat) {i n : Nat} (h : n ≤ i) : fb_sm (fun k => if k = i then v else f k) n = fb_sm f n :=
  fb_sm_cong fun k hk => if_neg (by omega)
theorem fb_sm_upd (f : Nat → Nat) (v : Nat) {i : Nat} : ∀ {n : Nat}, i < n → fb_sm (fun k => if k = i then v else f k) n + f i = fb_sm f n + v
  | 0, h => absurd h (Nat.not_lt_zero i)
  | n + 1, h => by
    rw [fb_sm_succ, fb_sm_succ]
    rcases Nat.lt_or_ge i n with q | q
    · have := fb_sm_upd f v q
      have e : (if n = i then v else f n) = f n := if_neg (by omega)
      rw [e]
      omega
    · have e : i = n := by omega
      subst e
      rw [fb_sm_out f v (Nat.le_refl _)]
      simp only [if_true]
      omega
theorem fb_sm_add (f g : Nat → Nat) : ∀ n, fb_sm (fun k => f k + g k) n = fb_sm f n + fb_sm g n
  | 0 => rfl
  | n + 1 => by
    have h := fb_sm_add f g n
    rw [fb_sm_succ, fb_sm_succ, fb_sm_succ, h]
    omega
theorem fb_sm_le {f g : Nat → Nat} : ∀ {n : Nat}, (∀ k, k < n → f k ≤ g k) → fb_sm f n ≤ fb_sm g n
  | 0, _ => Nat.le_refl _
  | n + 1, h => by
    have h1 := fb_sm_le (n := n) (f := f) (g := g) (fun k hk => h k (by omega))
    have h2 := h n (by omega)
    rw [fb_sm_succ, fb_sm_succ]
    omega
theorem fb_sm_const (c : Nat) : ∀ n, fb_sm (fun _ => c) n = n * c
  | 0 => by rw [Nat.zero_mul]; rfl
  | n + 1 => by rw [fb_sm_succ, fb_sm_const c n, Nat.succ_mul]
theorem fb_sm_bound {f : Nat → Nat} {c n : Nat} (h : ∀ k, k < n → f k ≤ c) : fb_sm f n ≤ n * c := by
  rw [← fb_sm_const c n]
  exact fb_sm_le h
theorem fb_sm_mono (f : Nat → Nat) (m : Nat) : ∀ n, fb_sm f m ≤ fb_sm f (m + n)
  | 0 => Nat.le_refl _
  | n + 1 => by
    have h := fb_sm_mono f m n
    show fb_sm f m ≤ fb_sm f (m + n + 1)
    rw [fb_sm_succ]
    omega
theorem fb_sm_part (f : Nat → Nat) {i n : Nat} (h : i < n) : fb_sm f i + f i ≤ fb_sm f n := by
  have := fb_sm_mono f (i + 1) (n - (i + 1))
  rw [fb_sm_succ, show i + 1 + (n - (i + 1)) = n by omega] at this
  exact this
theorem fb_sm_split (f : Nat → Nat) (m : Nat) : ∀ n, fb_sm f (m + n) = fb_sm f m + fb_sm (fun k => f (m + k)) n
  | 0 => rfl
  | n + 1 => by
    have h := fb_sm_split f m n
    show fb_sm f (m + n + 1) = _
    rw [fb_sm_succ, fb_sm_succ, h, Nat.add_assoc]
theorem fb_sm_zero {f : Nat → Nat} {n : Nat} (h : fb_sm f n = 0) : ∀ k, k < n → f k = 0 := fun k hk => by
  have := fb_sm_part f hk
  omega
/-- the same over whole numbers -/
def fb_si (f : Nat → Int) : Nat → Int
  | 0 => 0
  | n + 1 => fb_si f n + f n
theorem fb_si_succ (f : Nat → Int) (n : Nat) : fb_si f (n + 1) = fb_si f n + f n := rfl
theorem fb_si_cong {f g : Nat → Int} : ∀ {n : Nat}, (∀ k, k < n → f k = g k) → fb_si f n = fb_si g n
  | 0, _ => rfl
  | n + 1, h => by rw [fb_si_succ, fb_si_succ, fb_si_cong (fun k hk => h k (by omega)), h n (by omega)]
theorem fb_si_out (f : Nat → Int) (v : Int) {i n : Nat} (h : n ≤ i) : fb_si (fun k => if k = i then v else f k) n = fb_si f n :=
  fb_si_cong fun k hk => if_neg (by omega)
theorem fb_si_upd (f : Nat → Int) (v : Int) {i : Nat} : ∀ {n : Nat}, i < n → fb_si (fun k => if k = i then v else f k) n = fb_si f n - f i + v
  | 0, h => absurd h (Nat.not_lt_zero i)
  | n + 1, h => by
    rw [fb_si_succ, fb_si_succ]
    rcases Nat.lt_or_ge i n with q | q
    · have := fb_si_upd f v q
      have e : (if n = i then v else f n) = f n := if_neg (by omega)
      rw [e]
      omega
    · have e : i = n := by omega
      subst e
      rw [fb_si_out f v (Nat.le_refl _)]
      simp only [if_true]
      omega
theorem fb_si_add (f g : Nat → Int) : ∀ n, fb_si (fun k => f k + g k) n = fb_si f n + fb_si g n
  | 0 => rfl
  | n + 1 => by
    have h := fb_si_add f g n
    rw [fb_si_succ, fb_si_succ, fb_si_succ, h]
    omega
theorem fb_si_sub (f g : Nat → Int) : ∀ n, fb_si (fun k => f k - g k) n = fb_si f n - fb_si g n
  | 0 => rfl
  | n + 1 => by
    have h := fb_si_sub f g n
    rw [fb_si_succ, fb_si_succ, fb_si_succ, h]
    omega
theorem fb_si_mul (c : Int) (f : Nat → Int) : ∀ n, fb_si (fun k => c * f k) n = c * fb_si f n
  | 0 => (Int.mul_zero c).symm
  | n + 1 => by
    have h := fb_si_mul c f n
    rw [fb_si_succ, fb_si_succ, h, Int.mul_add]
theorem fb_si_split (f : Nat → Int) (m : Nat) : ∀ n, fb_si f (m + n) = fb_si f m + fb_si (fun k => f (m + k)) n
  | 0 => (Int.add_zero _).symm
  | n + 1 => by
    have h := fb_si_split f m n
    show fb_si f (m + n + 1) = _
    rw [fb_si_succ, fb_si_succ, h, Int.add_assoc]
theorem fb_si_nat (f : Nat → Nat) : ∀ n, fb_si (fun k => (f k : Int)) n = (fb_sm f n : Int)
  | 0 => rfl
  | n + 1 => by
    have h := fb_si_nat f n
    rw [fb_si_succ, fb_sm_succ, h]
    omega
theorem fb_si_bound {f : Nat → Int} {c : Int} (hc : 0 ≤ c) : ∀ {n : Nat}, (∀ k, k < n → -c ≤ f k ∧ f k ≤ c) → -(n * c) ≤ fb_si f n ∧ fb_si f n ≤ n * c
  | 0, _ => by simp [fb_si]
  | n + 1, h => by
    have h1 := fb_si_bound (n := n) (f := f) hc (fun k hk => h k (by omega))
    have h2 := h n (by omega)
    have e : ((n + 1 : Nat) : Int) * c = n * c + c := by rw [Int.natCast_add, Int.add_mul]; simp
    rw [fb_si_succ, e]
    omega
theorem l_0 : (0 : Int32) = nI 0 := Eq.trans rfl rfl
theorem l_1 : (1 : Int32) = nI 1 := Eq.trans rfl rfl
theorem l_2 : (2 : Int32) = nI 2 := Eq.trans rfl rfl
theorem l_3 : (3 : Int32) = nI 3 := Eq.trans rfl rfl
theorem l_4 : (4 : Int32) = nI 4 := Eq.trans rfl rfl
theorem l_5 : (5 : Int32) = nI 5 := Eq.trans rfl rfl
theorem l_6 : (6 : Int32) = nI 6 := Eq.trans rfl rfl
theorem l_7 : (7 : Int32) = nI 7 := Eq.trans rfl rfl
theorem l_8 : (8 : Int32) = nI 8 := Eq.trans rfl rfl
theorem l_9 : (9 : Int32) = nI 9 := Eq.trans rfl rfl
theorem l_10 : (10 : Int32) = nI 10 := Eq.trans rfl rfl
theorem l_11 : (11 : Int32) = nI 11 := Eq.trans rfl rfl
theorem l_12 : (12 : Int32) = nI 12 := Eq.trans rfl rfl
theorem l_13 : (13 : Int32) = nI 13 := Eq.trans rfl rfl
theorem l_14 : (14 : Int32) = nI 14 := Eq.trans rfl rfl
theorem l_15 : (15 : Int32) = nI 15 := Eq.trans rfl rfl
theorem l_16 : (16 : Int32) = nI 16 := Eq.trans rfl rfl
theorem l_17 : (17 : Int32) = nI 17 := Eq.trans rfl rfl
theorem l_18 : (18 : Int32) = nI 18 := Eq.trans rfl rfl
theorem l_19 : (19 : Int32) = nI 19 := Eq.trans rfl rfl
theorem l_20 : (20 : Int32) = nI 20 := Eq.trans rfl rfl
theorem l_21 : (21 : Int32) = nI 21 := Eq.trans rfl rfl
theorem l_22 : (22 : Int32) = nI 22 := Eq.trans rfl rfl
theorem l_23 : (23 : Int32) = nI 23 := Eq.trans rfl rfl
theorem l_24 : (24 : Int32) = nI 24 := Eq.trans rfl rfl
theorem l_30 : (30 : Int32) = nI 30 := Eq.trans rfl rfl
theorem l_31 : (31 : Int32) = nI 31 := Eq.trans rfl rfl
theorem l_32 : (32 : Int32) = nI 32 := Eq.trans rfl rfl
theorem l_40 : (40 : Int32) = nI 40 := Eq.trans rfl rfl
theorem l_41 : (41 : Int32) = nI 41 := Eq.trans rfl rfl
theorem l_48 : (48 : Int32) = nI 48 := Eq.trans rfl rfl
theorem l_57 : (57 : Int32) = nI 57 := Eq.trans rfl rfl
theorem l_59 : (59 : Int32) = nI 59 := Eq.trans rfl rfl
theorem l_64 : (64 : Int32) = nI 64 := Eq.trans rfl rfl
theorem l_90 : (90 : Int32) = nI 90 := Eq.trans rfl rfl
theorem l_97 : (97 : Int32) = nI 97 := Eq.trans rfl rfl
theorem l_99 : (99 : Int32) = nI 99 := Eq.trans rfl rfl
theorem l_100 : (100 : Int32) = nI 100 := Eq.trans rfl rfl
theorem l_119 : (119 : Int32) = nI 119 := Eq.trans rfl rfl
theorem l_122 : (122 : Int32) = nI 122 := Eq.trans rfl rfl
theorem l_186 : (186 : Int32) = nI 186 := Eq.trans rfl rfl
theorem l_200 : (200 : Int32) = nI 200 := Eq.trans rfl rfl
theorem l_255 : (255 : Int32) = nI 255 := Eq.trans rfl rfl
theorem l_600 : (600 : Int32) = nI 600 := Eq.trans rfl rfl
theorem l_999 : (999 : Int32) = nI 999 := Eq.trans rfl rfl
theorem l_1488 : (1488 : Int32) = nI 1488 := Eq.trans rfl rfl
theorem l_1000000 : (1000000 : Int32) = nI 1000000 := Eq.trans rfl rfl
def oI : Nat → Int32
  | 0 => -1
  | n + 1 => nI n
theorem m_1 : (-1 : Int32) = oI 0 := Eq.trans rfl rfl
theorem m_1b : (-(nI 1) : Int32) = oI 0 := Eq.trans rfl rfl
theorem nI_nm1 {n : Nat} (h : n < 2 ^ 31) : ¬ nI n = -1 := fun e => by
  have h1 := congrArg Int32.toInt e
  rw [nI_toInt h] at h1
  have h2 : (-1 : Int32).toInt = -1 := by decide
  omega
theorem oI_eq {a b : Nat} (ha : a < 2 ^ 31) (hb : b < 2 ^ 31) : oI a = oI b ↔ a = b := by
  cases a with
  | zero => cases b with
    | zero => exact ⟨fun _ => rfl, fun _ => rfl⟩
    | succ b => exact ⟨fun e => absurd e.symm (nI_nm1 (by omega)), fun e => by omega⟩
  | succ a => cases b with
    | zero => exact ⟨fun e => absurd e (nI_nm1 (by omega)), fun e => by omega⟩
    | succ b => exact ⟨fun e => by have := (nI_eq (by omega) (by omega)).mp e; omega, fun e => by rw [e]⟩
theorem oI_nI {a b : Nat} (ha : a < 2 ^ 31) (hb : b < 2 ^ 30) : oI a = nI b ↔ a = b + 1 := oI_eq (b := b + 1) ha (by omega)
theorem nI_oI {a b : Nat} (ha : a < 2 ^ 31) (hb : b < 2 ^ 30) : nI b = oI a ↔ a = b + 1 := ⟨fun e => (oI_nI ha hb).mp e.symm, fun e => ((oI_nI ha hb).mpr e).symm⟩
theorem oI_m1 {a : Nat} (ha : a < 2 ^ 31) : oI a = oI 0 ↔ a = 0 := oI_eq ha (by decide)
theorem xb_s {α β γ : Type} (a : α) (b : β) (k : α → β → Option γ) : xbind2 (some (a, b)) k = k a b := Eq.trans rfl rfl
theorem ob_s {α β : Type} (a : α) (k : α → Option β) : (some a).bind k = k a := Eq.trans rfl rfl
theorem xl_s {α β : Type} (a : α) (k : α → β) : xlet a k = k a := Eq.trans rfl rfl
theorem rd_n {i n : Nat} {f : Nat → Int32} (h : i < n) (hn : n < 2 ^ 31) : xrd (nI i) n f = some (f i) := by
  unfold xrd
  rw [if_neg (nI_in h hn), nI_clamp (by omega)]
theorem wr_n {i n : Nat} (h : i < n) (hn : n < 2 ^ 31) : xwr (nI i) n = some i := by
  unfold xwr
  rw [if_neg (nI_in h hn), nI_clamp (by omega)]
/-! ifs whose condition is decided by bounds -/
section
variable {α : Type} {a b : Nat} {x y : α}
theorem i_leT {i : Decidable (nI a ≤ nI b)} (h : a ≤ b) (hb : b < 2 ^ 31) : (@ite _ (nI a ≤ nI b) i x y) = x := if_pos (nI_le h hb)
theorem i_leF {i : Decidable (nI a ≤ nI b)} (h : b < a) (hb : a < 2 ^ 31) : (@ite _ (nI a ≤ nI b) i x y) = y := if_neg (nI_ge h hb)
theorem i_ltT {i : Decidable (nI a < nI b)} (h : a < b) (hb : b < 2 ^ 31) : (@ite _ (nI a < nI b) i x y) = x := if_pos (nI_lt h hb)
theorem i_ltF {i : Decidable (nI a < nI b)} (h : b ≤ a) (hb : a < 2 ^ 31) : (@ite _ (nI a < nI b) i x y) = y := if_neg (nI_nlt h hb)
theorem i_eqT {i : Decidable (nI a = nI b)} (h : a = b) : (@ite _ (nI a = nI b) i x y) = x := if_pos (by rw [h])
theorem i_eqF {i : Decidable (nI a = nI b)} (h : a ≠ b) (ha : a < 2 ^ 31) (hb : b < 2 ^ 31) : (@ite _ (nI a = nI b) i x y) = y := if_neg (fun e => h ((nI_eq ha hb).mp e))
theorem i_oT {i : Decidable (oI a = oI b)} (h : a = b) : (@ite _ (oI a = oI b) i x y) = x := if_pos (by rw [h])
theorem i_oF {i : Decidable (oI a = oI b)} (h : a ≠ b) (ha : a < 2 ^ 31) (hb : b < 2 ^ 31) : (@ite _ (oI a = oI b) i x y) = y := if_neg (fun e => h ((oI_eq ha hb).mp e))
theorem i_oiT {i : Decidable (oI a = nI b)} (h : a = b + 1) (hb : b < 2 ^ 30) : (@ite _ (oI a = nI b) i x y) = x := if_pos ((oI_nI (by omega) hb).mpr h)
theorem i_oiF {i : Decidable (oI a = nI b)} (h : a ≠ b + 1) (ha : a < 2 ^ 31) (hb : b < 2 ^ 30) : (@ite _ (oI a = nI b) i x y) = y := if_neg (fun e => h ((oI_nI ha hb).mp e))
end
theorem i_T {α : Type} {P : Prop} {i : Decidable P} {x y : α} (h : P) : (@ite _ P i x y) = x := if_pos h
theorem i_F {α : Type} {P : Prop} {i : Decidable P} {x y : α} (h : ¬ P) : (@ite _ P i x y) = y := if_neg h
theorem nI_z (a : Nat) : nI a - nI 0 = nI a := by rw [show nI 0 = 0 from rfl, Int32.sub_zero]
/-- a difference, 0 at least -/
theorem mx_n {a b : Nat} (ha : a < 2 ^ 30) (hb : b < 2 ^ 30) : (if nI 0 < nI a - nI b then nI a - nI b else nI 0) = nI (a - b) := by
  rcases Nat.lt_or_ge b a with h | h
  · rw [pk_sub (by omega), if_pos (nI_lt (by omega) (by omega))]
  · rcases Nat.lt_or_ge a b with h2 | h2
    · have h3 := pk_sneg (a := a) (b := b) hb h2
      rw [if_neg (fun q => ?_), show a - b = 0 by omega]
      have h4 : (nI a - nI b).toInt = (a : Int) - b := pk_sub_toInt ha hb
      have h5 := Int32.lt_iff_toInt_lt.mp q
      rw [h4, nI_toInt (by decide)] at h5
      omega
    · rw [show a = b by omega, pk_sub (Nat.le_refl b), Nat.sub_self]
      exact ite_self _
/-! masks -/
theorem s_l : ∀ n, n < 32 → ((nI n &&& 31).toBitVec.smod 32).toNat = n := by decide +kernel
theorem sh_n {k : Nat} (h : k < 31) : nI 1 <<< (nI k &&& nI 31) = nI (2 ^ k) := (by decide +kernel : ∀ k, k < 31 → nI 1 <<< (nI k &&& nI 31) = nI (2 ^ k)) k h
theorem bt_n {m k : Nat} (hm : m < 2 ^ 31) (hk : k < 31) : nI m >>> (nI k &&& nI 31) &&& nI 1 = nI (if m.testBit k then 1 else 0) := by
  rw [pk_shrN hm (nI k &&& nI 31) k (s_l k (by omega)), show nI 1 = (1 : Int32) from rfl, pk_andN (k := 1) (by have := Nat.div_le_self m (2 ^ k); omega) (by decide), Nat.testBit_eq_decide_div_mod_eq]
  by_cases h : m / 2 ^ k % 2 = 1
  · rw [decide_eq_true h, if_pos rfl]
    show nI (m / 2 ^ k % 2) = nI 1
    rw [h]
  · rw [decide_eq_false h, if_neg (by decide)]
    show nI (m / 2 ^ k % 2) = nI 0
    rw [show m / 2 ^ k % 2 = 0 by omega]
theorem b_t {b : Bool} (h : ¬ b = false) : b = true := by
  cases b
  · exact absurd rfl h
  · rfl
theorem b_f {b : Bool} (h : ¬ b = true) : b = false := by
  cases b
  · rfl
  · exact absurd rfl h
theorem bt_0 {b : Bool} : nI (if b = true then 1 else 0) = nI 0 ↔ b = false := by cases b <;> decide
theorem bt_1 {b : Bool} : nI (if b = true then 1 else 0) = nI 1 ↔ b = true := by cases b <;> decide
theorem an_z {a b : Nat} (ha : a < 2 ^ 31) : nI a &&& nI b = nI 0 ↔ a &&& b = 0 := by
  rw [fa_and]
  exact nI_eq (Nat.lt_of_le_of_lt Nat.and_le_left ha) (by decide)
theorem p2_lt {k n : Nat} (h : k < n) : 2 ^ k < 2 ^ n := Nat.pow_lt_pow_right (by decide) h
/-- the number with the bits p below n -/
def qm (p : Nat → Bool) : Nat → Nat
  | 0 => 0
  | n + 1 => qm p n ||| (if p n then 2 ^ n else 0)
theorem qm_lt (p : Nat → Bool) : ∀ n, qm p n < 2 ^ n
  | 0 => Nat.one_pos
  | n + 1 => by
    have h := qm_lt p n
    rw [qm]
    refine Nat.or_lt_two_pow (Nat.lt_trans h (p2_lt (by omega))) ?_
    split
    · exact p2_lt (by omega)
    · exact Nat.two_pow_pos _
theorem qm_bit (p : Nat → Bool) (k : Nat) : ∀ n, (qm p n).testBit k = (decide (k < n) && p k)
  | 0 => by rw [qm, Nat.zero_testBit, decide_eq_false (by omega)]; rfl
  | n + 1 => by
    rw [qm, Nat.testBit_or, qm_bit p k n]
    by_cases e : k = n
    · subst e
      rw [decide_eq_false (Nat.lt_irrefl k), decide_eq_true (Nat.lt_succ_self k), Bool.false_and, Bool.false_or, Bool.true_and]
      cases p k
      · simp
      · simp [Nat.testBit_two_pow_self]
    · have h1 : (if p n then 2 ^ n else 0 : Nat).testBit k = false := by
        cases p n
        · simp
        · simp only [if_true]; exact Nat.testBit_two_pow_of_ne (Ne.symm e)
      rw [h1, Bool.or_false]
      congr 1
      by_cases h : k < n
      · rw [decide_eq_true h, decide_eq_true (by omega)]
      · rw [decide_eq_false h, decide_eq_false (by omega)]
theorem qm_eq {x n : Nat} {p : Nat → Bool} (hx : x < 2 ^ n) (h : ∀ k, k < n → x.testBit k = p k) : x = qm p n := by
  refine Nat.eq_of_testBit_eq (fun k => ?_)
  rw [qm_bit]
  by_cases hk : k < n
  · rw [h k hk, decide_eq_true hk, Bool.true_and]
  · rw [decide_eq_false hk, Bool.false_and, Nat.testBit_lt_two_pow (Nat.lt_of_lt_of_le hx (Nat.pow_le_pow_right (by decide) (by omega)))]
theorem qm_cong {p q : Nat → Bool} {n : Nat} (h : ∀ k, k < n → p k = q k) : qm p n = qm q n :=
  qm_eq (qm_lt p n) (fun k hk => by rw [qm_bit, decide_eq_true hk, Bool.true_and, h k hk])
theorem bit_lt {x n k : Nat} (hx : x < 2 ^ n) (h : x.testBit k = true) : k < n := by
  rcases Nat.lt_or_ge k n with g | g
  · exact g
  · rw [Nat.testBit_lt_two_pow (Nat.lt_of_lt_of_le hx (Nat.pow_le_pow_right (by decide) g))] at h
    cases h
theorem lt_p2 {x m n : Nat} (h : x < 2 ^ m) (hm : m ≤ n) : x < 2 ^ n := Nat.lt_of_lt_of_le h (Nat.pow_le_pow_right (by decide) hm)
/-- how many bits -/
def qc (x : Nat) : Nat := fb_ct (fun k => x.testBit k) 10
theorem qc_le (x : Nat) : qc x ≤ 10 := fb_ct_le _ 10
theorem bc_n : ∀ x, x < 1024 → f_J6_bitCount_0f7a4 (nI x) = some (nI (qc x)) := by decide +kernel
theorem bi_n : ∀ x, x < 1024 → f_X9_bits (nI x) = some (nI (qc x)) := by decide +kernel
theorem ct_far {p : Nat → Bool} {n : Nat} : ∀ {d : Nat}, (∀ k, n ≤ k → p k = false) → fb_ct p (n + d) = fb_ct p n
  | 0, _ => rfl
  | d + 1, h => by
    show fb_ct p (n + d + 1) = _
    rw [fb_ct_succ, ct_far h, h (n + d) (by omega)]
    rfl
theorem qc_m {p : Nat → Bool} {n : Nat} (h : n ≤ 10) : qc (qm p n) = fb_ct p n := by
  have e : qc (qm p n) = fb_ct (fun k => (qm p n).testBit k) (n + (10 - n)) := by rw [Nat.add_sub_cancel' h]; rfl
  rw [e, ct_far (fun k hk => by rw [qm_bit, decide_eq_false (by omega)]; rfl)]
  exact fb_ct_cong (fun k hk => by rw [qm_bit, decide_eq_true hk]; rfl)
/-- the first with p below n, counted from 1; 0: none -/
def qf (p : Nat → Bool) : Nat → Nat
  | 0 => 0
  | n + 1 => if qf p n = 0 then (if p n then n + 1 else 0) else qf p n
theorem qf_0 {p : Nat → Bool} : ∀ {n : Nat}, qf p n = 0 → ∀ k, k < n → p k = false
  | 0, _, k, hk => absurd hk (Nat.not_lt_zero k)
  | n + 1, h, k, hk => by
    rw [qf] at h
    by_cases h0 : qf p n = 0
    · rw [if_pos h0] at h
      cases hp : p n
      · rcases Nat.lt_or_ge k n with g | g
        · exact qf_0 h0 k g
        · rw [show k = n by omega, hp]
      · rw [hp] at h; simp at h
    · rw [if_neg h0] at h; exact absurd h h0
theorem qf_z {p : Nat → Bool} : ∀ {n : Nat}, (∀ k, k < n → p k = false) → qf p n = 0
  | 0, _ => rfl
  | n + 1, h => by rw [qf, if_pos (qf_z (fun k hk => h k (by omega))), h n (by omega)]; rfl
theorem qf_s {p : Nat → Bool} {j : Nat} : ∀ {n : Nat}, qf p n = j + 1 → j < n ∧ p j = true ∧ ∀ k, k < j → p k = false
  | 0, h => by cases h
  | n + 1, h => by
    rw [qf] at h
    by_cases h0 : qf p n = 0
    · rw [if_pos h0] at h
      cases hp : p n
      · rw [hp] at h; simp at h
      · rw [hp] at h
        simp at h
        subst h
        exact ⟨by omega, hp, qf_0 h0⟩
    · rw [if_neg h0] at h
      obtain ⟨h1, h2⟩ := qf_s h
      exact ⟨by omega, h2⟩
theorem qf_i {p : Nat → Bool} {j : Nat} (hp : p j = true) (h0 : ∀ k, k < j → p k = false) : ∀ {n : Nat}, j < n → qf p n = j + 1
  | 0, h => absurd h (Nat.not_lt_zero j)
  | n + 1, h => by
    rw [qf]
    rcases Nat.lt_or_ge j n with g | g
    · rw [qf_i hp h0 g, if_neg (by omega)]
    · have e : j = n := by omega
      subst e
      rw [if_pos (qf_z h0), hp]
      rfl
theorem qf_le {p : Nat → Bool} {n : Nat} : qf p n ≤ n := by
  cases h : qf p n with
  | zero => omega
  | succ j => have := (qf_s h).1; omega
theorem qf_cong {p q : Nat → Bool} : ∀ {n : Nat}, (∀ k, k < n → p k = q k) → qf p n = qf q n
  | 0, _ => rfl
  | n + 1, h => by rw [qf, qf, qf_cong (fun k hk => h k (by omega)), h n (by omega)]
/-! loops -/
theorem FU_lt {k : Nat} (h : k < 2000000) : k < FU := h
theorem q_loop {α : Type} (W : Nat → Nat → α → Prop) (I : Nat → α → Prop) (N : Nat) (hx : ∀ n a, I N a → W (n + 1) N a) (hs : ∀ n j a, j < N → I j a → (∀ a', I (j + 1) a' → W n (j + 1) a') → W (n + 1) j a) : ∀ (d n j : Nat) (a : α), j + d = N → d < n → I j a → W n j a := by
  intro d
  induction d with
  | zero =>
    intro n j a hj hn h
    obtain ⟨n, rfl⟩ : ∃ k, n = k + 1 := ⟨n - 1, by omega⟩
    obtain rfl : j = N := by omega
    exact hx n a h
  | succ d ih =>
    intro n j a hj hn h
    obtain ⟨n, rfl⟩ : ∃ k, n = k + 1 := ⟨n - 1, by omega⟩
    exact hs n j a (by omega) h (fun a' h' => ih n (j + 1) a' (by omega) (by omega) h')
theorem q_lp {α : Type} (W : Nat → Nat → α → Prop) (I : Nat → α → Prop) (N : Nat) (a : α) (hN : N < 2000000) (h0 : I 0 a) (hx : ∀ n a, I N a → W (n + 1) N a) (hs : ∀ n j a, j < N → I j a → (∀ a', I (j + 1) a' → W n (j + 1) a') → W (n + 1) j a) : W FU 0 a :=
  q_loop W I N hx hs N FU 0 a (by omega) (FU_lt hN) h0
