/-! level 2: the law's loop -/
section
variable {L : Nat} {sx : Nat → Int32} {S : XS} {K : XS → Option Unit}
theorem law_in2 {j : Nat} (hL : L ≤ 3072) (hj : j ≤ 512) (h : ¬ Int32.ofNat L - 6 < nI (6 * j)) : 6 * j + 6 ≤ L := by
  by_cases h6 : 6 ≤ L
  · have e : Int32.ofNat L - 6 = nI (L - 6) := by
      show nI L - nI 6 = nI (L - 6)
      exact pk_sub h6
    rw [e] at h
    by_cases q : 6 * j + 6 ≤ L
    · exact q
    · exact absurd (nI_lt (by omega) (by omega)) h
  · exfalso
    apply h
    have h0 : ¬ nI (6 * j) < 0 := fun q => by
      have := Int32.lt_iff_toInt_lt.mp q
      rw [nI_toInt (by omega), show (0 : Int32).toInt = 0 from by decide] at this
      omega
    refine Int32.lt_of_lt_of_le (b := 0) ?_ (Int32.not_lt.mp h0)
    rcases (show L = 0 ∨ L = 1 ∨ L = 2 ∨ L = 3 ∨ L = 4 ∨ L = 5 by omega) with rfl | rfl | rfl | rfl | rfl | rfl <;> decide
theorem sw_ok {m4 : Int32} (g : GS S) {x1 x2 x3 x4 x5 x : Int32} (r1 : xrd (m4 + 1) L sx = some x1) (r2 : xrd (m4 + 2) L sx = some x2) (r3 : xrd (m4 + 3) L sx = some x3) (r4 : xrd (m4 + 4) L sx = some x4) (r5 : xrd (m4 + 5) L sx = some x5) (hK : ∀ S', GS S' → K S' = some ()) : f_Lsw L sx K m4 S x = some () := by
  unfold f_Lsw
  by_cases h0 : x = 0
  · rw [if_pos h0]; exact lc_0 g r1 r2 r3 r4 r5 hK
  rw [if_neg h0]
  by_cases h1 : x = 1
  · rw [if_pos h1]; exact lc_1 g r1 hK
  rw [if_neg h1]
  by_cases h2 : x = 2
  · rw [if_pos h2]; exact lc_2 g  hK
  rw [if_neg h2]
  by_cases h3 : x = 3
  · rw [if_pos h3]; exact lc_3 g r1 hK
  rw [if_neg h3]
  by_cases h4 : x = 4
  · rw [if_pos h4]; exact lc_4 g r1 r2 r3 hK
  rw [if_neg h4]
  by_cases h5 : x = 5
  · rw [if_pos h5]; exact lc_5 g r1 r2 r3 hK
  rw [if_neg h5]
  by_cases h6 : x = 6
  · rw [if_pos h6]; exact lc_6 g r1 r2 hK
  rw [if_neg h6]
  by_cases h7 : x = 7
  · rw [if_pos h7]; exact lc_7 g r1 hK
  rw [if_neg h7]
  by_cases h8 : x = 8
  · rw [if_pos h8]; exact lc_8 g r1 hK
  rw [if_neg h8]
  by_cases h9 : x = 9
  · rw [if_pos h9]; exact lc_9 g r1 r2 hK
  rw [if_neg h9]
  by_cases h10 : x = 10
  · rw [if_pos h10]; exact lc_10 g r1 r2 r3 r4 hK
  rw [if_neg h10]
  by_cases h11 : x = 11
  · rw [if_pos h11]; exact lc_11 g r1 r2 hK
  rw [if_neg h11]
  by_cases h12 : x = 12
  · rw [if_pos h12]; exact lc_12 g r1 r2 hK
  rw [if_neg h12]
  by_cases h13 : x = 13
  · rw [if_pos h13]; exact lc_13 g r1 hK
  rw [if_neg h13]
  by_cases h14 : x = 14
  · rw [if_pos h14]; exact lc_14 g  hK
  rw [if_neg h14]
  by_cases h15 : x = 15
  · rw [if_pos h15]; exact lc_15 g  hK
  rw [if_neg h15]
  by_cases h16 : x = 16
  · rw [if_pos h16]; exact lc_16 g  hK
  rw [if_neg h16]
  by_cases h17 : x = 17
  · rw [if_pos h17]; exact lc_17 g  hK
  rw [if_neg h17]
  by_cases h18 : x = 18
  · rw [if_pos h18]; exact lc_18 g  hK
  rw [if_neg h18]
  by_cases h19 : x = 19
  · rw [if_pos h19]; exact lc_19 g  hK
  rw [if_neg h19]
  by_cases h20 : x = 20
  · rw [if_pos h20]; exact lc_20 g  hK
  rw [if_neg h20]
  by_cases h21 : x = 21
  · rw [if_pos h21]; exact lc_21 g  hK
  rw [if_neg h21]
  by_cases h22 : x = 22
  · rw [if_pos h22]; exact lc_22 g  hK
  rw [if_neg h22]
  by_cases h23 : x = 23
  · rw [if_pos h23]; exact lc_23 g  hK
  rw [if_neg h23]
  by_cases h24 : x = 24
  · rw [if_pos h24]; exact lc_24 g  hK
  rw [if_neg h24]
  by_cases h25 : x = 25
  · rw [if_pos h25]; exact lc_25 g r1 hK
  rw [if_neg h25]
  by_cases h26 : x = 26
  · rw [if_pos h26]; exact lc_26 g r1 hK
  rw [if_neg h26]
  by_cases h27 : x = 27
  · rw [if_pos h27]; exact lc_27 g r1 hK
  rw [if_neg h27]
  by_cases h28 : x = 28
  · rw [if_pos h28]; exact lc_28 g r1 hK
  rw [if_neg h28]
  by_cases h29 : x = 29
  · rw [if_pos h29]; exact lc_29 g r1 hK
  rw [if_neg h29]
  by_cases h30 : x = 30
  · rw [if_pos h30]; exact lc_30 g r1 r2 hK
  rw [if_neg h30]
  by_cases h31 : x = 31
  · rw [if_pos h31]; exact lc_31 g  hK
  rw [if_neg h31]
  by_cases h32 : x = 32
  · rw [if_pos h32]; exact lc_32 g r1 hK
  rw [if_neg h32]
  by_cases h33 : x = 33
  · rw [if_pos h33]; exact lc_33 g r1 hK
  rw [if_neg h33]
  by_cases h34 : x = 34
  · rw [if_pos h34]; exact lc_34 g r1 hK
  rw [if_neg h34]
  by_cases h35 : x = 35
  · rw [if_pos h35]; exact lc_35 g r1 hK
  rw [if_neg h35]
  by_cases h36 : x = 36
  · rw [if_pos h36]; exact lc_36 g r1 hK
  rw [if_neg h36]
  by_cases h37 : x = 37
  · rw [if_pos h37]; exact lc_37 g r1 r2 hK
  rw [if_neg h37]
  by_cases h38 : x = 38
  · rw [if_pos h38]; exact lc_38 g r1 hK
  rw [if_neg h38]
  by_cases h39 : x = 39
  · rw [if_pos h39]; exact lc_39 g r1 r2 hK
  rw [if_neg h39]
  by_cases h40 : x = 40
  · rw [if_pos h40]; exact lc_40 g r1 hK
  rw [if_neg h40]
  by_cases h41 : x = 41
  · rw [if_pos h41]; exact lc_41 g r1 r2 hK
  rw [if_neg h41]
  by_cases h42 : x = 42
  · rw [if_pos h42]; exact lc_42 g r1 hK
  rw [if_neg h42]
  by_cases h43 : x = 43
  · rw [if_pos h43]; exact lc_43 g r1 r2 hK
  rw [if_neg h43]
  by_cases h44 : x = 44
  · rw [if_pos h44]; exact lc_44 g r1 hK
  rw [if_neg h44]
  by_cases h45 : x = 45
  · rw [if_pos h45]; exact lc_45 g  hK
  rw [if_neg h45]
  by_cases h46 : x = 46
  · rw [if_pos h46]; exact lc_46 g  hK
  rw [if_neg h46]
  by_cases h47 : x = 47
  · rw [if_pos h47]; exact lc_47 g  hK
  rw [if_neg h47]
  by_cases h48 : x = 48
  · rw [if_pos h48]; exact lc_48 g r1 hK
  rw [if_neg h48]
  by_cases h49 : x = 49
  · rw [if_pos h49]; exact lc_49 g r1 hK
  rw [if_neg h49]
  by_cases h50 : x = 50
  · rw [if_pos h50]; exact lc_50 g  hK
  rw [if_neg h50]
  by_cases h51 : x = 51
  · rw [if_pos h51]; exact lc_51 g  hK
  rw [if_neg h51]
  by_cases h52 : x = 52
  · rw [if_pos h52]; exact lc_52 g  hK
  rw [if_neg h52]
  by_cases h53 : x = 53
  · rw [if_pos h53]; exact lc_53 g r1 r2 hK
  rw [if_neg h53]
  by_cases h54 : x = 54
  · rw [if_pos h54]; exact lc_54 g  hK
  rw [if_neg h54]
  by_cases h55 : x = 55
  · rw [if_pos h55]; exact lc_55 g  hK
  rw [if_neg h55]
  by_cases h56 : x = 56
  · rw [if_pos h56]; exact lc_56 g  hK
  rw [if_neg h56]
  by_cases h57 : x = 57
  · rw [if_pos h57]; exact lc_57 g  hK
  rw [if_neg h57]
  by_cases h58 : x = 58
  · rw [if_pos h58]; exact lc_58 g  hK
  rw [if_neg h58]
  by_cases h59 : x = 59
  · rw [if_pos h59]; exact lc_59 g  hK
  rw [if_neg h59]
  by_cases h60 : x = 60
  · rw [if_pos h60]; exact lc_60 g r1 hK
  rw [if_neg h60]
  exact hK S g
theorem law_ok (hL : L ≤ 3072) : ∀ d j S, j ≤ 512 → 512 - j ≤ d → GS S → f_law_L L sx (d + 1) (nI (6 * j)) S = some () := by
  intro d
  induction d with
  | zero =>
    intro j S hj hd g
    rw [f_law_L]
    dsimp only
    by_cases h : Int32.ofNat L - 6 < nI (6 * j)
    · rw [if_pos h]
    · have := law_in2 hL hj h
      omega
  | succ d ih =>
    intro j S hj hd g
    rw [f_law_L]
    dsimp only
    by_cases h : Int32.ofNat L - 6 < nI (6 * j)
    · rw [if_pos h]
    · have h6 := law_in2 hL hj h
      rw [if_neg h, rd_n (by omega) (by omega), ob_s]
      refine sw_ok g (x1 := sx (6 * j + 1)) (x2 := sx (6 * j + 2)) (x3 := sx (6 * j + 3)) (x4 := sx (6 * j + 4)) (x5 := sx (6 * j + 5)) ?_ ?_ ?_ ?_ ?_ (fun S' g' => ?_)
      · rw [l_1, nI_add, rd_n (by omega) (by omega)]
      · rw [l_2, nI_add, rd_n (by omega) (by omega)]
      · rw [l_3, nI_add, rd_n (by omega) (by omega)]
      · rw [l_4, nI_add, rd_n (by omega) (by omega)]
      · rw [l_5, nI_add, rd_n (by omega) (by omega)]
      · have e9 : nI (6 * j) + 6 = nI (6 * (j + 1)) := by rw [show (6 : Int32) = nI 6 from rfl, nI_add, Nat.mul_succ]
        show f_law_L L sx (d + 1) (nI (6 * j) + 6) S' = some ()
        rw [e9]
        exact ih (j + 1) S' (by omega) (by omega) g'
end
