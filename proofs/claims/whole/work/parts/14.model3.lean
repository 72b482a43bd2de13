theorem kw1328 : Cond.methodLink RX9 346 yX9_readsAll ∈ lwX := kw 1328 (by decide +kernel) (by decide +kernel)
theorem kw1330 : Cond.instanceMethod yX9_readsAll ∈ lwX := kw 1330 (by decide +kernel) (by decide +kernel)
theorem kw31 : Cond.selects RX9 yX9_readsAll yX9_readsAll ∈ lwX := kw 31 (by decide +kernel) (by decide +kernel)
theorem kw1331 : Cond.code yX9_readsAll cX9_readsAll 1 (some .boolean) ∈ lwX := kw 1331 (by decide +kernel) (by decide +kernel)
theorem kw1317 : Cond.methodLink RX9 53 yX9_parses ∈ lwX := kw 1317 (by decide +kernel) (by decide +kernel)
theorem kw1319 : Cond.instanceMethod yX9_parses ∈ lwX := kw 1319 (by decide +kernel) (by decide +kernel)
theorem kw29 : Cond.selects RX9 yX9_parses yX9_parses ∈ lwX := kw 29 (by decide +kernel) (by decide +kernel)
theorem kw1320 : Cond.code yX9_parses cX9_parses 2 (some .boolean) ∈ lwX := kw 1320 (by decide +kernel) (by decide +kernel)
theorem m_X9_readsAll : xMem yX9_readsAll RX9 cX9_readsAll 1 (some .boolean) 0 := ⟨kw1330, kw31, kw125, kw1331, by decide +kernel, by decide +kernel, by decide +kernel, by decide +kernel⟩
theorem m_X9_parses : xMem yX9_parses RX9 cX9_parses 2 (some .boolean) 0 := ⟨kw1319, kw29, kw125, kw1320, by decide +kernel, by decide +kernel, by decide +kernel, by decide +kernel⟩
theorem c_RC (l : Launch) (D : va_G) (cy : Nat → ClassId) (s00 : State) (ad : Nat → Nat) (hG : XG s00) : ∀ (n : Nat) (S : XS) (x r : Int32) (S2 : XS), f_RC n S x = some (r, S2) → XI l yX9_readsCommand cX9_readsCommand 3 (some .boolean) (10 + 2 * n) D cy s00 shMod ad S [.ref (ad 0), .int x] r S2
  | 0, S, x, r, S2, hf => by cases hf
  | n + 1, S, x, r, S2, hf => c_X9_readsCommand l D cy s00 ad (10 + 2 * n + 1) (by omega) _ (fun S x r S2 hf => c_X9_readsRepeat l D cy s00 ad (10 + 2 * n) (by omega) _ (fun S x r S2 hf => c_RC l D cy s00 ad hG n S x r S2 hf) S x r S2 hf) hG S x r S2 hf
theorem c_RC3 (l : Launch) (D : va_G) (cy : Nat → ClassId) (s00 : State) (ad : Nat → Nat) (hG : XG s00) (S : XS) (x r : Int32) (S2 : XS) (hf : f_RC3 S x = some (r, S2)) : XI l yX9_readsCommand cX9_readsCommand 3 (some .boolean) 16 D cy s00 shMod ad S [.ref (ad 0), .int x] r S2 := c_RC l D cy s00 ad hG 3 S x r S2 hf
set_option maxHeartbeats 4000000 in
set_option maxRecDepth 100000 in
theorem w_X9_readsAll_L34 {p : Program} {l : Launch} {e : Env} {s : State} {m : MethodId} {args : Array Value} {below : List Frame} {meth : Method} {c : Code} {D : va_G} {cy : Nat → ClassId} {s00 : State} {ad : Nat → Nat} {A : Nat → Prop} (hG : XG s00) {r9 : Int32} {S9 : XS}  {K : XS → Option (Int32 × XS)} (E : XE p s m args meth c cX9_readsAll 1 RX9 (some .boolean) D cy s00) (hk : ∀ (S1 : XS) (H : Heap) (locs : List Loc) (ls : Array Slot), K S1 = some (r9, S9) → XH D cy s00 shMod ad S1 A s H locs → lv_has ls 1 [(0, .ref (ad 0))] → W p l e (xrm 17) s m args below meth c H locs 0 0 (MQ below (xqi D cy shMod ad r9 S9 A) args s 0 0 A) (F0 m 58 ls [])) :
    ∀ (n : Nat) (S : XS) (H : Heap) (locs : List Loc) (ls : Array Slot), f_X9_readsAll_L34 K n S = some (r9, S9) → XH D cy s00 shMod ad S A s H locs → lv_has ls 1 [(0, .ref (ad 0))] → W p l e (xrm 17) s m args below meth c H locs 0 0 (MQ below (xqi D cy shMod ad r9 S9 A) args s 0 0 A) (F0 m 34 ls []) := by
  intro n
  induction n with
  | zero => intro S H locs ls hf; cases hf
  | succ n ih =>
    intro S H locs ls hf h hl
    rw [f_X9_readsAll_L34] at hf
    refine lv_aload_n E.1 E.2.1 dX9_readsAll_34 rfl (lv_at hl 0 rfl) ?_
    refine x_get E h 0 17 rfl rfl rfl (by decide) xinX9 kw1627 dX9_readsAll_35 ?_
    refine x_br hf (lv_if_eq (tgt := 58) E.1 E.2.1 dX9_readsAll_38 (by decide)) (fun hf => ?_) (fun hf => ?_)
    · exact hk _ _ _ _ hf h (lv_sub hl [0] rfl)
    · refine lv_aload_n E.1 E.2.1 dX9_readsAll_41 rfl (lv_at hl 0 rfl) ?_
      refine lv_iconst (v := 0) E.1 E.2.1 dX9_readsAll_42 (by decide) ?_
      refine x_calli E h hl 0 hf (fun r0 Sq0 hr => c_RC3 l D cy s00 _ hG S 0 r0 Sq0 hr) m_X9_readsCommand rfl rfl kw1345 rfl rfl (Nat.le_of_ble_eq_true rfl) ⟨by decide, by decide⟩ ⟨Nat.zero_le _, Nat.zero_le _⟩ dX9_readsAll_43 (fun v7 S8 H locs hf h => ?_)
      refine x_brn hf (lv_if_ne (tgt := 51) E.1 E.2.1 dX9_readsAll_46 (by decide)) (fun hf => ?_) (fun hf => ?_)
      · refine lv_aload_n E.1 E.2.1 dX9_readsAll_51 rfl (lv_at hl 0 rfl) ?_
        refine x_callv E h hl 0 hf (fun r0 hr => c_X9_next l D cy s00 _ S8  r0 hr) m_X9_next rfl rfl kw1321 rfl rfl (Nat.le_of_ble_eq_true rfl) ⟨by decide, by decide⟩ ⟨Nat.zero_le _, Nat.zero_le _⟩ dX9_readsAll_52 (fun S9 H locs hf h => ?_)
        refine lv_goto (tgt := 34) E.1 E.2.1 dX9_readsAll_55 (by decide) ?_
        exact ih _ _ _ _ hf h (lv_sub hl [0] rfl)
      · refine lv_iconst (v := 0) E.1 E.2.1 dX9_readsAll_49 (by decide) ?_
        exact x_zic E h (by decide) hf dX9_readsAll_50
set_option maxHeartbeats 4000000 in
set_option maxRecDepth 100000 in
theorem c_X9_readsAll (l : Launch) (D : va_G) (cy : Nat → ClassId) (s00 : State) (ad : Nat → Nat) (hG : XG s00) (S : XS) (r9 : Int32) (S9 : XS) (hf : f_X9_readsAll S = some (r9, S9)) : XI l yX9_readsAll cX9_readsAll 1 (some .boolean) 17 D cy s00 shMod ad S [.ref (ad 0)] r9 S9 := by
  refine XI.of (by decide) [(0, .ref (ad 0))] rfl (Nat.le_of_ble_eq_true rfl) (fun p e s m args below meth c A ls E h hl => ?_)
  unfold f_X9_readsAll at hf
  refine lv_aload_n E.1 E.2.1 dX9_readsAll_0 rfl (lv_at hl 0 rfl) ?_
  refine x_ldcwS hG E 11 (byt := lb11) rfl dX9_readsAll_1 (fun aK1 aV1 g1 => ?_)
  refine x_callp E h hl 0 hf (fun r0 hr => c_X9_says l D cy s00 _ hG g1 (by decide) S  r0 hr) m_X9_says rfl rfl kw1333 rfl rfl (Nat.le_of_ble_eq_true rfl) ⟨by decide, by decide⟩ ⟨Nat.zero_le _, Nat.zero_le _⟩ dX9_readsAll_4 (fun v2 H locs hf h => ?_)
  refine x_brn hf (lv_if_ne (tgt := 16) E.1 E.2.1 dX9_readsAll_7 (by decide)) (fun hf => ?_) (fun hf => ?_)
  · refine lv_aload_n E.1 E.2.1 dX9_readsAll_16 rfl (lv_at hl 0 rfl) ?_
    refine x_callv E h hl 0 hf (fun r0 hr => c_X9_next l D cy s00 _ S  r0 hr) m_X9_next rfl rfl kw1321 rfl rfl (Nat.le_of_ble_eq_true rfl) ⟨by decide, by decide⟩ ⟨Nat.zero_le _, Nat.zero_le _⟩ dX9_readsAll_17 (fun S3 H locs hf h => ?_)
    refine lv_aload_n E.1 E.2.1 dX9_readsAll_20 rfl (lv_at hl 0 rfl) ?_
    refine lv_iconst (v := 1) E.1 E.2.1 dX9_readsAll_21 (by decide) ?_
    refine x_calli E h hl 0 hf (fun r0 Sq0 hr => c_X9_is l D cy s00 _ S3 1 r0 Sq0 hr) m_X9_is rfl rfl kw1341 rfl rfl (Nat.le_of_ble_eq_true rfl) ⟨by decide, by decide⟩ ⟨Nat.zero_le _, Nat.zero_le _⟩ dX9_readsAll_22 (fun v4 S5 H locs hf h => ?_)
    refine x_brn hf (lv_if_ne (tgt := 30) E.1 E.2.1 dX9_readsAll_25 (by decide)) (fun hf => ?_) (fun hf => ?_)
    · refine lv_aload_n E.1 E.2.1 dX9_readsAll_30 rfl (lv_at hl 0 rfl) ?_
      refine x_callv E h hl 0 hf (fun r0 hr => c_X9_next l D cy s00 _ S5  r0 hr) m_X9_next rfl rfl kw1321 rfl rfl (Nat.le_of_ble_eq_true rfl) ⟨by decide, by decide⟩ ⟨Nat.zero_le _, Nat.zero_le _⟩ dX9_readsAll_31 (fun S6 H locs hf h => ?_)
      refine w_X9_readsAll_L34 hG E ?_ _ _ _ _ _ hf h (lv_sub hl [0] rfl)
      intro S10 H locs ls hf h hl
      refine lv_iconst (v := 1) E.1 E.2.1 dX9_readsAll_58 (by decide) ?_
      exact x_zic E h (by decide) hf dX9_readsAll_59
    · refine lv_iconst (v := 0) E.1 E.2.1 dX9_readsAll_28 (by decide) ?_
      exact x_zic E h (by decide) hf dX9_readsAll_29
  · refine lv_aload_n E.1 E.2.1 dX9_readsAll_10 rfl (lv_at hl 0 rfl) ?_
    refine lv_iconst (v := 1) E.1 E.2.1 dX9_readsAll_11 (by decide) ?_
    refine x_calli E h hl 0 hf (fun r0 Sq0 hr => c_X9_fail l D cy s00 _ S 1 r0 Sq0 hr) m_X9_fail rfl rfl kw1337 rfl rfl (Nat.le_of_ble_eq_true rfl) ⟨by decide, by decide⟩ ⟨Nat.zero_le _, Nat.zero_le _⟩ dX9_readsAll_12 (fun v11 S12 H locs hf h => ?_)
    exact x_zret E h hf dX9_readsAll_15
set_option maxHeartbeats 4000000 in
set_option maxRecDepth 100000 in
theorem w_X9_parses_L2 {p : Program} {l : Launch} {e : Env} {s : State} {m : MethodId} {args : Array Value} {below : List Frame} {meth : Method} {c : Code} {D : va_G} {cy : Nat → ClassId} {s00 : State} {ad : Nat → Nat} {A : Nat → Prop} (hG : XG s00) {r9 : Int32} {S9 : XS}  {K : Int32 → XS → Option (Int32 × XS)} (E : XE p s m args meth c cX9_parses 2 RX9 (some .boolean) D cy s00) (hk : ∀ (m1 : Int32) (S1 : XS) (H : Heap) (locs : List Loc) (ls : Array Slot), K m1 S1 = some (r9, S9) → XH D cy s00 shMod ad S1 A s H locs → lv_has ls 2 [(0, .ref (ad 0)), (1, .int m1)] → W p l e (xrm 18) s m args below meth c H locs 0 0 (MQ below (xqi D cy shMod ad r9 S9 A) args s 0 0 A) (F0 m 22 ls [])) :
    ∀ (n : Nat) (m1 : Int32) (S : XS) (H : Heap) (locs : List Loc) (ls : Array Slot), f_X9_parses_L2 K n m1 S = some (r9, S9) → XH D cy s00 shMod ad S A s H locs → lv_has ls 2 [(0, .ref (ad 0)), (1, .int m1)] → W p l e (xrm 18) s m args below meth c H locs 0 0 (MQ below (xqi D cy shMod ad r9 S9 A) args s 0 0 A) (F0 m 2 ls []) := by
  intro n
  induction n with
  | zero => intro m1 S H locs ls hf; cases hf
  | succ n ih =>
    intro m1 S H locs ls hf h hl
    rw [f_X9_parses_L2] at hf
    refine lv_iload_n E.1 E.2.1 dX9_parses_2 rfl (lv_at hl 1 rfl) ?_
    refine lv_sipush (v := 186) E.1 E.2.1 dX9_parses_3 (by decide) ?_
    refine x_br hf (lv_icmp_ge (tgt := 22) E.1 E.2.1 dX9_parses_6 (by decide)) (fun hf => ?_) (fun hf => ?_)
    · exact hk _ _ _ _ _ hf h (lv_sub hl [0, 1] rfl)
    · refine lv_aload_n E.1 E.2.1 dX9_parses_9 rfl (lv_at hl 0 rfl) ?_
      refine x_getr E h 0 0 1 rfl rfl rfl (by decide) xinX9 kw1610 dX9_parses_10 ?_
      refine lv_iload_n E.1 E.2.1 dX9_parses_13 rfl (lv_at hl 1 rfl) ?_
      refine lv_iconst (v := 0) E.1 E.2.1 dX9_parses_14 (by decide) ?_
      refine x_iast E h 1 hf rfl dX9_parses_15 (fun S1 H locs hf h => ?_)
      refine x_nv hf (fun v3 e9 hf => ?_)
      refine lv_iinc (v := v3) (lv' := [(1, .int v3), (0, .ref (ad 0))]) E.1 E.2.1 dX9_parses_16 hl (k := 1) rfl (by rw [e9]; rfl) (by decide) rfl (fun ls hl => ?_)
      refine lv_goto (tgt := 2) E.1 E.2.1 dX9_parses_19 (by decide) ?_
      exact ih _ _ _ _ _ hf h (lv_sub hl [1, 0] rfl)
set_option maxHeartbeats 4000000 in
set_option maxRecDepth 100000 in
theorem c_X9_parses (l : Launch) (D : va_G) (cy : Nat → ClassId) (s00 : State) (ad : Nat → Nat) (hG : XG s00) (S : XS) (r9 : Int32) (S9 : XS) (hf : f_X9_parses S = some (r9, S9)) : XI l yX9_parses cX9_parses 2 (some .boolean) 18 D cy s00 shMod ad S [.ref (ad 0)] r9 S9 := by
  refine XI.of (by decide) [(0, .ref (ad 0))] rfl (Nat.le_of_ble_eq_true rfl) (fun p e s m args below meth c A ls E h hl => ?_)
  unfold f_X9_parses at hf
  refine lv_iconst (v := 0) E.1 E.2.1 dX9_parses_0 (by decide) ?_
  refine lv_istore_n (lv' := [(1, .int 0), (0, .ref (ad 0))]) E.1 E.2.1 dX9_parses_1 rfl hl (by decide) rfl (fun ls hl => ?_)
  refine w_X9_parses_L2 hG E ?_ _ _ _ _ _ _ hf h (lv_sub hl [1, 0] rfl)
  intro v4 S5 H locs ls hf h hl
  refine lv_aload_n E.1 E.2.1 dX9_parses_22 rfl (lv_at hl 0 rfl) ?_
  refine lv_iconst (v := 0) E.1 E.2.1 dX9_parses_23 (by decide) ?_
  refine x_put (ty := .int) E h 0 12 hf rfl rfl rfl (by decide) xinX9 tyX9_ok nmX9 kw1622 rfl (by decide +kernel) rfl rfl dX9_parses_24 (fun S6 H locs hf h => ?_)
  refine lv_aload_n E.1 E.2.1 dX9_parses_27 rfl (lv_at hl 0 rfl) ?_
  refine lv_iconst (v := (-1)) E.1 E.2.1 dX9_parses_28 (by decide) ?_
  refine x_put (ty := .int) E h 0 13 hf rfl rfl rfl (by decide) xinX9 tyX9_ok nmX9 kw1623 rfl (by decide +kernel) rfl rfl dX9_parses_29 (fun S7 H locs hf h => ?_)
  refine lv_aload_n E.1 E.2.1 dX9_parses_32 rfl (lv_at hl 0 rfl) ?_
  refine lv_iconst (v := 0) E.1 E.2.1 dX9_parses_33 (by decide) ?_
  refine x_put (ty := .int) E h 0 21 hf rfl rfl rfl (by decide) xinX9 tyX9_ok nmX9 kw1631 rfl (by decide +kernel) rfl rfl dX9_parses_34 (fun S8 H locs hf h => ?_)
  refine lv_aload_n E.1 E.2.1 dX9_parses_37 rfl (lv_at hl 0 rfl) ?_
  refine lv_iconst (v := 0) E.1 E.2.1 dX9_parses_38 (by decide) ?_
  refine x_put (ty := .int) E h 0 19 hf rfl rfl rfl (by decide) xinX9 tyX9_ok nmX9 kw1629 rfl (by decide +kernel) rfl rfl dX9_parses_39 (fun S9 H locs hf h => ?_)
  refine lv_aload_n E.1 E.2.1 dX9_parses_42 rfl (lv_at hl 0 rfl) ?_
  refine x_callv E h hl 0 hf (fun r0 hr => c_X9_next l D cy s00 _ S9  r0 hr) m_X9_next rfl rfl kw1321 rfl rfl (Nat.le_of_ble_eq_true rfl) ⟨by decide, by decide⟩ ⟨Nat.zero_le _, Nat.zero_le _⟩ dX9_parses_43 (fun S10 H locs hf h => ?_)
  refine lv_aload_n E.1 E.2.1 dX9_parses_46 rfl (lv_at hl 0 rfl) ?_
  refine x_calli E h hl 0 hf (fun r0 Sq0 hr => c_X9_readsAll l D cy s00 _ hG S10  r0 Sq0 hr) m_X9_readsAll rfl rfl kw1328 rfl rfl (Nat.le_of_ble_eq_true rfl) ⟨by decide, by decide⟩ ⟨Nat.zero_le _, Nat.zero_le _⟩ dX9_parses_47 (fun v11 S12 H locs hf h => ?_)
  exact x_zret E h hf dX9_parses_50
set_option maxHeartbeats 4000000 in
set_option maxRecDepth 100000 in
theorem w_X9_runScript_L7 {p : Program} {l : Launch} {e : Env} {s : State} {m : MethodId} {args : Array Value} {below : List Frame} {meth : Method} {c : Code} {D : va_G} {cy : Nat → ClassId} {s00 : State} {ad : Nat → Nat} {A : Nat → Prop} (hG : XG s00) {r9 : Int32} {S9 : XS}  {K : Int32 → XS → Option (Int32 × XS)} (E : XE p s m args meth c cX9_runScript 2 RX9 (some .int) D cy s00) (hk : ∀ (m1 : Int32) (S1 : XS) (H : Heap) (locs : List Loc) (ls : Array Slot), K m1 S1 = some (r9, S9) → XH D cy s00 shMod ad S1 A s H locs → lv_has ls 2 [(0, .ref (ad 0)), (1, .int m1)] → W p l e (xrm 19) s m args below meth c H locs 0 0 (MQ below (xqi D cy shMod ad r9 S9 A) args s 0 0 A) (F0 m 33 ls [])) :
    ∀ (n : Nat) (m1 : Int32) (S : XS) (H : Heap) (locs : List Loc) (ls : Array Slot), f_X9_runScript_L7 K n m1 S = some (r9, S9) → XH D cy s00 shMod ad S A s H locs → lv_has ls 2 [(0, .ref (ad 0)), (1, .int m1)] → W p l e (xrm 19) s m args below meth c H locs 0 0 (MQ below (xqi D cy shMod ad r9 S9 A) args s 0 0 A) (F0 m 7 ls []) := by
  intro n
  induction n with
  | zero => intro m1 S H locs ls hf; cases hf
  | succ n ih =>
    intro m1 S H locs ls hf h hl
    rw [f_X9_runScript_L7] at hf
    refine lv_iload_n E.1 E.2.1 dX9_runScript_7 rfl (lv_at hl 1 rfl) ?_
    refine lv_aload_n E.1 E.2.1 dX9_runScript_8 rfl (lv_at hl 0 rfl) ?_
    refine x_get E h 0 10 rfl rfl rfl (by decide) xinX9 kw1620 dX9_runScript_9 ?_
    refine x_br hf (lv_icmp_ge (tgt := 33) E.1 E.2.1 dX9_runScript_12 (by decide)) (fun hf => ?_) (fun hf => ?_)
    · exact hk _ _ _ _ _ hf h (lv_sub hl [0, 1] rfl)
    · refine lv_aload_n E.1 E.2.1 dX9_runScript_15 rfl (lv_at hl 0 rfl) ?_
      refine x_getr E h 0 8 7 rfl rfl rfl (by decide) xinX9 kw1618 dX9_runScript_16 ?_
      refine lv_iload_n E.1 E.2.1 dX9_runScript_19 rfl (lv_at hl 1 rfl) ?_
      refine lv_aload_n E.1 E.2.1 dX9_runScript_20 rfl (lv_at hl 0 rfl) ?_
      refine x_getr E h 0 7 6 rfl rfl rfl (by decide) xinX9 kw1617 dX9_runScript_21 ?_
      refine lv_iload_n E.1 E.2.1 dX9_runScript_24 rfl (lv_at hl 1 rfl) ?_
      refine x_iald E h 6 hf rfl dX9_runScript_25 (fun v2 hf => ?_)
      refine x_iast E h 7 hf rfl dX9_runScript_26 (fun S3 H locs hf h => ?_)
      refine x_nv hf (fun v5 e9 hf => ?_)
      refine lv_iinc (v := v5) (lv' := [(1, .int v5), (0, .ref (ad 0))]) E.1 E.2.1 dX9_runScript_27 hl (k := 1) rfl (by rw [e9]; rfl) (by decide) rfl (fun ls hl => ?_)
      refine lv_goto (tgt := 7) E.1 E.2.1 dX9_runScript_30 (by decide) ?_
      exact ih _ _ _ _ _ hf h (lv_sub hl [1, 0] rfl)
set_option maxHeartbeats 4000000 in
set_option maxRecDepth 100000 in
theorem w_X9_runScript_L59 {p : Program} {l : Launch} {e : Env} {s : State} {m : MethodId} {args : Array Value} {below : List Frame} {meth : Method} {c : Code} {D : va_G} {cy : Nat → ClassId} {s00 : State} {ad : Nat → Nat} {A : Nat → Prop} (hG : XG s00) {r9 : Int32} {S9 : XS}  {K : Int32 → XS → Option (Int32 × XS)} (E : XE p s m args meth c cX9_runScript 2 RX9 (some .int) D cy s00) (hk : ∀ (m1 : Int32) (S1 : XS) (H : Heap) (locs : List Loc) (ls : Array Slot), K m1 S1 = some (r9, S9) → XH D cy s00 shMod ad S1 A s H locs → lv_has ls 2 [(0, .ref (ad 0)), (1, .int m1)] → W p l e (xrm 19) s m args below meth c H locs 0 0 (MQ below (xqi D cy shMod ad r9 S9 A) args s 0 0 A) (F0 m 84 ls [])) :
    ∀ (n : Nat) (m1 : Int32) (S : XS) (H : Heap) (locs : List Loc) (ls : Array Slot), f_X9_runScript_L59 K n m1 S = some (r9, S9) → XH D cy s00 shMod ad S A s H locs → lv_has ls 2 [(0, .ref (ad 0)), (1, .int m1)] → W p l e (xrm 19) s m args below meth c H locs 0 0 (MQ below (xqi D cy shMod ad r9 S9 A) args s 0 0 A) (F0 m 59 ls []) := by
  intro n
  induction n with
  | zero => intro m1 S H locs ls hf; cases hf
  | succ n ih =>
    intro m1 S H locs ls hf h hl
    rw [f_X9_runScript_L59] at hf
    refine lv_iload_n E.1 E.2.1 dX9_runScript_59 rfl (lv_at hl 1 rfl) ?_
    refine lv_sipush (v := 186) E.1 E.2.1 dX9_runScript_60 (by decide) ?_
    refine x_br hf (lv_icmp_ge (tgt := 84) E.1 E.2.1 dX9_runScript_63 (by decide)) (fun hf => ?_) (fun hf => ?_)
    · exact hk _ _ _ _ _ hf h (lv_sub hl [0, 1] rfl)
    · refine lv_aload_n E.1 E.2.1 dX9_runScript_66 rfl (lv_at hl 0 rfl) ?_
      refine x_getr E h 0 0 1 rfl rfl rfl (by decide) xinX9 kw1610 dX9_runScript_67 ?_
      refine lv_iload_n E.1 E.2.1 dX9_runScript_70 rfl (lv_at hl 1 rfl) ?_
      refine lv_aload_n E.1 E.2.1 dX9_runScript_71 rfl (lv_at hl 0 rfl) ?_
      refine x_getr E h 0 1 2 rfl rfl rfl (by decide) xinX9 kw1611 dX9_runScript_72 ?_
      refine lv_iload_n E.1 E.2.1 dX9_runScript_75 rfl (lv_at hl 1 rfl) ?_
      refine x_iald E h 2 hf rfl dX9_runScript_76 (fun v16 hf => ?_)
      refine x_iast E h 1 hf rfl dX9_runScript_77 (fun S17 H locs hf h => ?_)
      refine x_nv hf (fun v19 e9 hf => ?_)
      refine lv_iinc (v := v19) (lv' := [(1, .int v19), (0, .ref (ad 0))]) E.1 E.2.1 dX9_runScript_78 hl (k := 1) rfl (by rw [e9]; rfl) (by decide) rfl (fun ls hl => ?_)
      refine lv_goto (tgt := 59) E.1 E.2.1 dX9_runScript_81 (by decide) ?_
      exact ih _ _ _ _ _ hf h (lv_sub hl [1, 0] rfl)
set_option maxHeartbeats 4000000 in
set_option maxRecDepth 100000 in
theorem c_X9_runScript (l : Launch) (D : va_G) (cy : Nat → ClassId) (s00 : State) (ad : Nat → Nat) (hG : XG s00) (S : XS) (r9 : Int32) (S9 : XS) (hf : f_X9_runScript S = some (r9, S9)) : XI l yX9_runScript cX9_runScript 2 (some .int) 19 D cy s00 shMod ad S [.ref (ad 0)] r9 S9 := by
  refine XI.of (by decide) [(0, .ref (ad 0))] rfl (Nat.le_of_ble_eq_true rfl) (fun p e s m args below meth c A ls E h hl => ?_)
  unfold f_X9_runScript at hf
  refine lv_aload_n E.1 E.2.1 dX9_runScript_0 rfl (lv_at hl 0 rfl) ?_
  refine lv_iconst (v := 0) E.1 E.2.1 dX9_runScript_1 (by decide) ?_
  refine x_put (ty := .int) E h 0 16 hf rfl rfl rfl (by decide) xinX9 tyX9_ok nmX9 kw1626 rfl (by decide +kernel) rfl rfl dX9_runScript_2 (fun S1 H locs hf h => ?_)
  refine lv_iconst (v := 0) E.1 E.2.1 dX9_runScript_5 (by decide) ?_
  refine lv_istore_n (lv' := [(1, .int 0), (0, .ref (ad 0))]) E.1 E.2.1 dX9_runScript_6 rfl hl (by decide) rfl (fun ls hl => ?_)
  refine w_X9_runScript_L7 hG E ?_ _ _ _ _ _ _ hf h (lv_sub hl [1, 0] rfl)
  intro v6 S7 H locs ls hf h hl
  refine lv_aload_n E.1 E.2.1 dX9_runScript_33 rfl (lv_at hl 0 rfl) ?_
  refine lv_aload_n E.1 E.2.1 dX9_runScript_34 rfl (lv_at hl 0 rfl) ?_
  refine x_get E h 0 10 rfl rfl rfl (by decide) xinX9 kw1620 dX9_runScript_35 ?_
  refine x_put (ty := .int) E h 0 11 hf rfl rfl rfl (by decide) xinX9 tyX9_ok nmX9 kw1621 rfl (by decide +kernel) rfl rfl dX9_runScript_38 (fun S8 H locs hf h => ?_)
  refine lv_aload_n E.1 E.2.1 dX9_runScript_41 rfl (lv_at hl 0 rfl) ?_
  refine lv_iconst (v := 0) E.1 E.2.1 dX9_runScript_42 (by decide) ?_
  refine x_put (ty := .int) E h 0 10 hf rfl rfl rfl (by decide) xinX9 tyX9_ok nmX9 kw1620 rfl (by decide +kernel) rfl rfl dX9_runScript_43 (fun S9 H locs hf h => ?_)
  refine lv_aload_n E.1 E.2.1 dX9_runScript_46 rfl (lv_at hl 0 rfl) ?_
  refine x_callv E h hl 0 hf (fun r0 hr => c_X9_begins l D cy s00 _ S9  r0 hr) m_X9_begins rfl rfl kw1705 rfl rfl (Nat.le_of_ble_eq_true rfl) ⟨by decide, by decide⟩ ⟨Nat.zero_le _, Nat.zero_le _⟩ dX9_runScript_47 (fun S10 H locs hf h => ?_)
  refine lv_aload_n E.1 E.2.1 dX9_runScript_50 rfl (lv_at hl 0 rfl) ?_
  refine x_calli E h hl 0 hf (fun r0 Sq0 hr => c_X9_parses l D cy s00 _ hG S10  r0 Sq0 hr) m_X9_parses rfl rfl kw1317 rfl rfl (Nat.le_of_ble_eq_true rfl) ⟨by decide, by decide⟩ ⟨Nat.zero_le _, Nat.zero_le _⟩ dX9_runScript_51 (fun v11 S12 H locs hf h => ?_)
  refine x_brn hf (lv_if_ne (tgt := 86) E.1 E.2.1 dX9_runScript_54 (by decide)) (fun hf => ?_) (fun hf => ?_)
  · refine lv_aload_n E.1 E.2.1 dX9_runScript_86 rfl (lv_at hl 0 rfl) ?_
    refine lv_aload_n E.1 E.2.1 dX9_runScript_87 rfl (lv_at hl 0 rfl) ?_
    refine x_getr E h 0 0 1 rfl rfl rfl (by decide) xinX9 kw1610 dX9_runScript_88 ?_
    refine lv_iconst (v := 2) E.1 E.2.1 dX9_runScript_91 (by decide) ?_
    refine x_iald E h 1 hf rfl dX9_runScript_92 (fun v13 hf => ?_)
    refine x_calli E h hl 0 hf (fun r0 Sq0 hr => c_X9_remember l D cy s00 _ S12 v13 r0 Sq0 hr) m_X9_remember rfl rfl kw1709 rfl rfl (Nat.le_of_ble_eq_true rfl) ⟨by decide, by decide⟩ ⟨Nat.zero_le _, Nat.zero_le _⟩ dX9_runScript_93 (fun v14 S15 H locs hf h => ?_)
    exact x_iret E h hf dX9_runScript_96
  · refine lv_iconst (v := 0) E.1 E.2.1 dX9_runScript_57 (by decide) ?_
    refine lv_istore_n (lv' := [(1, .int 0), (0, .ref (ad 0))]) E.1 E.2.1 dX9_runScript_58 rfl hl (by decide) rfl (fun ls hl => ?_)
    refine w_X9_runScript_L59 hG E ?_ _ _ _ _ _ _ hf h (lv_sub hl [1, 0] rfl)
    intro v20 S21 H locs ls hf h hl
    refine lv_iconst (v := (-1)) E.1 E.2.1 dX9_runScript_84 (by decide) ?_
    exact x_iret E h hf dX9_runScript_85
