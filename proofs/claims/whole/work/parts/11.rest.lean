theorem kw287 : Cond.fieldLink RX4 15 (TX4 1).1 (TX4 1).2.1 (TX4 1).2.2.1 ∈ lwX := kw 287 (by decide +kernel) (by decide +kernel)
theorem kw286 : Cond.fieldLink RX4 9 (TX4 0).1 (TX4 0).2.1 (TX4 0).2.2.1 ∈ lwX := kw 286 (by decide +kernel) (by decide +kernel)
theorem kw289 : Cond.fieldLink RX4 19 (TX4 2).1 (TX4 2).2.1 (TX4 2).2.2.1 ∈ lwX := kw 289 (by decide +kernel) (by decide +kernel)
theorem kw293 : Cond.fieldLink RX4 25 (TX4 4).1 (TX4 4).2.1 (TX4 4).2.2.1 ∈ lwX := kw 293 (by decide +kernel) (by decide +kernel)
theorem kw295 : Cond.fieldLink RX4 28 (TX4 5).1 (TX4 5).2.1 (TX4 5).2.2.1 ∈ lwX := kw 295 (by decide +kernel) (by decide +kernel)
theorem kw291 : Cond.fieldLink RX4 22 (TX4 3).1 (TX4 3).2.1 (TX4 3).2.2.1 ∈ lwX := kw 291 (by decide +kernel) (by decide +kernel)
theorem kw490 : Cond.methodLink RX4 31 yX4_kindOf ∈ lwX := kw 490 (by decide +kernel) (by decide +kernel)
theorem kw492 : Cond.instanceMethod yX4_kindOf ∈ lwX := kw 492 (by decide +kernel) (by decide +kernel)
theorem kw5 : Cond.selects RX4 yX4_kindOf yX4_kindOf ∈ lwX := kw 5 (by decide +kernel) (by decide +kernel)
theorem kw121 : Cond.initialized RX4 ∈ lwX := kw 121 (by decide +kernel) (by decide +kernel)
theorem kw493 : Cond.code yX4_kindOf cX4_kindOf 2 (some .int) ∈ lwX := kw 493 (by decide +kernel) (by decide +kernel)
theorem kw494 : Cond.methodLink RX4 35 yX4_readNumber ∈ lwX := kw 494 (by decide +kernel) (by decide +kernel)
theorem kw496 : Cond.instanceMethod yX4_readNumber ∈ lwX := kw 496 (by decide +kernel) (by decide +kernel)
theorem kw6 : Cond.selects RX4 yX4_readNumber yX4_readNumber ∈ lwX := kw 6 (by decide +kernel) (by decide +kernel)
theorem kw497 : Cond.code yX4_readNumber cX4_readNumber 2 none ∈ lwX := kw 497 (by decide +kernel) (by decide +kernel)
theorem kw315 : Cond.fieldLink RX7 21 (TX7 1).1 (TX7 1).2.1 (TX7 1).2.2.1 ∈ lwX := kw 315 (by decide +kernel) (by decide +kernel)
theorem kw317 : Cond.fieldLink RX7 25 (TX7 2).1 (TX7 2).2.1 (TX7 2).2.2.1 ∈ lwX := kw 317 (by decide +kernel) (by decide +kernel)
theorem kw313 : Cond.fieldLink RX7 12 (TX7 0).1 (TX7 0).2.1 (TX7 0).2.2.1 ∈ lwX := kw 313 (by decide +kernel) (by decide +kernel)
theorem kw294 : Cond.fieldLink RX7 81 (TX4 4).1 (TX4 4).2.1 (TX4 4).2.2.1 ∈ lwX := kw 294 (by decide +kernel) (by decide +kernel)
theorem kw319 : Cond.fieldLink RX7 29 (TX7 3).1 (TX7 3).2.1 (TX7 3).2.2.1 ∈ lwX := kw 319 (by decide +kernel) (by decide +kernel)
theorem kw322 : Cond.fieldLink RX7 36 (TX7 5).1 (TX7 5).2.1 (TX7 5).2.2.1 ∈ lwX := kw 322 (by decide +kernel) (by decide +kernel)
theorem kw486 : Cond.methodLink RX7 84 yX4_next ∈ lwX := kw 486 (by decide +kernel) (by decide +kernel)
theorem kw487 : Cond.instanceMethod yX4_next ∈ lwX := kw 487 (by decide +kernel) (by decide +kernel)
theorem kw488 : Cond.selects RX4 yX4_next yX4_next ∈ lwX := kw 488 (by decide +kernel) (by decide +kernel)
theorem kw489 : Cond.code yX4_next cX4_next 1 none ∈ lwX := kw 489 (by decide +kernel) (by decide +kernel)
theorem kw292 : Cond.fieldLink RX7 87 (TX4 3).1 (TX4 3).2.1 (TX4 3).2.2.1 ∈ lwX := kw 292 (by decide +kernel) (by decide +kernel)
theorem kw555 : Cond.methodLink RX7 67 yX7_fail ∈ lwX := kw 555 (by decide +kernel) (by decide +kernel)
theorem kw557 : Cond.instanceMethod yX7_fail ∈ lwX := kw 557 (by decide +kernel) (by decide +kernel)
theorem kw8 : Cond.selects RX7 yX7_fail yX7_fail ∈ lwX := kw 8 (by decide +kernel) (by decide +kernel)
theorem kw120 : Cond.initialized RX7 ∈ lwX := kw 120 (by decide +kernel) (by decide +kernel)
theorem kw558 : Cond.code yX7_fail cX7_fail 2 none ∈ lwX := kw 558 (by decide +kernel) (by decide +kernel)
theorem kw324 : Cond.fieldLink RX7 43 (TX7 7).1 (TX7 7).2.1 (TX7 7).2.2.1 ∈ lwX := kw 324 (by decide +kernel) (by decide +kernel)
theorem kw326 : Cond.fieldLink RX7 49 (TX7 9).1 (TX7 9).2.1 (TX7 9).2.2.1 ∈ lwX := kw 326 (by decide +kernel) (by decide +kernel)
theorem kw551 : Cond.methodLink RX7 95 yX7_expect ∈ lwX := kw 551 (by decide +kernel) (by decide +kernel)
theorem kw553 : Cond.instanceMethod yX7_expect ∈ lwX := kw 553 (by decide +kernel) (by decide +kernel)
theorem kw7 : Cond.selects RX7 yX7_expect yX7_expect ∈ lwX := kw 7 (by decide +kernel) (by decide +kernel)
theorem kw554 : Cond.code yX7_expect cX7_expect 2 (some .boolean) ∈ lwX := kw 554 (by decide +kernel) (by decide +kernel)
theorem kw325 : Cond.fieldLink RX7 46 (TX7 8).1 (TX7 8).2.1 (TX7 8).2.2.1 ∈ lwX := kw 325 (by decide +kernel) (by decide +kernel)
theorem kw290 : Cond.fieldLink RX7 78 (TX4 2).1 (TX4 2).2.1 (TX4 2).2.2.1 ∈ lwX := kw 290 (by decide +kernel) (by decide +kernel)
theorem kw594 : Cond.methodLink RX7 148 yX6_hasCat ∈ lwX := kw 594 (by decide +kernel) (by decide +kernel)
theorem kw595 : Cond.instanceMethod yX6_hasCat ∈ lwX := kw 595 (by decide +kernel) (by decide +kernel)
theorem kw596 : Cond.selects RX6 yX6_hasCat yX6_hasCat ∈ lwX := kw 596 (by decide +kernel) (by decide +kernel)
theorem kw597 : Cond.code yX6_hasCat cX6_hasCat 2 (some .boolean) ∈ lwX := kw 597 (by decide +kernel) (by decide +kernel)
theorem kw321 : Cond.fieldLink RX7 32 (TX7 4).1 (TX7 4).2.1 (TX7 4).2.2.1 ∈ lwX := kw 321 (by decide +kernel) (by decide +kernel)
theorem kw590 : Cond.methodLink RX7 145 yX6_hasChimney ∈ lwX := kw 590 (by decide +kernel) (by decide +kernel)
theorem kw591 : Cond.instanceMethod yX6_hasChimney ∈ lwX := kw 591 (by decide +kernel) (by decide +kernel)
theorem kw592 : Cond.selects RX6 yX6_hasChimney yX6_hasChimney ∈ lwX := kw 592 (by decide +kernel) (by decide +kernel)
theorem kw593 : Cond.code yX6_hasChimney cX6_hasChimney 2 (some .boolean) ∈ lwX := kw 593 (by decide +kernel) (by decide +kernel)
theorem kw598 : Cond.methodLink RX7 151 yX6_hasGutter ∈ lwX := kw 598 (by decide +kernel) (by decide +kernel)
theorem kw599 : Cond.instanceMethod yX6_hasGutter ∈ lwX := kw 599 (by decide +kernel) (by decide +kernel)
theorem kw600 : Cond.selects RX6 yX6_hasGutter yX6_hasGutter ∈ lwX := kw 600 (by decide +kernel) (by decide +kernel)
theorem kw601 : Cond.code yX6_hasGutter cX6_hasGutter 2 (some .boolean) ∈ lwX := kw 601 (by decide +kernel) (by decide +kernel)
theorem kw265 : Cond.fieldLink RX2 21 (TX2 2).1 (TX2 2).2.1 (TX2 2).2.2.1 ∈ lwX := kw 265 (by decide +kernel) (by decide +kernel)
theorem kw356 : Cond.fieldLink RX5 15 (TX5 1).1 (TX5 1).2.1 (TX5 1).2.2.1 ∈ lwX := kw 356 (by decide +kernel) (by decide +kernel)
theorem kw354 : Cond.fieldLink RX5 11 (TX5 0).1 (TX5 0).2.1 (TX5 0).2.2.1 ∈ lwX := kw 354 (by decide +kernel) (by decide +kernel)
theorem kw856 : Cond.methodLink RX5 24 yX5_put ∈ lwX := kw 856 (by decide +kernel) (by decide +kernel)
theorem kw858 : Cond.instanceMethod yX5_put ∈ lwX := kw 858 (by decide +kernel) (by decide +kernel)
theorem kw19 : Cond.selects RX5 yX5_put yX5_put ∈ lwX := kw 19 (by decide +kernel) (by decide +kernel)
theorem kw122 : Cond.initialized RX5 ∈ lwX := kw 122 (by decide +kernel) (by decide +kernel)
theorem kw859 : Cond.code yX5_put cX5_put 2 none ∈ lwX := kw 859 (by decide +kernel) (by decide +kernel)
theorem m_X4_kindOf : xMem yX4_kindOf RX4 cX4_kindOf 2 (some .int) 1 := ⟨kw492, kw5, kw121, kw493, by decide +kernel, by decide +kernel, by decide +kernel, by decide +kernel⟩
theorem m_X4_readNumber : xMem yX4_readNumber RX4 cX4_readNumber 2 none 0 := ⟨kw496, kw6, kw121, kw497, by decide +kernel, by decide +kernel, by decide +kernel, by decide +kernel⟩
theorem m_X4_next : xMem yX4_next RX4 cX4_next 1 none 0 := ⟨kw487, kw488, kw121, kw489, by decide +kernel, by decide +kernel, by decide +kernel, by decide +kernel⟩
theorem m_X7_fail : xMem yX7_fail RX7 cX7_fail 2 none 1 := ⟨kw557, kw8, kw120, kw558, by decide +kernel, by decide +kernel, by decide +kernel, by decide +kernel⟩
theorem m_X7_expect : xMem yX7_expect RX7 cX7_expect 2 (some .boolean) 1 := ⟨kw553, kw7, kw120, kw554, by decide +kernel, by decide +kernel, by decide +kernel, by decide +kernel⟩
theorem m_X6_hasCat : xMem yX6_hasCat RX6 cX6_hasCat 2 (some .boolean) 1 := ⟨kw595, kw596, kw117, kw597, by decide +kernel, by decide +kernel, by decide +kernel, by decide +kernel⟩
theorem m_X6_hasChimney : xMem yX6_hasChimney RX6 cX6_hasChimney 2 (some .boolean) 1 := ⟨kw591, kw592, kw117, kw593, by decide +kernel, by decide +kernel, by decide +kernel, by decide +kernel⟩
theorem m_X6_hasGutter : xMem yX6_hasGutter RX6 cX6_hasGutter 2 (some .boolean) 1 := ⟨kw599, kw600, kw117, kw601, by decide +kernel, by decide +kernel, by decide +kernel, by decide +kernel⟩
theorem m_X5_put : xMem yX5_put RX5 cX5_put 2 none 1 := ⟨kw858, kw19, kw122, kw859, by decide +kernel, by decide +kernel, by decide +kernel, by decide +kernel⟩
def f_X4_putFour_L3 (K : Int32 → XS → Option (XS)) (u1 : Int32) : Nat → Int32 → XS → Option (XS)
  | 0, _, _ => none
  | n + 1, m2, S => (if m2 < 0 then K m2 S else (if 600 ≤ (S 0 1) then K m2 S else ((xwr (S 0 1) 600).bind fun j2 => xlet (xput S 1 j2 (vp_nar .byte ((u1 >>> (m2 &&& 31))).toInt8.toInt32)) fun S1 => (xlet (xput S1 0 1 ((S1 0 1) + 1)) fun S3 => (xlet (m2 + (-8)) fun v4 => f_X4_putFour_L3 K u1 n v4 S3)))))
def f_X4_putFour (S : XS) (p0 : Int32) : Option (XS) := (f_X4_putFour_L3 (fun v5 S6 => some S6) p0 FU 24 S)
set_option maxHeartbeats 4000000 in
set_option maxRecDepth 100000 in
theorem w_X4_putFour_L3 {p : Program} {l : Launch} {e : Env} {s : State} {m : MethodId} {args : Array Value} {below : List Frame} {meth : Method} {c : Code} {D : va_G} {cy : Nat → ClassId} {s00 : State} {ad : Nat → Nat} {A : Nat → Prop} {S9 : XS} {u1 : Int32} {K : Int32 → XS → Option (XS)} (E : XE p s m args meth c cX4_putFour 3 RX4 none D cy s00) (hk : ∀ (m2 : Int32) (S1 : XS) (H : Heap) (locs : List Loc) (ls : Array Slot), K m2 S1 = some S9 → XH D cy s00 shRead ad S1 A s H locs → lv_has ls 3 [(0, .ref (ad 0)), (1, .int u1), (2, .int m2)] → W p l e (xrm 0) s m args below meth c H locs 0 0 (MQ below (xqv D cy shRead ad S9 A) args s 0 0 A) (F0 m 46 ls [])) :
    ∀ (n : Nat) (m2 : Int32) (S : XS) (H : Heap) (locs : List Loc) (ls : Array Slot), f_X4_putFour_L3 K u1 n m2 S = some S9 → XH D cy s00 shRead ad S A s H locs → lv_has ls 3 [(0, .ref (ad 0)), (1, .int u1), (2, .int m2)] → W p l e (xrm 0) s m args below meth c H locs 0 0 (MQ below (xqv D cy shRead ad S9 A) args s 0 0 A) (F0 m 3 ls []) := by
  intro n
  induction n with
  | zero => intro m2 S H locs ls hf; cases hf
  | succ n ih =>
    intro m2 S H locs ls hf h hl
    rw [f_X4_putFour_L3] at hf
    refine lv_iload_n E.1 E.2.1 dX4_putFour_3 rfl (lv_at hl 2 rfl) ?_
    refine x_br hf (lv_if_lt (tgt := 46) E.1 E.2.1 dX4_putFour_4 (by decide)) (fun hf => ?_) (fun hf => ?_)
    · exact hk _ _ _ _ _ hf h (lv_sub hl [0, 1, 2] rfl)
    · refine lv_aload_n E.1 E.2.1 dX4_putFour_7 rfl (lv_at hl 0 rfl) ?_
      refine x_get E h 0 1 rfl rfl rfl (by decide) xinX4 kw287 dX4_putFour_8 ?_
      refine lv_sipush (v := 600) E.1 E.2.1 dX4_putFour_11 (by decide) ?_
      refine x_br hf (lv_icmp_ge (tgt := 46) E.1 E.2.1 dX4_putFour_14 (by decide)) (fun hf => ?_) (fun hf => ?_)
      · exact hk _ _ _ _ _ hf h (lv_sub hl [0, 1, 2] rfl)
      · refine lv_aload_n E.1 E.2.1 dX4_putFour_17 rfl (lv_at hl 0 rfl) ?_
        refine x_getr E h 0 0 1 rfl rfl rfl (by decide) xinX4 kw286 dX4_putFour_18 ?_
        refine lv_aload_n E.1 E.2.1 dX4_putFour_21 rfl (lv_at hl 0 rfl) ?_
        refine x_get E h 0 1 rfl rfl rfl (by decide) xinX4 kw287 dX4_putFour_22 ?_
        refine lv_iload_n E.1 E.2.1 dX4_putFour_25 rfl (lv_at hl 1 rfl) ?_
        refine lv_iload_n E.1 E.2.1 dX4_putFour_26 rfl (lv_at hl 2 rfl) ?_
        refine lv_ishr E.1 E.2.1 dX4_putFour_27 ?_
        refine lv_i2b E.1 E.2.1 dX4_putFour_28 rfl ?_
        refine x_bast E h 1 hf rfl dX4_putFour_29 (fun S1 H locs hf h => ?_)
        refine lv_aload_n E.1 E.2.1 dX4_putFour_30 rfl (lv_at hl 0 rfl) ?_
        refine lv_dup E.1 E.2.1 dX4_putFour_31 rfl ?_
        refine x_get E h 0 1 rfl rfl rfl (by decide) xinX4 kw287 dX4_putFour_32 ?_
        refine lv_iconst (v := 1) E.1 E.2.1 dX4_putFour_35 (by decide) ?_
        refine lv_iadd E.1 E.2.1 dX4_putFour_36 ?_
        refine x_put (ty := .int) E h 0 1 hf rfl rfl rfl (by decide) xinX4 tyX4_ok nmX4 kw287 rfl (by decide +kernel) rfl rfl dX4_putFour_37 (fun S3 H locs hf h => ?_)
        refine x_nv hf (fun v4 e9 hf => ?_)
        refine lv_iinc (v := v4) (lv' := [(2, .int v4), (0, .ref (ad 0)), (1, .int u1)]) E.1 E.2.1 dX4_putFour_40 hl (k := 2) rfl (by rw [e9]; rfl) (by decide) rfl (fun ls hl => ?_)
        refine lv_goto (tgt := 3) E.1 E.2.1 dX4_putFour_43 (by decide) ?_
        exact ih _ _ _ _ _ hf h (lv_sub hl [1, 2, 0] rfl)
set_option maxHeartbeats 4000000 in
set_option maxRecDepth 100000 in
theorem c_X4_putFour (l : Launch) (D : va_G) (cy : Nat → ClassId) (s00 : State) (ad : Nat → Nat) (S : XS) (p0 : Int32) (S9 : XS) (hf : f_X4_putFour S p0 = some S9) : XV l yX4_putFour cX4_putFour 3 none 0 D cy s00 shRead ad S [.ref (ad 0), .int p0] S9 := by
  refine XV.of (by decide) [(0, .ref (ad 0)), (1, .int p0)] rfl (Nat.le_of_ble_eq_true rfl) (fun p e s m args below meth c A ls E h hl => ?_)
  unfold f_X4_putFour at hf
  refine lv_bipush (v := 24) E.1 E.2.1 dX4_putFour_0 (by decide) ?_
  refine lv_istore_n (lv' := [(2, .int 24), (0, .ref (ad 0)), (1, .int p0)]) E.1 E.2.1 dX4_putFour_2 rfl hl (by decide) rfl (fun ls hl => ?_)
  refine w_X4_putFour_L3 E ?_ _ _ _ _ _ _ hf h (lv_sub hl [1, 2, 0] rfl)
  intro v5 S6 H locs ls hf h hl
  exact x_vret E h hf dX4_putFour_46
def f_X4_kindOf (S : XS) (p0 : Int32) : Option (Int32) := (if p0 < 97 then (if p0 < 48 then (if p0 = 40 then some 3 else (if p0 = 41 then some 4 else (if p0 = 59 then some 5 else some 6))) else (if 57 < p0 then (if p0 = 40 then some 3 else (if p0 = 41 then some 4 else (if p0 = 59 then some 5 else some 6))) else some 2)) else (if 122 < p0 then (if p0 < 48 then (if p0 = 40 then some 3 else (if p0 = 41 then some 4 else (if p0 = 59 then some 5 else some 6))) else (if 57 < p0 then (if p0 = 40 then some 3 else (if p0 = 41 then some 4 else (if p0 = 59 then some 5 else some 6))) else some 2)) else some 1))
set_option maxHeartbeats 4000000 in
set_option maxRecDepth 100000 in
theorem c_X4_kindOf (l : Launch) (D : va_G) (cy : Nat → ClassId) (s00 : State) (ad : Nat → Nat) (S : XS) (p0 : Int32) (r9 : Int32) (hf : f_X4_kindOf S p0 = some r9) : XI l yX4_kindOf cX4_kindOf 2 (some .int) 0 D cy s00 shRead ad S [.ref (ad 0), .int p0] r9 S := by
  refine XI.of (by decide) [(0, .ref (ad 0)), (1, .int p0)] rfl (Nat.le_of_ble_eq_true rfl) (fun p e s m args below meth c A ls E h hl => ?_)
  unfold f_X4_kindOf at hf
  refine lv_iload_n E.1 E.2.1 dX4_kindOf_0 rfl (lv_at hl 1 rfl) ?_
  refine lv_bipush (v := 97) E.1 E.2.1 dX4_kindOf_1 (by decide) ?_
  refine x_br hf (lv_icmp_lt (tgt := 14) E.1 E.2.1 dX4_kindOf_3 (by decide)) (fun hf => ?_) (fun hf => ?_)
  · refine lv_iload_n E.1 E.2.1 dX4_kindOf_14 rfl (lv_at hl 1 rfl) ?_
    refine lv_bipush (v := 48) E.1 E.2.1 dX4_kindOf_15 (by decide) ?_
    refine x_br hf (lv_icmp_lt (tgt := 28) E.1 E.2.1 dX4_kindOf_17 (by decide)) (fun hf => ?_) (fun hf => ?_)
    · refine lv_iload_n E.1 E.2.1 dX4_kindOf_28 rfl (lv_at hl 1 rfl) ?_
      refine lv_bipush (v := 40) E.1 E.2.1 dX4_kindOf_29 (by decide) ?_
      refine x_brn hf (lv_icmp_ne (tgt := 36) E.1 E.2.1 dX4_kindOf_31 (by decide)) (fun hf => ?_) (fun hf => ?_)
      · refine lv_iload_n E.1 E.2.1 dX4_kindOf_36 rfl (lv_at hl 1 rfl) ?_
        refine lv_bipush (v := 41) E.1 E.2.1 dX4_kindOf_37 (by decide) ?_
        refine x_brn hf (lv_icmp_ne (tgt := 44) E.1 E.2.1 dX4_kindOf_39 (by decide)) (fun hf => ?_) (fun hf => ?_)
        · refine lv_iload_n E.1 E.2.1 dX4_kindOf_44 rfl (lv_at hl 1 rfl) ?_
          refine lv_bipush (v := 59) E.1 E.2.1 dX4_kindOf_45 (by decide) ?_
          refine x_brn hf (lv_icmp_ne (tgt := 54) E.1 E.2.1 dX4_kindOf_47 (by decide)) (fun hf => ?_) (fun hf => ?_)
          · refine lv_bipush (v := 6) E.1 E.2.1 dX4_kindOf_54 (by decide) ?_
            exact x_irp E h hf dX4_kindOf_56
          · refine lv_iconst (v := 5) E.1 E.2.1 dX4_kindOf_50 (by decide) ?_
            refine lv_goto (tgt := 56) E.1 E.2.1 dX4_kindOf_51 (by decide) ?_
            exact x_irp E h hf dX4_kindOf_56
        · refine lv_iconst (v := 4) E.1 E.2.1 dX4_kindOf_42 (by decide) ?_
          exact x_irp E h hf dX4_kindOf_43
      · refine lv_iconst (v := 3) E.1 E.2.1 dX4_kindOf_34 (by decide) ?_
        exact x_irp E h hf dX4_kindOf_35
    · refine lv_iload_n E.1 E.2.1 dX4_kindOf_20 rfl (lv_at hl 1 rfl) ?_
      refine lv_bipush (v := 57) E.1 E.2.1 dX4_kindOf_21 (by decide) ?_
      refine x_br hf (lv_icmp_gt (tgt := 28) E.1 E.2.1 dX4_kindOf_23 (by decide)) (fun hf => ?_) (fun hf => ?_)
      · refine lv_iload_n E.1 E.2.1 dX4_kindOf_28 rfl (lv_at hl 1 rfl) ?_
        refine lv_bipush (v := 40) E.1 E.2.1 dX4_kindOf_29 (by decide) ?_
        refine x_brn hf (lv_icmp_ne (tgt := 36) E.1 E.2.1 dX4_kindOf_31 (by decide)) (fun hf => ?_) (fun hf => ?_)
        · refine lv_iload_n E.1 E.2.1 dX4_kindOf_36 rfl (lv_at hl 1 rfl) ?_
          refine lv_bipush (v := 41) E.1 E.2.1 dX4_kindOf_37 (by decide) ?_
          refine x_brn hf (lv_icmp_ne (tgt := 44) E.1 E.2.1 dX4_kindOf_39 (by decide)) (fun hf => ?_) (fun hf => ?_)
          · refine lv_iload_n E.1 E.2.1 dX4_kindOf_44 rfl (lv_at hl 1 rfl) ?_
            refine lv_bipush (v := 59) E.1 E.2.1 dX4_kindOf_45 (by decide) ?_
            refine x_brn hf (lv_icmp_ne (tgt := 54) E.1 E.2.1 dX4_kindOf_47 (by decide)) (fun hf => ?_) (fun hf => ?_)
            · refine lv_bipush (v := 6) E.1 E.2.1 dX4_kindOf_54 (by decide) ?_
              exact x_irp E h hf dX4_kindOf_56
            · refine lv_iconst (v := 5) E.1 E.2.1 dX4_kindOf_50 (by decide) ?_
              refine lv_goto (tgt := 56) E.1 E.2.1 dX4_kindOf_51 (by decide) ?_
              exact x_irp E h hf dX4_kindOf_56
          · refine lv_iconst (v := 4) E.1 E.2.1 dX4_kindOf_42 (by decide) ?_
            exact x_irp E h hf dX4_kindOf_43
        · refine lv_iconst (v := 3) E.1 E.2.1 dX4_kindOf_34 (by decide) ?_
          exact x_irp E h hf dX4_kindOf_35
      · refine lv_iconst (v := 2) E.1 E.2.1 dX4_kindOf_26 (by decide) ?_
        exact x_irp E h hf dX4_kindOf_27
  · refine lv_iload_n E.1 E.2.1 dX4_kindOf_6 rfl (lv_at hl 1 rfl) ?_
    refine lv_bipush (v := 122) E.1 E.2.1 dX4_kindOf_7 (by decide) ?_
    refine x_br hf (lv_icmp_gt (tgt := 14) E.1 E.2.1 dX4_kindOf_9 (by decide)) (fun hf => ?_) (fun hf => ?_)
    · refine lv_iload_n E.1 E.2.1 dX4_kindOf_14 rfl (lv_at hl 1 rfl) ?_
      refine lv_bipush (v := 48) E.1 E.2.1 dX4_kindOf_15 (by decide) ?_
      refine x_br hf (lv_icmp_lt (tgt := 28) E.1 E.2.1 dX4_kindOf_17 (by decide)) (fun hf => ?_) (fun hf => ?_)
      · refine lv_iload_n E.1 E.2.1 dX4_kindOf_28 rfl (lv_at hl 1 rfl) ?_
        refine lv_bipush (v := 40) E.1 E.2.1 dX4_kindOf_29 (by decide) ?_
        refine x_brn hf (lv_icmp_ne (tgt := 36) E.1 E.2.1 dX4_kindOf_31 (by decide)) (fun hf => ?_) (fun hf => ?_)
        · refine lv_iload_n E.1 E.2.1 dX4_kindOf_36 rfl (lv_at hl 1 rfl) ?_
          refine lv_bipush (v := 41) E.1 E.2.1 dX4_kindOf_37 (by decide) ?_
          refine x_brn hf (lv_icmp_ne (tgt := 44) E.1 E.2.1 dX4_kindOf_39 (by decide)) (fun hf => ?_) (fun hf => ?_)
          · refine lv_iload_n E.1 E.2.1 dX4_kindOf_44 rfl (lv_at hl 1 rfl) ?_
            refine lv_bipush (v := 59) E.1 E.2.1 dX4_kindOf_45 (by decide) ?_
            refine x_brn hf (lv_icmp_ne (tgt := 54) E.1 E.2.1 dX4_kindOf_47 (by decide)) (fun hf => ?_) (fun hf => ?_)
            · refine lv_bipush (v := 6) E.1 E.2.1 dX4_kindOf_54 (by decide) ?_
              exact x_irp E h hf dX4_kindOf_56
            · refine lv_iconst (v := 5) E.1 E.2.1 dX4_kindOf_50 (by decide) ?_
              refine lv_goto (tgt := 56) E.1 E.2.1 dX4_kindOf_51 (by decide) ?_
              exact x_irp E h hf dX4_kindOf_56
          · refine lv_iconst (v := 4) E.1 E.2.1 dX4_kindOf_42 (by decide) ?_
            exact x_irp E h hf dX4_kindOf_43
        · refine lv_iconst (v := 3) E.1 E.2.1 dX4_kindOf_34 (by decide) ?_
          exact x_irp E h hf dX4_kindOf_35
      · refine lv_iload_n E.1 E.2.1 dX4_kindOf_20 rfl (lv_at hl 1 rfl) ?_
        refine lv_bipush (v := 57) E.1 E.2.1 dX4_kindOf_21 (by decide) ?_
        refine x_br hf (lv_icmp_gt (tgt := 28) E.1 E.2.1 dX4_kindOf_23 (by decide)) (fun hf => ?_) (fun hf => ?_)
        · refine lv_iload_n E.1 E.2.1 dX4_kindOf_28 rfl (lv_at hl 1 rfl) ?_
          refine lv_bipush (v := 40) E.1 E.2.1 dX4_kindOf_29 (by decide) ?_
          refine x_brn hf (lv_icmp_ne (tgt := 36) E.1 E.2.1 dX4_kindOf_31 (by decide)) (fun hf => ?_) (fun hf => ?_)
          · refine lv_iload_n E.1 E.2.1 dX4_kindOf_36 rfl (lv_at hl 1 rfl) ?_
            refine lv_bipush (v := 41) E.1 E.2.1 dX4_kindOf_37 (by decide) ?_
            refine x_brn hf (lv_icmp_ne (tgt := 44) E.1 E.2.1 dX4_kindOf_39 (by decide)) (fun hf => ?_) (fun hf => ?_)
            · refine lv_iload_n E.1 E.2.1 dX4_kindOf_44 rfl (lv_at hl 1 rfl) ?_
              refine lv_bipush (v := 59) E.1 E.2.1 dX4_kindOf_45 (by decide) ?_
              refine x_brn hf (lv_icmp_ne (tgt := 54) E.1 E.2.1 dX4_kindOf_47 (by decide)) (fun hf => ?_) (fun hf => ?_)
              · refine lv_bipush (v := 6) E.1 E.2.1 dX4_kindOf_54 (by decide) ?_
                exact x_irp E h hf dX4_kindOf_56
              · refine lv_iconst (v := 5) E.1 E.2.1 dX4_kindOf_50 (by decide) ?_
                refine lv_goto (tgt := 56) E.1 E.2.1 dX4_kindOf_51 (by decide) ?_
                exact x_irp E h hf dX4_kindOf_56
            · refine lv_iconst (v := 4) E.1 E.2.1 dX4_kindOf_42 (by decide) ?_
              exact x_irp E h hf dX4_kindOf_43
          · refine lv_iconst (v := 3) E.1 E.2.1 dX4_kindOf_34 (by decide) ?_
            exact x_irp E h hf dX4_kindOf_35
        · refine lv_iconst (v := 2) E.1 E.2.1 dX4_kindOf_26 (by decide) ?_
          exact x_irp E h hf dX4_kindOf_27
    · refine lv_iconst (v := 1) E.1 E.2.1 dX4_kindOf_12 (by decide) ?_
      exact x_irp E h hf dX4_kindOf_13
def f_X4_readNumber_L30 (K : Int32 → XS → Option (XS)) : Nat → Int32 → XS → Option (XS)
  | 0, _, _ => none
  | n + 1, m1, S => (if (S 0 2) ≤ m1 then K m1 S else ((xrd m1 600 (S 1)).bind fun v3 => (xlet (xput S 0 5 ((((S 0 5) * 10) + v3) - 48)) fun S4 => (xlet (m1 + 1) fun v5 => f_X4_readNumber_L30 K n v5 S4))))
def f_X4_readNumber (S : XS) : Option (XS) := (if ((S 0 2) - (S 0 4)) ≤ 3 then (xlet (xput S 0 5 0) fun S1 => (xlet (S1 0 4) fun v2 => (f_X4_readNumber_L30 (fun v6 S7 => some S7) FU v2 S1))) else (xlet (xput S 0 3 6) fun S8 => some S8))
set_option maxHeartbeats 4000000 in
set_option maxRecDepth 100000 in
theorem w_X4_readNumber_L30 {p : Program} {l : Launch} {e : Env} {s : State} {m : MethodId} {args : Array Value} {below : List Frame} {meth : Method} {c : Code} {D : va_G} {cy : Nat → ClassId} {s00 : State} {ad : Nat → Nat} {A : Nat → Prop} {S9 : XS}  {K : Int32 → XS → Option (XS)} (E : XE p s m args meth c cX4_readNumber 2 RX4 none D cy s00) (hk : ∀ (m1 : Int32) (S1 : XS) (H : Heap) (locs : List Loc) (ls : Array Slot), K m1 S1 = some S9 → XH D cy s00 shRead ad S1 A s H locs → lv_has ls 2 [(0, .ref (ad 0)), (1, .int m1)] → W p l e (xrm 0) s m args below meth c H locs 0 0 (MQ below (xqv D cy shRead ad S9 A) args s 0 0 A) (F0 m 65 ls [])) :
    ∀ (n : Nat) (m1 : Int32) (S : XS) (H : Heap) (locs : List Loc) (ls : Array Slot), f_X4_readNumber_L30 K n m1 S = some S9 → XH D cy s00 shRead ad S A s H locs → lv_has ls 2 [(0, .ref (ad 0)), (1, .int m1)] → W p l e (xrm 0) s m args below meth c H locs 0 0 (MQ below (xqv D cy shRead ad S9 A) args s 0 0 A) (F0 m 30 ls []) := by
  intro n
  induction n with
  | zero => intro m1 S H locs ls hf; cases hf
  | succ n ih =>
    intro m1 S H locs ls hf h hl
    rw [f_X4_readNumber_L30] at hf
    refine lv_iload_n E.1 E.2.1 dX4_readNumber_30 rfl (lv_at hl 1 rfl) ?_
    refine lv_aload_n E.1 E.2.1 dX4_readNumber_31 rfl (lv_at hl 0 rfl) ?_
    refine x_get E h 0 2 rfl rfl rfl (by decide) xinX4 kw289 dX4_readNumber_32 ?_
    refine x_br hf (lv_icmp_ge (tgt := 65) E.1 E.2.1 dX4_readNumber_35 (by decide)) (fun hf => ?_) (fun hf => ?_)
    · exact hk _ _ _ _ _ hf h (lv_sub hl [0, 1] rfl)
    · refine lv_aload_n E.1 E.2.1 dX4_readNumber_38 rfl (lv_at hl 0 rfl) ?_
      refine lv_aload_n E.1 E.2.1 dX4_readNumber_39 rfl (lv_at hl 0 rfl) ?_
      refine x_get E h 0 5 rfl rfl rfl (by decide) xinX4 kw295 dX4_readNumber_40 ?_
      refine lv_bipush (v := 10) E.1 E.2.1 dX4_readNumber_43 (by decide) ?_
      refine lv_imul E.1 E.2.1 dX4_readNumber_45 ?_
      refine lv_aload_n E.1 E.2.1 dX4_readNumber_46 rfl (lv_at hl 0 rfl) ?_
      refine x_getr E h 0 0 1 rfl rfl rfl (by decide) xinX4 kw286 dX4_readNumber_47 ?_
      refine lv_iload_n E.1 E.2.1 dX4_readNumber_50 rfl (lv_at hl 1 rfl) ?_
      refine x_bald E h 1 hf rfl dX4_readNumber_51 (fun v3 hf => ?_)
      refine lv_iadd E.1 E.2.1 dX4_readNumber_52 ?_
      refine lv_bipush (v := 48) E.1 E.2.1 dX4_readNumber_53 (by decide) ?_
      refine lv_isub E.1 E.2.1 dX4_readNumber_55 ?_
      refine x_put (ty := .int) E h 0 5 hf rfl rfl rfl (by decide) xinX4 tyX4_ok nmX4 kw295 rfl (by decide +kernel) rfl rfl dX4_readNumber_56 (fun S4 H locs hf h => ?_)
      refine x_nv hf (fun v5 e9 hf => ?_)
      refine lv_iinc (v := v5) (lv' := [(1, .int v5), (0, .ref (ad 0))]) E.1 E.2.1 dX4_readNumber_59 hl (k := 1) rfl (by rw [e9]; rfl) (by decide) rfl (fun ls hl => ?_)
      refine lv_goto (tgt := 30) E.1 E.2.1 dX4_readNumber_62 (by decide) ?_
      exact ih _ _ _ _ _ hf h (lv_sub hl [1, 0] rfl)
set_option maxHeartbeats 4000000 in
set_option maxRecDepth 100000 in
theorem c_X4_readNumber (l : Launch) (D : va_G) (cy : Nat → ClassId) (s00 : State) (ad : Nat → Nat) (S : XS) (S9 : XS) (hf : f_X4_readNumber S = some S9) : XV l yX4_readNumber cX4_readNumber 2 none 0 D cy s00 shRead ad S [.ref (ad 0)] S9 := by
  refine XV.of (by decide) [(0, .ref (ad 0))] rfl (Nat.le_of_ble_eq_true rfl) (fun p e s m args below meth c A ls E h hl => ?_)
  unfold f_X4_readNumber at hf
  refine lv_aload_n E.1 E.2.1 dX4_readNumber_0 rfl (lv_at hl 0 rfl) ?_
  refine x_get E h 0 2 rfl rfl rfl (by decide) xinX4 kw289 dX4_readNumber_1 ?_
  refine lv_aload_n E.1 E.2.1 dX4_readNumber_4 rfl (lv_at hl 0 rfl) ?_
  refine x_get E h 0 4 rfl rfl rfl (by decide) xinX4 kw293 dX4_readNumber_5 ?_
  refine lv_isub E.1 E.2.1 dX4_readNumber_8 ?_
  refine lv_iconst (v := 3) E.1 E.2.1 dX4_readNumber_9 (by decide) ?_
  refine x_br hf (lv_icmp_le (tgt := 20) E.1 E.2.1 dX4_readNumber_10 (by decide)) (fun hf => ?_) (fun hf => ?_)
  · refine lv_aload_n E.1 E.2.1 dX4_readNumber_20 rfl (lv_at hl 0 rfl) ?_
    refine lv_iconst (v := 0) E.1 E.2.1 dX4_readNumber_21 (by decide) ?_
    refine x_put (ty := .int) E h 0 5 hf rfl rfl rfl (by decide) xinX4 tyX4_ok nmX4 kw295 rfl (by decide +kernel) rfl rfl dX4_readNumber_22 (fun S1 H locs hf h => ?_)
    refine lv_aload_n E.1 E.2.1 dX4_readNumber_25 rfl (lv_at hl 0 rfl) ?_
    refine x_get E h 0 4 rfl rfl rfl (by decide) xinX4 kw293 dX4_readNumber_26 ?_
    refine x_nm hf (fun v2 hf => ?_)
    refine lv_istore_n (lv' := [(1, .int v2), (0, .ref (ad 0))]) E.1 E.2.1 dX4_readNumber_29 rfl hl (by decide) rfl (fun ls hl => ?_)
    refine w_X4_readNumber_L30 E ?_ _ _ _ _ _ _ hf h (lv_sub hl [1, 0] rfl)
    intro v6 S7 H locs ls hf h hl
    exact x_vret E h hf dX4_readNumber_65
  · refine lv_aload_n E.1 E.2.1 dX4_readNumber_13 rfl (lv_at hl 0 rfl) ?_
    refine lv_bipush (v := 6) E.1 E.2.1 dX4_readNumber_14 (by decide) ?_
    refine x_put (ty := .int) E h 0 3 hf rfl rfl rfl (by decide) xinX4 tyX4_ok nmX4 kw291 rfl (by decide +kernel) rfl rfl dX4_readNumber_16 (fun S8 H locs hf h => ?_)
    exact x_vret E h hf dX4_readNumber_19
def f_X4_next_L0 (K : XS → Option (XS)) : Nat → XS → Option (XS)
  | 0, _ => none
  | n + 1, S => (if (S 0 1) ≤ (S 0 2) then K S else ((xrd (S 0 2) 600 (S 1)).bind fun v1 => (if v1 = 32 then (xlet (xput S 0 2 ((S 0 2) + 1)) fun S2 => f_X4_next_L0 K n S2) else ((xrd (S 0 2) 600 (S 1)).bind fun v3 => (if v3 = 10 then (xlet (xput S 0 2 ((S 0 2) + 1)) fun S4 => f_X4_next_L0 K n S4) else K S)))))
def f_X4_next_L119 (K : XS → Option (XS)) : Nat → XS → Option (XS)
  | 0, _ => none
  | n + 1, S => (if (S 0 1) ≤ (S 0 2) then K S else ((xrd (S 0 2) 600 (S 1)).bind fun v8 => ((f_X4_kindOf S v8).bind fun v9 => (if v9 = (S 0 3) then (xlet (xput S 0 2 ((S 0 2) + 1)) fun S10 => f_X4_next_L119 K n S10) else K S))))
def f_X4_next (S : XS) : Option (XS) := (f_X4_next_L0 (fun S5 => (xlet (xput S5 0 4 (S5 0 2)) fun S6 => (xlet (xput S6 0 3 0) fun S7 => (if (S7 0 1) ≤ (S7 0 2) then (if (S7 0 3) = 1 then (f_X4_next_L119 (fun S11 => (if (S11 0 3) = 2 then ((f_X4_readNumber S11).bind fun S12 => some S12) else some S11)) FU S7) else (if (S7 0 3) = 2 then (f_X4_next_L119 (fun S14 => (if (S14 0 3) = 2 then ((f_X4_readNumber S14).bind fun S15 => some S15) else some S14)) FU S7) else (if (S7 0 3) = 2 then ((f_X4_readNumber S7).bind fun S13 => some S13) else some S7))) else ((xrd (S7 0 2) 600 (S7 1)).bind fun v16 => ((f_X4_kindOf S7 v16).bind fun v17 => (xlet (xput S7 0 3 v17) fun S18 => (xlet (xput S18 0 2 ((S18 0 2) + 1)) fun S19 => (if (S19 0 3) = 1 then (f_X4_next_L119 (fun S20 => (if (S20 0 3) = 2 then ((f_X4_readNumber S20).bind fun S21 => some S21) else some S20)) FU S19) else (if (S19 0 3) = 2 then (f_X4_next_L119 (fun S23 => (if (S23 0 3) = 2 then ((f_X4_readNumber S23).bind fun S24 => some S24) else some S23)) FU S19) else (if (S19 0 3) = 2 then ((f_X4_readNumber S19).bind fun S22 => some S22) else some S19))))))))))) FU S)
set_option maxHeartbeats 4000000 in
set_option maxRecDepth 100000 in
theorem w_X4_next_L0 {p : Program} {l : Launch} {e : Env} {s : State} {m : MethodId} {args : Array Value} {below : List Frame} {meth : Method} {c : Code} {D : va_G} {cy : Nat → ClassId} {s00 : State} {ad : Nat → Nat} {A : Nat → Prop} {S9 : XS}  {K : XS → Option (XS)} (E : XE p s m args meth c cX4_next 1 RX4 none D cy s00) (hk : ∀ (S1 : XS) (H : Heap) (locs : List Loc) (ls : Array Slot), K S1 = some S9 → XH D cy s00 shRead ad S1 A s H locs → lv_has ls 1 [(0, .ref (ad 0))] → W p l e (xrm 1) s m args below meth c H locs 0 0 (MQ below (xqv D cy shRead ad S9 A) args s 0 0 A) (F0 m 52 ls [])) :
    ∀ (n : Nat) (S : XS) (H : Heap) (locs : List Loc) (ls : Array Slot), f_X4_next_L0 K n S = some S9 → XH D cy s00 shRead ad S A s H locs → lv_has ls 1 [(0, .ref (ad 0))] → W p l e (xrm 1) s m args below meth c H locs 0 0 (MQ below (xqv D cy shRead ad S9 A) args s 0 0 A) (F0 m 0 ls []) := by
  intro n
  induction n with
  | zero => intro S H locs ls hf; cases hf
  | succ n ih =>
    intro S H locs ls hf h hl
    rw [f_X4_next_L0] at hf
    refine lv_aload_n E.1 E.2.1 dX4_next_0 rfl (lv_at hl 0 rfl) ?_
    refine x_get E h 0 2 rfl rfl rfl (by decide) xinX4 kw289 dX4_next_1 ?_
    refine lv_aload_n E.1 E.2.1 dX4_next_4 rfl (lv_at hl 0 rfl) ?_
    refine x_get E h 0 1 rfl rfl rfl (by decide) xinX4 kw287 dX4_next_5 ?_
    refine x_br hf (lv_icmp_ge (tgt := 52) E.1 E.2.1 dX4_next_8 (by decide)) (fun hf => ?_) (fun hf => ?_)
    · exact hk _ _ _ _ hf h (lv_sub hl [0] rfl)
    · refine lv_aload_n E.1 E.2.1 dX4_next_11 rfl (lv_at hl 0 rfl) ?_
      refine x_getr E h 0 0 1 rfl rfl rfl (by decide) xinX4 kw286 dX4_next_12 ?_
      refine lv_aload_n E.1 E.2.1 dX4_next_15 rfl (lv_at hl 0 rfl) ?_
      refine x_get E h 0 2 rfl rfl rfl (by decide) xinX4 kw289 dX4_next_16 ?_
      refine x_bald E h 1 hf rfl dX4_next_19 (fun v1 hf => ?_)
      refine lv_bipush (v := 32) E.1 E.2.1 dX4_next_20 (by decide) ?_
      refine x_br hf (lv_icmp_eq (tgt := 39) E.1 E.2.1 dX4_next_22 (by decide)) (fun hf => ?_) (fun hf => ?_)
      · refine lv_aload_n E.1 E.2.1 dX4_next_39 rfl (lv_at hl 0 rfl) ?_
        refine lv_dup E.1 E.2.1 dX4_next_40 rfl ?_
        refine x_get E h 0 2 rfl rfl rfl (by decide) xinX4 kw289 dX4_next_41 ?_
        refine lv_iconst (v := 1) E.1 E.2.1 dX4_next_44 (by decide) ?_
        refine lv_iadd E.1 E.2.1 dX4_next_45 ?_
        refine x_put (ty := .int) E h 0 2 hf rfl rfl rfl (by decide) xinX4 tyX4_ok nmX4 kw289 rfl (by decide +kernel) rfl rfl dX4_next_46 (fun S2 H locs hf h => ?_)
        refine lv_goto (tgt := 0) E.1 E.2.1 dX4_next_49 (by decide) ?_
        exact ih _ _ _ _ hf h (lv_sub hl [0] rfl)
      · refine lv_aload_n E.1 E.2.1 dX4_next_25 rfl (lv_at hl 0 rfl) ?_
        refine x_getr E h 0 0 1 rfl rfl rfl (by decide) xinX4 kw286 dX4_next_26 ?_
        refine lv_aload_n E.1 E.2.1 dX4_next_29 rfl (lv_at hl 0 rfl) ?_
        refine x_get E h 0 2 rfl rfl rfl (by decide) xinX4 kw289 dX4_next_30 ?_
        refine x_bald E h 1 hf rfl dX4_next_33 (fun v3 hf => ?_)
        refine lv_bipush (v := 10) E.1 E.2.1 dX4_next_34 (by decide) ?_
        refine x_brn hf (lv_icmp_ne (tgt := 52) E.1 E.2.1 dX4_next_36 (by decide)) (fun hf => ?_) (fun hf => ?_)
        · exact hk _ _ _ _ hf h (lv_sub hl [0] rfl)
        · refine lv_aload_n E.1 E.2.1 dX4_next_39 rfl (lv_at hl 0 rfl) ?_
          refine lv_dup E.1 E.2.1 dX4_next_40 rfl ?_
          refine x_get E h 0 2 rfl rfl rfl (by decide) xinX4 kw289 dX4_next_41 ?_
          refine lv_iconst (v := 1) E.1 E.2.1 dX4_next_44 (by decide) ?_
          refine lv_iadd E.1 E.2.1 dX4_next_45 ?_
          refine x_put (ty := .int) E h 0 2 hf rfl rfl rfl (by decide) xinX4 tyX4_ok nmX4 kw289 rfl (by decide +kernel) rfl rfl dX4_next_46 (fun S4 H locs hf h => ?_)
          refine lv_goto (tgt := 0) E.1 E.2.1 dX4_next_49 (by decide) ?_
          exact ih _ _ _ _ hf h (lv_sub hl [0] rfl)
set_option maxHeartbeats 4000000 in
set_option maxRecDepth 100000 in
theorem w_X4_next_L119 {p : Program} {l : Launch} {e : Env} {s : State} {m : MethodId} {args : Array Value} {below : List Frame} {meth : Method} {c : Code} {D : va_G} {cy : Nat → ClassId} {s00 : State} {ad : Nat → Nat} {A : Nat → Prop} {S9 : XS}  {K : XS → Option (XS)} (E : XE p s m args meth c cX4_next 1 RX4 none D cy s00) (hk : ∀ (S1 : XS) (H : Heap) (locs : List Loc) (ls : Array Slot), K S1 = some S9 → XH D cy s00 shRead ad S1 A s H locs → lv_has ls 1 [(0, .ref (ad 0))] → W p l e (xrm 1) s m args below meth c H locs 0 0 (MQ below (xqv D cy shRead ad S9 A) args s 0 0 A) (F0 m 163 ls [])) :
    ∀ (n : Nat) (S : XS) (H : Heap) (locs : List Loc) (ls : Array Slot), f_X4_next_L119 K n S = some S9 → XH D cy s00 shRead ad S A s H locs → lv_has ls 1 [(0, .ref (ad 0))] → W p l e (xrm 1) s m args below meth c H locs 0 0 (MQ below (xqv D cy shRead ad S9 A) args s 0 0 A) (F0 m 119 ls []) := by
  intro n
  induction n with
  | zero => intro S H locs ls hf; cases hf
  | succ n ih =>
    intro S H locs ls hf h hl
    rw [f_X4_next_L119] at hf
    refine lv_aload_n E.1 E.2.1 dX4_next_119 rfl (lv_at hl 0 rfl) ?_
    refine x_get E h 0 2 rfl rfl rfl (by decide) xinX4 kw289 dX4_next_120 ?_
    refine lv_aload_n E.1 E.2.1 dX4_next_123 rfl (lv_at hl 0 rfl) ?_
    refine x_get E h 0 1 rfl rfl rfl (by decide) xinX4 kw287 dX4_next_124 ?_
    refine x_br hf (lv_icmp_ge (tgt := 163) E.1 E.2.1 dX4_next_127 (by decide)) (fun hf => ?_) (fun hf => ?_)
    · exact hk _ _ _ _ hf h (lv_sub hl [0] rfl)
    · refine lv_aload_n E.1 E.2.1 dX4_next_130 rfl (lv_at hl 0 rfl) ?_
      refine lv_aload_n E.1 E.2.1 dX4_next_131 rfl (lv_at hl 0 rfl) ?_
      refine x_getr E h 0 0 1 rfl rfl rfl (by decide) xinX4 kw286 dX4_next_132 ?_
      refine lv_aload_n E.1 E.2.1 dX4_next_135 rfl (lv_at hl 0 rfl) ?_
      refine x_get E h 0 2 rfl rfl rfl (by decide) xinX4 kw289 dX4_next_136 ?_
      refine x_bald E h 1 hf rfl dX4_next_139 (fun v8 hf => ?_)
      refine x_callp E h hl 0 hf (fun r0 hr => c_X4_kindOf l D cy s00 _ S v8 r0 hr) m_X4_kindOf rfl rfl kw490 rfl rfl (Nat.le_of_ble_eq_true rfl) ⟨by decide, by decide⟩ ⟨Nat.zero_le _, Nat.zero_le _⟩ dX4_next_140 (fun v9 H locs hf h => ?_)
      refine lv_aload_n E.1 E.2.1 dX4_next_143 rfl (lv_at hl 0 rfl) ?_
      refine x_get E h 0 3 rfl rfl rfl (by decide) xinX4 kw291 dX4_next_144 ?_
      refine x_brn hf (lv_icmp_ne (tgt := 163) E.1 E.2.1 dX4_next_147 (by decide)) (fun hf => ?_) (fun hf => ?_)
      · exact hk _ _ _ _ hf h (lv_sub hl [0] rfl)
      · refine lv_aload_n E.1 E.2.1 dX4_next_150 rfl (lv_at hl 0 rfl) ?_
        refine lv_dup E.1 E.2.1 dX4_next_151 rfl ?_
        refine x_get E h 0 2 rfl rfl rfl (by decide) xinX4 kw289 dX4_next_152 ?_
        refine lv_iconst (v := 1) E.1 E.2.1 dX4_next_155 (by decide) ?_
        refine lv_iadd E.1 E.2.1 dX4_next_156 ?_
        refine x_put (ty := .int) E h 0 2 hf rfl rfl rfl (by decide) xinX4 tyX4_ok nmX4 kw289 rfl (by decide +kernel) rfl rfl dX4_next_157 (fun S10 H locs hf h => ?_)
        refine lv_goto (tgt := 119) E.1 E.2.1 dX4_next_160 (by decide) ?_
        exact ih _ _ _ _ hf h (lv_sub hl [0] rfl)
set_option maxHeartbeats 4000000 in
set_option maxRecDepth 100000 in
theorem c_X4_next (l : Launch) (D : va_G) (cy : Nat → ClassId) (s00 : State) (ad : Nat → Nat) (S : XS) (S9 : XS) (hf : f_X4_next S = some S9) : XV l yX4_next cX4_next 1 none 1 D cy s00 shRead ad S [.ref (ad 0)] S9 := by
  refine XV.of (by decide) [(0, .ref (ad 0))] rfl (Nat.le_of_ble_eq_true rfl) (fun p e s m args below meth c A ls E h hl => ?_)
  unfold f_X4_next at hf
  refine w_X4_next_L0 E ?_ _ _ _ _ _ hf h (lv_sub hl [0] rfl)
  intro S5 H locs ls hf h hl
  refine lv_aload_n E.1 E.2.1 dX4_next_52 rfl (lv_at hl 0 rfl) ?_
  refine lv_aload_n E.1 E.2.1 dX4_next_53 rfl (lv_at hl 0 rfl) ?_
  refine x_get E h 0 2 rfl rfl rfl (by decide) xinX4 kw289 dX4_next_54 ?_
  refine x_put (ty := .int) E h 0 4 hf rfl rfl rfl (by decide) xinX4 tyX4_ok nmX4 kw293 rfl (by decide +kernel) rfl rfl dX4_next_57 (fun S6 H locs hf h => ?_)
  refine lv_aload_n E.1 E.2.1 dX4_next_60 rfl (lv_at hl 0 rfl) ?_
  refine lv_iconst (v := 0) E.1 E.2.1 dX4_next_61 (by decide) ?_
  refine x_put (ty := .int) E h 0 3 hf rfl rfl rfl (by decide) xinX4 tyX4_ok nmX4 kw291 rfl (by decide +kernel) rfl rfl dX4_next_62 (fun S7 H locs hf h => ?_)
  refine lv_aload_n E.1 E.2.1 dX4_next_65 rfl (lv_at hl 0 rfl) ?_
  refine x_get E h 0 2 rfl rfl rfl (by decide) xinX4 kw289 dX4_next_66 ?_
  refine lv_aload_n E.1 E.2.1 dX4_next_69 rfl (lv_at hl 0 rfl) ?_
  refine x_get E h 0 1 rfl rfl rfl (by decide) xinX4 kw287 dX4_next_70 ?_
  refine x_br hf (lv_icmp_ge (tgt := 103) E.1 E.2.1 dX4_next_73 (by decide)) (fun hf => ?_) (fun hf => ?_)
  · refine lv_aload_n E.1 E.2.1 dX4_next_103 rfl (lv_at hl 0 rfl) ?_
    refine x_get E h 0 3 rfl rfl rfl (by decide) xinX4 kw291 dX4_next_104 ?_
    refine lv_iconst (v := 1) E.1 E.2.1 dX4_next_107 (by decide) ?_
    refine x_br hf (lv_icmp_eq (tgt := 119) E.1 E.2.1 dX4_next_108 (by decide)) (fun hf => ?_) (fun hf => ?_)
    · refine w_X4_next_L119 E ?_ _ _ _ _ _ hf h (lv_sub hl [0] rfl)
      intro S11 H locs ls hf h hl
      refine lv_aload_n E.1 E.2.1 dX4_next_163 rfl (lv_at hl 0 rfl) ?_
      refine x_get E h 0 3 rfl rfl rfl (by decide) xinX4 kw291 dX4_next_164 ?_
      refine lv_iconst (v := 2) E.1 E.2.1 dX4_next_167 (by decide) ?_
      refine x_brn hf (lv_icmp_ne (tgt := 175) E.1 E.2.1 dX4_next_168 (by decide)) (fun hf => ?_) (fun hf => ?_)
      · exact x_vret E h hf dX4_next_175
      · refine lv_aload_n E.1 E.2.1 dX4_next_171 rfl (lv_at hl 0 rfl) ?_
        refine x_callv E h hl 0 hf (fun r0 hr => c_X4_readNumber l D cy s00 _ S11  r0 hr) m_X4_readNumber rfl rfl kw494 rfl rfl (Nat.le_of_ble_eq_true rfl) ⟨by decide, by decide⟩ ⟨Nat.zero_le _, Nat.zero_le _⟩ dX4_next_172 (fun S12 H locs hf h => ?_)
        exact x_vret E h hf dX4_next_175
    · refine lv_aload_n E.1 E.2.1 dX4_next_111 rfl (lv_at hl 0 rfl) ?_
      refine x_get E h 0 3 rfl rfl rfl (by decide) xinX4 kw291 dX4_next_112 ?_
      refine lv_iconst (v := 2) E.1 E.2.1 dX4_next_115 (by decide) ?_
      refine x_brn hf (lv_icmp_ne (tgt := 163) E.1 E.2.1 dX4_next_116 (by decide)) (fun hf => ?_) (fun hf => ?_)
      · refine lv_aload_n E.1 E.2.1 dX4_next_163 rfl (lv_at hl 0 rfl) ?_
        refine x_get E h 0 3 rfl rfl rfl (by decide) xinX4 kw291 dX4_next_164 ?_
        refine lv_iconst (v := 2) E.1 E.2.1 dX4_next_167 (by decide) ?_
        refine x_brn hf (lv_icmp_ne (tgt := 175) E.1 E.2.1 dX4_next_168 (by decide)) (fun hf => ?_) (fun hf => ?_)
        · exact x_vret E h hf dX4_next_175
        · refine lv_aload_n E.1 E.2.1 dX4_next_171 rfl (lv_at hl 0 rfl) ?_
          refine x_callv E h hl 0 hf (fun r0 hr => c_X4_readNumber l D cy s00 _ S7  r0 hr) m_X4_readNumber rfl rfl kw494 rfl rfl (Nat.le_of_ble_eq_true rfl) ⟨by decide, by decide⟩ ⟨Nat.zero_le _, Nat.zero_le _⟩ dX4_next_172 (fun S13 H locs hf h => ?_)
          exact x_vret E h hf dX4_next_175
      · refine w_X4_next_L119 E ?_ _ _ _ _ _ hf h (lv_sub hl [0] rfl)
        intro S14 H locs ls hf h hl
        refine lv_aload_n E.1 E.2.1 dX4_next_163 rfl (lv_at hl 0 rfl) ?_
        refine x_get E h 0 3 rfl rfl rfl (by decide) xinX4 kw291 dX4_next_164 ?_
        refine lv_iconst (v := 2) E.1 E.2.1 dX4_next_167 (by decide) ?_
        refine x_brn hf (lv_icmp_ne (tgt := 175) E.1 E.2.1 dX4_next_168 (by decide)) (fun hf => ?_) (fun hf => ?_)
        · exact x_vret E h hf dX4_next_175
        · refine lv_aload_n E.1 E.2.1 dX4_next_171 rfl (lv_at hl 0 rfl) ?_
          refine x_callv E h hl 0 hf (fun r0 hr => c_X4_readNumber l D cy s00 _ S14  r0 hr) m_X4_readNumber rfl rfl kw494 rfl rfl (Nat.le_of_ble_eq_true rfl) ⟨by decide, by decide⟩ ⟨Nat.zero_le _, Nat.zero_le _⟩ dX4_next_172 (fun S15 H locs hf h => ?_)
          exact x_vret E h hf dX4_next_175
  · refine lv_aload_n E.1 E.2.1 dX4_next_76 rfl (lv_at hl 0 rfl) ?_
    refine lv_aload_n E.1 E.2.1 dX4_next_77 rfl (lv_at hl 0 rfl) ?_
    refine lv_aload_n E.1 E.2.1 dX4_next_78 rfl (lv_at hl 0 rfl) ?_
    refine x_getr E h 0 0 1 rfl rfl rfl (by decide) xinX4 kw286 dX4_next_79 ?_
    refine lv_aload_n E.1 E.2.1 dX4_next_82 rfl (lv_at hl 0 rfl) ?_
    refine x_get E h 0 2 rfl rfl rfl (by decide) xinX4 kw289 dX4_next_83 ?_
    refine x_bald E h 1 hf rfl dX4_next_86 (fun v16 hf => ?_)
    refine x_callp E h hl 0 hf (fun r0 hr => c_X4_kindOf l D cy s00 _ S7 v16 r0 hr) m_X4_kindOf rfl rfl kw490 rfl rfl (Nat.le_of_ble_eq_true rfl) ⟨by decide, by decide⟩ ⟨Nat.zero_le _, Nat.zero_le _⟩ dX4_next_87 (fun v17 H locs hf h => ?_)
    refine x_put (ty := .int) E h 0 3 hf rfl rfl rfl (by decide) xinX4 tyX4_ok nmX4 kw291 rfl (by decide +kernel) rfl rfl dX4_next_90 (fun S18 H locs hf h => ?_)
    refine lv_aload_n E.1 E.2.1 dX4_next_93 rfl (lv_at hl 0 rfl) ?_
    refine lv_dup E.1 E.2.1 dX4_next_94 rfl ?_
    refine x_get E h 0 2 rfl rfl rfl (by decide) xinX4 kw289 dX4_next_95 ?_
    refine lv_iconst (v := 1) E.1 E.2.1 dX4_next_98 (by decide) ?_
    refine lv_iadd E.1 E.2.1 dX4_next_99 ?_
    refine x_put (ty := .int) E h 0 2 hf rfl rfl rfl (by decide) xinX4 tyX4_ok nmX4 kw289 rfl (by decide +kernel) rfl rfl dX4_next_100 (fun S19 H locs hf h => ?_)
    refine lv_aload_n E.1 E.2.1 dX4_next_103 rfl (lv_at hl 0 rfl) ?_
    refine x_get E h 0 3 rfl rfl rfl (by decide) xinX4 kw291 dX4_next_104 ?_
    refine lv_iconst (v := 1) E.1 E.2.1 dX4_next_107 (by decide) ?_
    refine x_br hf (lv_icmp_eq (tgt := 119) E.1 E.2.1 dX4_next_108 (by decide)) (fun hf => ?_) (fun hf => ?_)
    · refine w_X4_next_L119 E ?_ _ _ _ _ _ hf h (lv_sub hl [0] rfl)
      intro S20 H locs ls hf h hl
      refine lv_aload_n E.1 E.2.1 dX4_next_163 rfl (lv_at hl 0 rfl) ?_
      refine x_get E h 0 3 rfl rfl rfl (by decide) xinX4 kw291 dX4_next_164 ?_
      refine lv_iconst (v := 2) E.1 E.2.1 dX4_next_167 (by decide) ?_
      refine x_brn hf (lv_icmp_ne (tgt := 175) E.1 E.2.1 dX4_next_168 (by decide)) (fun hf => ?_) (fun hf => ?_)
      · exact x_vret E h hf dX4_next_175
      · refine lv_aload_n E.1 E.2.1 dX4_next_171 rfl (lv_at hl 0 rfl) ?_
        refine x_callv E h hl 0 hf (fun r0 hr => c_X4_readNumber l D cy s00 _ S20  r0 hr) m_X4_readNumber rfl rfl kw494 rfl rfl (Nat.le_of_ble_eq_true rfl) ⟨by decide, by decide⟩ ⟨Nat.zero_le _, Nat.zero_le _⟩ dX4_next_172 (fun S21 H locs hf h => ?_)
        exact x_vret E h hf dX4_next_175
    · refine lv_aload_n E.1 E.2.1 dX4_next_111 rfl (lv_at hl 0 rfl) ?_
      refine x_get E h 0 3 rfl rfl rfl (by decide) xinX4 kw291 dX4_next_112 ?_
      refine lv_iconst (v := 2) E.1 E.2.1 dX4_next_115 (by decide) ?_
      refine x_brn hf (lv_icmp_ne (tgt := 163) E.1 E.2.1 dX4_next_116 (by decide)) (fun hf => ?_) (fun hf => ?_)
      · refine lv_aload_n E.1 E.2.1 dX4_next_163 rfl (lv_at hl 0 rfl) ?_
        refine x_get E h 0 3 rfl rfl rfl (by decide) xinX4 kw291 dX4_next_164 ?_
        refine lv_iconst (v := 2) E.1 E.2.1 dX4_next_167 (by decide) ?_
        refine x_brn hf (lv_icmp_ne (tgt := 175) E.1 E.2.1 dX4_next_168 (by decide)) (fun hf => ?_) (fun hf => ?_)
        · exact x_vret E h hf dX4_next_175
        · refine lv_aload_n E.1 E.2.1 dX4_next_171 rfl (lv_at hl 0 rfl) ?_
          refine x_callv E h hl 0 hf (fun r0 hr => c_X4_readNumber l D cy s00 _ S19  r0 hr) m_X4_readNumber rfl rfl kw494 rfl rfl (Nat.le_of_ble_eq_true rfl) ⟨by decide, by decide⟩ ⟨Nat.zero_le _, Nat.zero_le _⟩ dX4_next_172 (fun S22 H locs hf h => ?_)
          exact x_vret E h hf dX4_next_175
      · refine w_X4_next_L119 E ?_ _ _ _ _ _ hf h (lv_sub hl [0] rfl)
        intro S23 H locs ls hf h hl
        refine lv_aload_n E.1 E.2.1 dX4_next_163 rfl (lv_at hl 0 rfl) ?_
        refine x_get E h 0 3 rfl rfl rfl (by decide) xinX4 kw291 dX4_next_164 ?_
        refine lv_iconst (v := 2) E.1 E.2.1 dX4_next_167 (by decide) ?_
        refine x_brn hf (lv_icmp_ne (tgt := 175) E.1 E.2.1 dX4_next_168 (by decide)) (fun hf => ?_) (fun hf => ?_)
        · exact x_vret E h hf dX4_next_175
        · refine lv_aload_n E.1 E.2.1 dX4_next_171 rfl (lv_at hl 0 rfl) ?_
          refine x_callv E h hl 0 hf (fun r0 hr => c_X4_readNumber l D cy s00 _ S23  r0 hr) m_X4_readNumber rfl rfl kw494 rfl rfl (Nat.le_of_ble_eq_true rfl) ⟨by decide, by decide⟩ ⟨Nat.zero_le _, Nat.zero_le _⟩ dX4_next_172 (fun S24 H locs hf h => ?_)
          exact x_vret E h hf dX4_next_175
def f_X7_fail (S : XS) (p0 : Int32) : Option (XS) := (xlet (xput S 0 2 p0) fun S1 => (xlet (xput S1 0 3 (S1 1 4)) fun S2 => (xlet (xput S2 0 5 0) fun S3 => some S3)))
set_option maxHeartbeats 4000000 in
set_option maxRecDepth 100000 in
theorem c_X7_fail (l : Launch) (D : va_G) (cy : Nat → ClassId) (s00 : State) (ad : Nat → Nat) (S : XS) (p0 : Int32) (S9 : XS) (hf : f_X7_fail S p0 = some S9) : XV l yX7_fail cX7_fail 2 none 0 D cy s00 shScr ad S [.ref (ad 0), .int p0] S9 := by
  refine XV.of (by decide) [(0, .ref (ad 0)), (1, .int p0)] rfl (Nat.le_of_ble_eq_true rfl) (fun p e s m args below meth c A ls E h hl => ?_)
  unfold f_X7_fail at hf
  refine lv_aload_n E.1 E.2.1 dX7_fail_0 rfl (lv_at hl 0 rfl) ?_
  refine lv_iload_n E.1 E.2.1 dX7_fail_1 rfl (lv_at hl 1 rfl) ?_
  refine x_put (ty := .int) E h 0 2 hf rfl rfl rfl (by decide) xinX7 tyX7_ok nmX7 kw317 rfl (by decide +kernel) rfl rfl dX7_fail_2 (fun S1 H locs hf h => ?_)
  refine lv_aload_n E.1 E.2.1 dX7_fail_5 rfl (lv_at hl 0 rfl) ?_
  refine lv_aload_n E.1 E.2.1 dX7_fail_6 rfl (lv_at hl 0 rfl) ?_
  refine x_getr E h 0 0 1 rfl rfl rfl (by decide) xinX7 kw313 dX7_fail_7 ?_
  refine x_get E h 1 4 rfl rfl rfl (by decide) xinX4 kw294 dX7_fail_10 ?_
  refine x_put (ty := .int) E h 0 3 hf rfl rfl rfl (by decide) xinX7 tyX7_ok nmX7 kw319 rfl (by decide +kernel) rfl rfl dX7_fail_13 (fun S2 H locs hf h => ?_)
  refine lv_aload_n E.1 E.2.1 dX7_fail_16 rfl (lv_at hl 0 rfl) ?_
  refine lv_iconst (v := 0) E.1 E.2.1 dX7_fail_17 (by decide) ?_
  refine x_put (ty := .boolean) E h 0 5 hf rfl rfl rfl (by decide) xinX7 tyX7_ok nmX7 kw322 rfl (by decide +kernel) (by decide) (by decide) dX7_fail_18 (fun S3 H locs hf h => ?_)
  exact x_vret E h hf dX7_fail_21
def f_X7_expect (S : XS) (p0 : Int32) : Option (Int32 × XS) := ((f_X4_next (xs 1 S)).bind fun S2 => xlet (xm 1 shRead.length S S2) fun S1 => (if (S1 1 3) = p0 then some (1, S1) else ((f_X7_fail S1 1).bind fun S2 => some (0, S2))))
set_option maxHeartbeats 4000000 in
set_option maxRecDepth 100000 in
theorem c_X7_expect (l : Launch) (D : va_G) (cy : Nat → ClassId) (s00 : State) (ad : Nat → Nat) (S : XS) (p0 : Int32) (r9 : Int32) (S9 : XS) (hf : f_X7_expect S p0 = some (r9, S9)) : XI l yX7_expect cX7_expect 2 (some .boolean) 2 D cy s00 shScr ad S [.ref (ad 0), .int p0] r9 S9 := by
  refine XI.of (by decide) [(0, .ref (ad 0)), (1, .int p0)] rfl (Nat.le_of_ble_eq_true rfl) (fun p e s m args below meth c A ls E h hl => ?_)
  unfold f_X7_expect at hf
  refine lv_aload_n E.1 E.2.1 dX7_expect_0 rfl (lv_at hl 0 rfl) ?_
  refine x_getr E h 0 0 1 rfl rfl rfl (by decide) xinX7 kw313 dX7_expect_1 ?_
  refine x_callov E h hl 1 1 hf (xsub_of rfl) (fun r0 hr => c_X4_next l D cy s00 _ (xs 1 S)  r0 hr) m_X4_next rfl rfl kw486 rfl rfl (Nat.le_of_ble_eq_true rfl) ⟨by decide, by decide⟩ ⟨Nat.zero_le _, Nat.zero_le _⟩ dX7_expect_4 (fun S1 H locs hf h => ?_)
  refine lv_aload_n E.1 E.2.1 dX7_expect_7 rfl (lv_at hl 0 rfl) ?_
  refine x_getr E h 0 0 1 rfl rfl rfl (by decide) xinX7 kw313 dX7_expect_8 ?_
  refine x_get E h 1 3 rfl rfl rfl (by decide) xinX4 kw292 dX7_expect_11 ?_
  refine lv_iload_n E.1 E.2.1 dX7_expect_14 rfl (lv_at hl 1 rfl) ?_
  refine x_br hf (lv_icmp_eq (tgt := 25) E.1 E.2.1 dX7_expect_15 (by decide)) (fun hf => ?_) (fun hf => ?_)
  · refine lv_iconst (v := 1) E.1 E.2.1 dX7_expect_25 (by decide) ?_
    exact x_zic E h (by decide) hf dX7_expect_26
  · refine lv_aload_n E.1 E.2.1 dX7_expect_18 rfl (lv_at hl 0 rfl) ?_
    refine lv_iconst (v := 1) E.1 E.2.1 dX7_expect_19 (by decide) ?_
    refine x_callv E h hl 0 hf (fun r0 hr => c_X7_fail l D cy s00 _ S1 1 r0 hr) m_X7_fail rfl rfl kw555 rfl rfl (Nat.le_of_ble_eq_true rfl) ⟨by decide, by decide⟩ ⟨Nat.zero_le _, Nat.zero_le _⟩ dX7_expect_20 (fun S2 H locs hf h => ?_)
    refine lv_iconst (v := 0) E.1 E.2.1 dX7_expect_23 (by decide) ?_
    exact x_zic E h (by decide) hf dX7_expect_24
def f_X7_closeRound (S : XS) : Option (XS) := (xlet ((S 0 7) - 1) fun v1 => ((xrd v1 2 (S 18)).bind fun v2 => ((xwr v1 2).bind fun j4 => xlet (xput S 18 j4 (v2 - 1)) fun S3 => ((xrd v1 2 (S3 18)).bind fun v5 => (if v5 ≤ 0 then (xlet (xput S3 0 7 v1) fun S6 => (xbind2 (f_X7_expect S6 5) fun v7 S8 => some S8)) else ((xrd v1 2 (S3 17)).bind fun v9 => (xlet (xput S3 1 2 v9) fun S10 => some S10)))))))
set_option maxHeartbeats 4000000 in
set_option maxRecDepth 100000 in
theorem c_X7_closeRound (l : Launch) (D : va_G) (cy : Nat → ClassId) (s00 : State) (ad : Nat → Nat) (S : XS) (S9 : XS) (hf : f_X7_closeRound S = some S9) : XV l yX7_closeRound cX7_closeRound 2 none 3 D cy s00 shScr ad S [.ref (ad 0)] S9 := by
  refine XV.of (by decide) [(0, .ref (ad 0))] rfl (Nat.le_of_ble_eq_true rfl) (fun p e s m args below meth c A ls E h hl => ?_)
  unfold f_X7_closeRound at hf
  refine lv_aload_n E.1 E.2.1 dX7_closeRound_0 rfl (lv_at hl 0 rfl) ?_
  refine x_get E h 0 7 rfl rfl rfl (by decide) xinX7 kw324 dX7_closeRound_1 ?_
  refine lv_iconst (v := 1) E.1 E.2.1 dX7_closeRound_4 (by decide) ?_
  refine lv_isub E.1 E.2.1 dX7_closeRound_5 ?_
  refine x_nm hf (fun v1 hf => ?_)
  refine lv_istore_n (lv' := [(1, .int v1), (0, .ref (ad 0))]) E.1 E.2.1 dX7_closeRound_6 rfl hl (by decide) rfl (fun ls hl => ?_)
  refine lv_aload_n E.1 E.2.1 dX7_closeRound_7 rfl (lv_at hl 1 rfl) ?_
  refine x_getr E h 0 9 18 rfl rfl rfl (by decide) xinX7 kw326 dX7_closeRound_8 ?_
  refine lv_iload_n E.1 E.2.1 dX7_closeRound_11 rfl (lv_at hl 0 rfl) ?_
  refine lv_dup2_11 E.1 E.2.1 dX7_closeRound_12 rfl rfl ?_
  refine x_iald E h 18 hf rfl dX7_closeRound_13 (fun v2 hf => ?_)
  refine lv_iconst (v := 1) E.1 E.2.1 dX7_closeRound_14 (by decide) ?_
  refine lv_isub E.1 E.2.1 dX7_closeRound_15 ?_
  refine x_iast E h 18 hf rfl dX7_closeRound_16 (fun S3 H locs hf h => ?_)
  refine lv_aload_n E.1 E.2.1 dX7_closeRound_17 rfl (lv_at hl 1 rfl) ?_
  refine x_getr E h 0 9 18 rfl rfl rfl (by decide) xinX7 kw326 dX7_closeRound_18 ?_
  refine lv_iload_n E.1 E.2.1 dX7_closeRound_21 rfl (lv_at hl 0 rfl) ?_
  refine x_iald E h 18 hf rfl dX7_closeRound_22 (fun v5 hf => ?_)
  refine x_br hf (lv_if_le (tgt := 42) E.1 E.2.1 dX7_closeRound_23 (by decide)) (fun hf => ?_) (fun hf => ?_)
  · refine lv_aload_n E.1 E.2.1 dX7_closeRound_42 rfl (lv_at hl 1 rfl) ?_
    refine lv_iload_n E.1 E.2.1 dX7_closeRound_43 rfl (lv_at hl 0 rfl) ?_
    refine x_put (ty := .int) E h 0 7 hf rfl rfl rfl (by decide) xinX7 tyX7_ok nmX7 kw324 rfl (by decide +kernel) rfl rfl dX7_closeRound_44 (fun S6 H locs hf h => ?_)
    refine lv_aload_n E.1 E.2.1 dX7_closeRound_47 rfl (lv_at hl 1 rfl) ?_
    refine lv_iconst (v := 5) E.1 E.2.1 dX7_closeRound_48 (by decide) ?_
    refine x_calli E h hl 0 hf (fun r0 Sq0 hr => c_X7_expect l D cy s00 _ S6 5 r0 Sq0 hr) m_X7_expect rfl rfl kw551 rfl rfl (Nat.le_of_ble_eq_true rfl) ⟨by decide, by decide⟩ ⟨Nat.zero_le _, Nat.zero_le _⟩ dX7_closeRound_49 (fun v7 S8 H locs hf h => ?_)
    refine lv_pop E.1 E.2.1 dX7_closeRound_52 rfl ?_
    exact x_vret E h hf dX7_closeRound_53
  · refine lv_aload_n E.1 E.2.1 dX7_closeRound_26 rfl (lv_at hl 1 rfl) ?_
    refine x_getr E h 0 0 1 rfl rfl rfl (by decide) xinX7 kw313 dX7_closeRound_27 ?_
    refine lv_aload_n E.1 E.2.1 dX7_closeRound_30 rfl (lv_at hl 1 rfl) ?_
    refine x_getr E h 0 8 17 rfl rfl rfl (by decide) xinX7 kw325 dX7_closeRound_31 ?_
    refine lv_iload_n E.1 E.2.1 dX7_closeRound_34 rfl (lv_at hl 0 rfl) ?_
    refine x_iald E h 17 hf rfl dX7_closeRound_35 (fun v9 hf => ?_)
    refine x_put (ty := .int) E h 1 2 hf rfl rfl rfl (by decide) xinX4 tyX4_ok nmX4 kw290 rfl (by decide +kernel) rfl rfl dX7_closeRound_36 (fun S10 H locs hf h => ?_)
    refine lv_goto (tgt := 53) E.1 E.2.1 dX7_closeRound_39 (by decide) ?_
    exact x_vret E h hf dX7_closeRound_53
def f_X7_fits (S : XS) (p0 p1 : Int32) : Option (Int32) := (if p0 = 67 then ((f_X6_hasCat (xs 3 S) p1).bind fun v1 => (if v1 = 0 then some 0 else ((xrd 0 4 (S 16)).bind fun v2 => (if p1 = v2 then some 0 else some 1)))) else (if p0 = 72 then ((f_X6_hasChimney (xs 3 S) p1).bind fun v3 => (if v3 = 0 then some 0 else ((xrd 0 4 (S 16)).bind fun v4 => (if p1 = v4 then some 0 else some 1)))) else (if p0 = 99 then ((f_X6_hasCat (xs 3 S) p1).bind fun v5 => xz v5) else (if p0 = 102 then (if p1 < 1 then some 0 else (if 9 < p1 then some 0 else some 1)) else (if p0 = 103 then ((f_X6_hasGutter (xs 3 S) p1).bind fun v6 => xz v6) else (if p0 = 104 then ((f_X6_hasChimney (xs 3 S) p1).bind fun v7 => xz v7) else (if p0 = 110 then (if p1 < 1 then some 0 else (if 30 < p1 then some 0 else some 1)) else (if p0 = 114 then (if p1 < 1 then some 0 else (if 20 < p1 then some 0 else some 1)) else (if p0 = 115 then (if p1 < 1 then some 0 else (if 9 < p1 then some 0 else some 1)) else (if p0 = 116 then (if p1 < 1 then some 0 else (if 20 < p1 then some 0 else some 1)) else (if p0 = 119 then (if 9 < p1 then some 0 else some 1) else some 0)))))))))))
set_option maxHeartbeats 4000000 in
set_option maxRecDepth 100000 in
theorem c_X7_fits (l : Launch) (D : va_G) (cy : Nat → ClassId) (s00 : State) (ad : Nat → Nat) (S : XS) (p0 p1 : Int32) (r9 : Int32) (hf : f_X7_fits S p0 p1 = some r9) : XI l yX7_fits cX7_fits 3 (some .boolean) 1 D cy s00 shScr ad S [.ref (ad 0), .int p0, .int p1] r9 S := by
  refine XI.of (by decide) [(0, .ref (ad 0)), (1, .int p0), (2, .int p1)] rfl (Nat.le_of_ble_eq_true rfl) (fun p e s m args below meth c A ls E h hl => ?_)
  unfold f_X7_fits at hf
  refine lv_iload_n E.1 E.2.1 dX7_fits_0 rfl (lv_at hl 1 rfl) ?_
  refine x_case hf (fun c9 hf => ?_) (fun c167 hf => ?_)
  · refine lv_lookup (tgt := 145) E.1 E.2.1 dX7_fits_1 (by decide) (by rw [c9]) (by decide) ?_
    refine lv_aload_n E.1 E.2.1 dX7_fits_145 rfl (lv_at hl 0 rfl) ?_
    refine x_getr E h 0 1 3 rfl rfl rfl (by decide) xinX7 kw315 dX7_fits_146 ?_
    refine lv_iload_n E.1 E.2.1 dX7_fits_149 rfl (lv_at hl 2 rfl) ?_
    refine x_callop E h hl 3 3 hf (xsub_of rfl) (fun r0 hr => c_X6_hasCat l D cy s00 _ (xs 3 S) p1 r0 hr) m_X6_hasCat rfl rfl kw594 rfl rfl (Nat.le_of_ble_eq_true rfl) ⟨by decide, by decide⟩ ⟨Nat.zero_le _, Nat.zero_le _⟩ dX7_fits_150 (fun v1 H locs hf h => ?_)
    refine x_br hf (lv_if_eq (tgt := 170) E.1 E.2.1 dX7_fits_153 (by decide)) (fun hf => ?_) (fun hf => ?_)
    · refine lv_iconst (v := 0) E.1 E.2.1 dX7_fits_170 (by decide) ?_
      exact x_zrc E h (by decide) hf dX7_fits_171
    · refine lv_iload_n E.1 E.2.1 dX7_fits_156 rfl (lv_at hl 2 rfl) ?_
      refine lv_aload_n E.1 E.2.1 dX7_fits_157 rfl (lv_at hl 0 rfl) ?_
      refine x_getr E h 0 4 16 rfl rfl rfl (by decide) xinX7 kw321 dX7_fits_158 ?_
      refine lv_iconst (v := 0) E.1 E.2.1 dX7_fits_161 (by decide) ?_
      refine x_iald E h 16 hf rfl dX7_fits_162 (fun v2 hf => ?_)
      refine x_br hf (lv_icmp_eq (tgt := 170) E.1 E.2.1 dX7_fits_163 (by decide)) (fun hf => ?_) (fun hf => ?_)
      · refine lv_iconst (v := 0) E.1 E.2.1 dX7_fits_170 (by decide) ?_
        exact x_zrc E h (by decide) hf dX7_fits_171
      · refine lv_iconst (v := 1) E.1 E.2.1 dX7_fits_166 (by decide) ?_
        refine lv_goto (tgt := 171) E.1 E.2.1 dX7_fits_167 (by decide) ?_
        exact x_zrc E h (by decide) hf dX7_fits_171
  refine x_case hf (fun c9 hf => ?_) (fun c172 hf => ?_)
  · refine lv_lookup (tgt := 109) E.1 E.2.1 dX7_fits_1 (by decide) (by rw [c9]) (by decide) ?_
    refine lv_aload_n E.1 E.2.1 dX7_fits_109 rfl (lv_at hl 0 rfl) ?_
    refine x_getr E h 0 1 3 rfl rfl rfl (by decide) xinX7 kw315 dX7_fits_110 ?_
    refine lv_iload_n E.1 E.2.1 dX7_fits_113 rfl (lv_at hl 2 rfl) ?_
    refine x_callop E h hl 3 3 hf (xsub_of rfl) (fun r0 hr => c_X6_hasChimney l D cy s00 _ (xs 3 S) p1 r0 hr) m_X6_hasChimney rfl rfl kw590 rfl rfl (Nat.le_of_ble_eq_true rfl) ⟨by decide, by decide⟩ ⟨Nat.zero_le _, Nat.zero_le _⟩ dX7_fits_114 (fun v3 H locs hf h => ?_)
    refine x_br hf (lv_if_eq (tgt := 134) E.1 E.2.1 dX7_fits_117 (by decide)) (fun hf => ?_) (fun hf => ?_)
    · refine lv_iconst (v := 0) E.1 E.2.1 dX7_fits_134 (by decide) ?_
      exact x_zrc E h (by decide) hf dX7_fits_135
    · refine lv_iload_n E.1 E.2.1 dX7_fits_120 rfl (lv_at hl 2 rfl) ?_
      refine lv_aload_n E.1 E.2.1 dX7_fits_121 rfl (lv_at hl 0 rfl) ?_
      refine x_getr E h 0 4 16 rfl rfl rfl (by decide) xinX7 kw321 dX7_fits_122 ?_
      refine lv_iconst (v := 0) E.1 E.2.1 dX7_fits_125 (by decide) ?_
      refine x_iald E h 16 hf rfl dX7_fits_126 (fun v4 hf => ?_)
      refine x_br hf (lv_icmp_eq (tgt := 134) E.1 E.2.1 dX7_fits_127 (by decide)) (fun hf => ?_) (fun hf => ?_)
      · refine lv_iconst (v := 0) E.1 E.2.1 dX7_fits_134 (by decide) ?_
        exact x_zrc E h (by decide) hf dX7_fits_135
      · refine lv_iconst (v := 1) E.1 E.2.1 dX7_fits_130 (by decide) ?_
        refine lv_goto (tgt := 135) E.1 E.2.1 dX7_fits_131 (by decide) ?_
        exact x_zrc E h (by decide) hf dX7_fits_135
  refine x_case hf (fun c9 hf => ?_) (fun c199 hf => ?_)
  · refine lv_lookup (tgt := 136) E.1 E.2.1 dX7_fits_1 (by decide) (by rw [c9]) (by decide) ?_
    refine lv_aload_n E.1 E.2.1 dX7_fits_136 rfl (lv_at hl 0 rfl) ?_
    refine x_getr E h 0 1 3 rfl rfl rfl (by decide) xinX7 kw315 dX7_fits_137 ?_
    refine lv_iload_n E.1 E.2.1 dX7_fits_140 rfl (lv_at hl 2 rfl) ?_
    refine x_callop E h hl 3 3 hf (xsub_of rfl) (fun r0 hr => c_X6_hasCat l D cy s00 _ (xs 3 S) p1 r0 hr) m_X6_hasCat rfl rfl kw594 rfl rfl (Nat.le_of_ble_eq_true rfl) ⟨by decide, by decide⟩ ⟨Nat.zero_le _, Nat.zero_le _⟩ dX7_fits_141 (fun v5 H locs hf h => ?_)
    exact x_zrp E h hf dX7_fits_144
  refine x_case hf (fun c9 hf => ?_) (fun c202 hf => ?_)
  · refine lv_lookup (tgt := 210) E.1 E.2.1 dX7_fits_1 (by decide) (by rw [c9]) (by decide) ?_
    refine lv_iload_n E.1 E.2.1 dX7_fits_210 rfl (lv_at hl 2 rfl) ?_
    refine lv_iconst (v := 1) E.1 E.2.1 dX7_fits_211 (by decide) ?_
    refine x_br hf (lv_icmp_lt (tgt := 225) E.1 E.2.1 dX7_fits_212 (by decide)) (fun hf => ?_) (fun hf => ?_)
    · refine lv_iconst (v := 0) E.1 E.2.1 dX7_fits_225 (by decide) ?_
      exact x_zrc E h (by decide) hf dX7_fits_226
    · refine lv_iload_n E.1 E.2.1 dX7_fits_215 rfl (lv_at hl 2 rfl) ?_
      refine lv_bipush (v := 9) E.1 E.2.1 dX7_fits_216 (by decide) ?_
      refine x_br hf (lv_icmp_gt (tgt := 225) E.1 E.2.1 dX7_fits_218 (by decide)) (fun hf => ?_) (fun hf => ?_)
      · refine lv_iconst (v := 0) E.1 E.2.1 dX7_fits_225 (by decide) ?_
        exact x_zrc E h (by decide) hf dX7_fits_226
      · refine lv_iconst (v := 1) E.1 E.2.1 dX7_fits_221 (by decide) ?_
        refine lv_goto (tgt := 226) E.1 E.2.1 dX7_fits_222 (by decide) ?_
        exact x_zrc E h (by decide) hf dX7_fits_226
  refine x_case hf (fun c9 hf => ?_) (fun c203 hf => ?_)
  · refine lv_lookup (tgt := 172) E.1 E.2.1 dX7_fits_1 (by decide) (by rw [c9]) (by decide) ?_
    refine lv_aload_n E.1 E.2.1 dX7_fits_172 rfl (lv_at hl 0 rfl) ?_
    refine x_getr E h 0 1 3 rfl rfl rfl (by decide) xinX7 kw315 dX7_fits_173 ?_
    refine lv_iload_n E.1 E.2.1 dX7_fits_176 rfl (lv_at hl 2 rfl) ?_
    refine x_callop E h hl 3 3 hf (xsub_of rfl) (fun r0 hr => c_X6_hasGutter l D cy s00 _ (xs 3 S) p1 r0 hr) m_X6_hasGutter rfl rfl kw598 rfl rfl (Nat.le_of_ble_eq_true rfl) ⟨by decide, by decide⟩ ⟨Nat.zero_le _, Nat.zero_le _⟩ dX7_fits_177 (fun v6 H locs hf h => ?_)
    exact x_zrp E h hf dX7_fits_180
  refine x_case hf (fun c9 hf => ?_) (fun c204 hf => ?_)
  · refine lv_lookup (tgt := 100) E.1 E.2.1 dX7_fits_1 (by decide) (by rw [c9]) (by decide) ?_
    refine lv_aload_n E.1 E.2.1 dX7_fits_100 rfl (lv_at hl 0 rfl) ?_
    refine x_getr E h 0 1 3 rfl rfl rfl (by decide) xinX7 kw315 dX7_fits_101 ?_
    refine lv_iload_n E.1 E.2.1 dX7_fits_104 rfl (lv_at hl 2 rfl) ?_
    refine x_callop E h hl 3 3 hf (xsub_of rfl) (fun r0 hr => c_X6_hasChimney l D cy s00 _ (xs 3 S) p1 r0 hr) m_X6_hasChimney rfl rfl kw590 rfl rfl (Nat.le_of_ble_eq_true rfl) ⟨by decide, by decide⟩ ⟨Nat.zero_le _, Nat.zero_le _⟩ dX7_fits_105 (fun v7 H locs hf h => ?_)
    exact x_zrp E h hf dX7_fits_108
  refine x_case hf (fun c9 hf => ?_) (fun c210 hf => ?_)
  · refine lv_lookup (tgt := 244) E.1 E.2.1 dX7_fits_1 (by decide) (by rw [c9]) (by decide) ?_
    refine lv_iload_n E.1 E.2.1 dX7_fits_244 rfl (lv_at hl 2 rfl) ?_
    refine lv_iconst (v := 1) E.1 E.2.1 dX7_fits_245 (by decide) ?_
    refine x_br hf (lv_icmp_lt (tgt := 259) E.1 E.2.1 dX7_fits_246 (by decide)) (fun hf => ?_) (fun hf => ?_)
    · refine lv_iconst (v := 0) E.1 E.2.1 dX7_fits_259 (by decide) ?_
      exact x_zrc E h (by decide) hf dX7_fits_260
    · refine lv_iload_n E.1 E.2.1 dX7_fits_249 rfl (lv_at hl 2 rfl) ?_
      refine lv_bipush (v := 30) E.1 E.2.1 dX7_fits_250 (by decide) ?_
      refine x_br hf (lv_icmp_gt (tgt := 259) E.1 E.2.1 dX7_fits_252 (by decide)) (fun hf => ?_) (fun hf => ?_)
      · refine lv_iconst (v := 0) E.1 E.2.1 dX7_fits_259 (by decide) ?_
        exact x_zrc E h (by decide) hf dX7_fits_260
      · refine lv_iconst (v := 1) E.1 E.2.1 dX7_fits_255 (by decide) ?_
        refine lv_goto (tgt := 260) E.1 E.2.1 dX7_fits_256 (by decide) ?_
        exact x_zrc E h (by decide) hf dX7_fits_260
  refine x_case hf (fun c9 hf => ?_) (fun c214 hf => ?_)
  · refine lv_lookup (tgt := 261) E.1 E.2.1 dX7_fits_1 (by decide) (by rw [c9]) (by decide) ?_
    refine lv_iload_n E.1 E.2.1 dX7_fits_261 rfl (lv_at hl 2 rfl) ?_
    refine lv_iconst (v := 1) E.1 E.2.1 dX7_fits_262 (by decide) ?_
    refine x_br hf (lv_icmp_lt (tgt := 276) E.1 E.2.1 dX7_fits_263 (by decide)) (fun hf => ?_) (fun hf => ?_)
    · refine lv_iconst (v := 0) E.1 E.2.1 dX7_fits_276 (by decide) ?_
      exact x_zrc E h (by decide) hf dX7_fits_277
    · refine lv_iload_n E.1 E.2.1 dX7_fits_266 rfl (lv_at hl 2 rfl) ?_
      refine lv_bipush (v := 20) E.1 E.2.1 dX7_fits_267 (by decide) ?_
      refine x_br hf (lv_icmp_gt (tgt := 276) E.1 E.2.1 dX7_fits_269 (by decide)) (fun hf => ?_) (fun hf => ?_)
      · refine lv_iconst (v := 0) E.1 E.2.1 dX7_fits_276 (by decide) ?_
        exact x_zrc E h (by decide) hf dX7_fits_277
      · refine lv_iconst (v := 1) E.1 E.2.1 dX7_fits_272 (by decide) ?_
        refine lv_goto (tgt := 277) E.1 E.2.1 dX7_fits_273 (by decide) ?_
        exact x_zrc E h (by decide) hf dX7_fits_277
  refine x_case hf (fun c9 hf => ?_) (fun c215 hf => ?_)
  · refine lv_lookup (tgt := 193) E.1 E.2.1 dX7_fits_1 (by decide) (by rw [c9]) (by decide) ?_
    refine lv_iload_n E.1 E.2.1 dX7_fits_193 rfl (lv_at hl 2 rfl) ?_
    refine lv_iconst (v := 1) E.1 E.2.1 dX7_fits_194 (by decide) ?_
    refine x_br hf (lv_icmp_lt (tgt := 208) E.1 E.2.1 dX7_fits_195 (by decide)) (fun hf => ?_) (fun hf => ?_)
    · refine lv_iconst (v := 0) E.1 E.2.1 dX7_fits_208 (by decide) ?_
      exact x_zrc E h (by decide) hf dX7_fits_209
    · refine lv_iload_n E.1 E.2.1 dX7_fits_198 rfl (lv_at hl 2 rfl) ?_
      refine lv_bipush (v := 9) E.1 E.2.1 dX7_fits_199 (by decide) ?_
      refine x_br hf (lv_icmp_gt (tgt := 208) E.1 E.2.1 dX7_fits_201 (by decide)) (fun hf => ?_) (fun hf => ?_)
      · refine lv_iconst (v := 0) E.1 E.2.1 dX7_fits_208 (by decide) ?_
        exact x_zrc E h (by decide) hf dX7_fits_209
      · refine lv_iconst (v := 1) E.1 E.2.1 dX7_fits_204 (by decide) ?_
        refine lv_goto (tgt := 209) E.1 E.2.1 dX7_fits_205 (by decide) ?_
        exact x_zrc E h (by decide) hf dX7_fits_209
  refine x_case hf (fun c9 hf => ?_) (fun c216 hf => ?_)
  · refine lv_lookup (tgt := 227) E.1 E.2.1 dX7_fits_1 (by decide) (by rw [c9]) (by decide) ?_
    refine lv_iload_n E.1 E.2.1 dX7_fits_227 rfl (lv_at hl 2 rfl) ?_
    refine lv_iconst (v := 1) E.1 E.2.1 dX7_fits_228 (by decide) ?_
    refine x_br hf (lv_icmp_lt (tgt := 242) E.1 E.2.1 dX7_fits_229 (by decide)) (fun hf => ?_) (fun hf => ?_)
    · refine lv_iconst (v := 0) E.1 E.2.1 dX7_fits_242 (by decide) ?_
      exact x_zrc E h (by decide) hf dX7_fits_243
    · refine lv_iload_n E.1 E.2.1 dX7_fits_232 rfl (lv_at hl 2 rfl) ?_
      refine lv_bipush (v := 20) E.1 E.2.1 dX7_fits_233 (by decide) ?_
      refine x_br hf (lv_icmp_gt (tgt := 242) E.1 E.2.1 dX7_fits_235 (by decide)) (fun hf => ?_) (fun hf => ?_)
      · refine lv_iconst (v := 0) E.1 E.2.1 dX7_fits_242 (by decide) ?_
        exact x_zrc E h (by decide) hf dX7_fits_243
      · refine lv_iconst (v := 1) E.1 E.2.1 dX7_fits_238 (by decide) ?_
        refine lv_goto (tgt := 243) E.1 E.2.1 dX7_fits_239 (by decide) ?_
        exact x_zrc E h (by decide) hf dX7_fits_243
  refine x_case hf (fun c9 hf => ?_) (fun c219 hf => ?_)
  · refine lv_lookup (tgt := 181) E.1 E.2.1 dX7_fits_1 (by decide) (by rw [c9]) (by decide) ?_
    refine lv_iload_n E.1 E.2.1 dX7_fits_181 rfl (lv_at hl 2 rfl) ?_
    refine lv_bipush (v := 9) E.1 E.2.1 dX7_fits_182 (by decide) ?_
    refine x_br hf (lv_icmp_gt (tgt := 191) E.1 E.2.1 dX7_fits_184 (by decide)) (fun hf => ?_) (fun hf => ?_)
    · refine lv_iconst (v := 0) E.1 E.2.1 dX7_fits_191 (by decide) ?_
      exact x_zrc E h (by decide) hf dX7_fits_192
    · refine lv_iconst (v := 1) E.1 E.2.1 dX7_fits_187 (by decide) ?_
      refine lv_goto (tgt := 192) E.1 E.2.1 dX7_fits_188 (by decide) ?_
      exact x_zrc E h (by decide) hf dX7_fits_192
  refine lv_lookup (tgt := 278) E.1 E.2.1 dX7_fits_1 (by decide) (x_lkout (ks := [67, 72, 99, 102, 103, 104, 110, 114, 115, 116, 119]) rfl (fun z hz => ?_)) (by decide) ?_
  · simp only [List.mem_cons, List.not_mem_nil, or_false] at hz
    rcases hz with rfl | rfl | rfl | rfl | rfl | rfl | rfl | rfl | rfl | rfl | rfl
    · exact c167
    · exact c172
    · exact c199
    · exact c202
    · exact c203
    · exact c204
    · exact c210
    · exact c214
    · exact c215
    · exact c216
    · exact c219
  · refine lv_iconst (v := 0) E.1 E.2.1 dX7_fits_278 (by decide) ?_
    exact x_zrc E h (by decide) hf dX7_fits_279
def f_X2_forget (S : XS) : Option (XS) := (xlet (xput S 0 2 0) fun S1 => some S1)
set_option maxHeartbeats 4000000 in
set_option maxRecDepth 100000 in
theorem c_X2_forget (l : Launch) (D : va_G) (cy : Nat → ClassId) (s00 : State) (ad : Nat → Nat) (S : XS) (S9 : XS) (hf : f_X2_forget S = some S9) : XV l yX2_forget cX2_forget 1 none 0 D cy s00 shHist ad S [.ref (ad 0)] S9 := by
  refine XV.of (by decide) [(0, .ref (ad 0))] rfl (Nat.le_of_ble_eq_true rfl) (fun p e s m args below meth c A ls E h hl => ?_)
  unfold f_X2_forget at hf
  refine lv_aload_n E.1 E.2.1 dX2_forget_0 rfl (lv_at hl 0 rfl) ?_
  refine lv_iconst (v := 0) E.1 E.2.1 dX2_forget_1 (by decide) ?_
  refine x_put (ty := .int) E h 0 2 hf rfl rfl rfl (by decide) xinX2 tyX2_ok nmX2 kw265 rfl (by decide +kernel) rfl rfl dX2_forget_2 (fun S1 H locs hf h => ?_)
  exact x_vret E h hf dX2_forget_5
def f_X5_put (S : XS) (p0 : Int32) : Option (XS) := (if 59 ≤ (S 0 1) then some S else ((xwr (S 0 1) 59).bind fun j2 => xlet (xput S 1 j2 (vp_nar .byte (p0).toInt8.toInt32)) fun S1 => (xlet (xput S1 0 1 ((S1 0 1) + 1)) fun S3 => some S3)))
set_option maxHeartbeats 4000000 in
set_option maxRecDepth 100000 in
theorem c_X5_put (l : Launch) (D : va_G) (cy : Nat → ClassId) (s00 : State) (ad : Nat → Nat) (S : XS) (p0 : Int32) (S9 : XS) (hf : f_X5_put S p0 = some S9) : XV l yX5_put cX5_put 2 none 0 D cy s00 shRep ad S [.ref (ad 0), .int p0] S9 := by
  refine XV.of (by decide) [(0, .ref (ad 0)), (1, .int p0)] rfl (Nat.le_of_ble_eq_true rfl) (fun p e s m args below meth c A ls E h hl => ?_)
  unfold f_X5_put at hf
  refine lv_aload_n E.1 E.2.1 dX5_put_0 rfl (lv_at hl 0 rfl) ?_
  refine x_get E h 0 1 rfl rfl rfl (by decide) xinX5 kw356 dX5_put_1 ?_
  refine lv_bipush (v := 59) E.1 E.2.1 dX5_put_4 (by decide) ?_
  refine x_br hf (lv_icmp_ge (tgt := 30) E.1 E.2.1 dX5_put_6 (by decide)) (fun hf => ?_) (fun hf => ?_)
  · exact x_vret E h hf dX5_put_30
  · refine lv_aload_n E.1 E.2.1 dX5_put_9 rfl (lv_at hl 0 rfl) ?_
    refine x_getr E h 0 0 1 rfl rfl rfl (by decide) xinX5 kw354 dX5_put_10 ?_
    refine lv_aload_n E.1 E.2.1 dX5_put_13 rfl (lv_at hl 0 rfl) ?_
    refine x_get E h 0 1 rfl rfl rfl (by decide) xinX5 kw356 dX5_put_14 ?_
    refine lv_iload_n E.1 E.2.1 dX5_put_17 rfl (lv_at hl 1 rfl) ?_
    refine lv_i2b E.1 E.2.1 dX5_put_18 rfl ?_
    refine x_bast E h 1 hf rfl dX5_put_19 (fun S1 H locs hf h => ?_)
    refine lv_aload_n E.1 E.2.1 dX5_put_20 rfl (lv_at hl 0 rfl) ?_
    refine lv_dup E.1 E.2.1 dX5_put_21 rfl ?_
    refine x_get E h 0 1 rfl rfl rfl (by decide) xinX5 kw356 dX5_put_22 ?_
    refine lv_iconst (v := 1) E.1 E.2.1 dX5_put_25 (by decide) ?_
    refine lv_iadd E.1 E.2.1 dX5_put_26 ?_
    refine x_put (ty := .int) E h 0 1 hf rfl rfl rfl (by decide) xinX5 tyX5_ok nmX5 kw356 rfl (by decide +kernel) rfl rfl dX5_put_27 (fun S3 H locs hf h => ?_)
    exact x_vret E h hf dX5_put_30
def f_X5_putCat (S : XS) (p0 p1 : Int32) : Option (XS) := (if p1 = (-1) then some S else ((f_X5_put S p0).bind fun S1 => ((f_X5_put S1 (48 + p1)).bind fun S2 => some S2)))
set_option maxHeartbeats 4000000 in
set_option maxRecDepth 100000 in
theorem c_X5_putCat (l : Launch) (D : va_G) (cy : Nat → ClassId) (s00 : State) (ad : Nat → Nat) (S : XS) (p0 p1 : Int32) (S9 : XS) (hf : f_X5_putCat S p0 p1 = some S9) : XV l yX5_putCat cX5_putCat 3 none 1 D cy s00 shRep ad S [.ref (ad 0), .int p0, .int p1] S9 := by
  refine XV.of (by decide) [(0, .ref (ad 0)), (1, .int p0), (2, .int p1)] rfl (Nat.le_of_ble_eq_true rfl) (fun p e s m args below meth c A ls E h hl => ?_)
  unfold f_X5_putCat at hf
  refine lv_iload_n E.1 E.2.1 dX5_putCat_0 rfl (lv_at hl 2 rfl) ?_
  refine lv_iconst (v := (-1)) E.1 E.2.1 dX5_putCat_1 (by decide) ?_
  refine x_br hf (lv_icmp_eq (tgt := 18) E.1 E.2.1 dX5_putCat_2 (by decide)) (fun hf => ?_) (fun hf => ?_)
  · exact x_vret E h hf dX5_putCat_18
  · refine lv_aload_n E.1 E.2.1 dX5_putCat_5 rfl (lv_at hl 0 rfl) ?_
    refine lv_iload_n E.1 E.2.1 dX5_putCat_6 rfl (lv_at hl 1 rfl) ?_
    refine x_callv E h hl 0 hf (fun r0 hr => c_X5_put l D cy s00 _ S p0 r0 hr) m_X5_put rfl rfl kw856 rfl rfl (Nat.le_of_ble_eq_true rfl) ⟨by decide, by decide⟩ ⟨Nat.zero_le _, Nat.zero_le _⟩ dX5_putCat_7 (fun S1 H locs hf h => ?_)
    refine lv_aload_n E.1 E.2.1 dX5_putCat_10 rfl (lv_at hl 0 rfl) ?_
    refine lv_bipush (v := 48) E.1 E.2.1 dX5_putCat_11 (by decide) ?_
    refine lv_iload_n E.1 E.2.1 dX5_putCat_13 rfl (lv_at hl 2 rfl) ?_
    refine lv_iadd E.1 E.2.1 dX5_putCat_14 ?_
    refine x_callv E h hl 0 hf (fun r0 hr => c_X5_put l D cy s00 _ S1 (48 + p1) r0 hr) m_X5_put rfl rfl kw856 rfl rfl (Nat.le_of_ble_eq_true rfl) ⟨by decide, by decide⟩ ⟨Nat.zero_le _, Nat.zero_le _⟩ dX5_putCat_15 (fun S2 H locs hf h => ?_)
    exact x_vret E h hf dX5_putCat_18
