set_option maxHeartbeats 4000000 in
set_option maxRecDepth 100000 in
theorem w_Lc42 {p : Program} {l : Launch} {e : Env} {s : State} {m : MethodId} {args : Array Value} {below : List Frame} {meth : Method} {c : Code} {D : va_G} {cy : Nat → ClassId} {s00 : State} {ad : Nat → Nat} {A : Nat → Prop} {Q : State → Prop} {b L : Nat} {sx : Nat → Int32} {rt : Option FieldType} (hX : va_X b L sx s s.heap) (hb : b < s.heap.size ∧ ¬ A b) (hT : l.stackTraces = false ∧ XDW s00) (hG : XG s00) {tE : xEnT} (hEn : XEn s00 tE) (hNc : XNc s00) {c0 m0 : Nat} (hc0 : c0 + 6 ≤ room_1.cells) (hm0 : m0 + 36 ≤ room_1.slots) {K : XS → Option Unit} {m4 : Int32} (E : XE p s m args meth c cL_law 9 RL rt D cy s00) (hk : ∀ (S1 : XS) (H : Heap) (locs : List Loc) (ls : Array Slot), K S1 = some () → XH D cy s00 shLaw ad S1 A s H locs → lv_has ls 9 [(4, .int m4), (3, .ref (ad 154)), (2, .ref (ad 155)), (1, .ref (ad 0)), (0, .ref b)] → W p l e room_1 s m args below meth c H locs (c0 + 6) (m0 + 36) Q (F0 m 2957 ls [])) (S : XS) (H : Heap) (locs : List Loc) (ls : Array Slot) (hf : f_Lc42 L sx K m4 S = some ()) (h : XH D cy s00 shLaw ad S A s H locs) (hl : lv_has ls 9 [(4, .int m4), (3, .ref (ad 154)), (2, .ref (ad 155)), (1, .ref (ad 0)), (0, .ref b)]) : W p l e room_1 s m args below meth c H locs c0 m0 Q (F0 m 2351 ls []) := by
  unfold f_Lc42 at hf
  refine lv_aload_n E.1 E.2.1 dL_law_2351 rfl (lv_at hl 3 rfl) ?_
  refine lv_aload_n E.1 E.2.1 dL_law_2352 rfl (lv_at hl 4 rfl) ?_
  refine lv_iload E.1 E.2.1 dL_law_2353 (lv_at hl 0 rfl) ?_
  refine lv_iconst (v := 1) E.1 E.2.1 dL_law_2355 (by decide) ?_
  refine lv_iadd E.1 E.2.1 dL_law_2356 ?_
  refine x_sld hX hb E h hf dL_law_2357 (fun v1 hf => ?_)
  refine lv_aload_n E.1 E.2.1 dL_law_2358 rfl (lv_at hl 1 rfl) ?_
  refine x_callW E h hl hf xsub_lawW (fun r0 Sq0 hr => c_L_whyNoClaim l D cy s00 _ hT hG hNc (xs 0 S) v1 r0 Sq0 hr) mw_L_whyNoClaim ⟨by decide +kernel, by decide +kernel, (by decide +kernel : (parseMethodDescriptor yL_whyNoClaim.desc).map (fun d => d.parameters.length) = some 3)⟩ kw1257 rfl rfl (Nat.le_of_ble_eq_true rfl) ⟨Nat.le_of_ble_eq_true rfl, Nat.le_of_ble_eq_true rfl⟩ ⟨by omega, by omega⟩ dL_law_2359 (fun v2 S3 H locs hf h => ?_)
  refine lv_istore (lv' := [(5, .int v2), (4, .int m4), (3, .ref (ad 154)), (2, .ref (ad 155)), (1, .ref (ad 0)), (0, .ref b)]) E.1 E.2.1 dL_law_2362 hl (by decide) rfl (fun ls hl => ?_)
  refine lv_aload_n E.1 E.2.1 dL_law_2364 rfl (lv_at hl 3 rfl) ?_
  refine lv_aload_n E.1 E.2.1 dL_law_2365 rfl (lv_at hl 5 rfl) ?_
  refine lv_iload E.1 E.2.1 dL_law_2366 (lv_at hl 1 rfl) ?_
  refine lv_iconst (v := 1) E.1 E.2.1 dL_law_2368 (by decide) ?_
  refine lv_iadd E.1 E.2.1 dL_law_2369 ?_
  refine x_sld hX hb E h hf dL_law_2370 (fun v4 hf => ?_)
  refine x_calloi E h hl 155 155 hf xsub_lawM (fun r0 Sq0 hr => c_X9_whyNoClaim l D cy s00 _ (xs 155 S3) v4 r0 Sq0 hr) m_X9_whyNoClaim rfl rfl kw1916 rfl rfl (Nat.le_of_ble_eq_true rfl) ⟨Nat.le_of_ble_eq_true rfl, Nat.le_of_ble_eq_true rfl⟩ ⟨by omega, by omega⟩ dL_law_2371 (fun v5 S6 H locs hf h => ?_)
  refine lv_istore (lv' := [(6, .int v5), (5, .int v2), (4, .int m4), (3, .ref (ad 154)), (2, .ref (ad 155)), (1, .ref (ad 0)), (0, .ref b)]) E.1 E.2.1 dL_law_2374 hl (by decide) rfl (fun ls hl => ?_)
  refine lv_aload_n E.1 E.2.1 dL_law_2376 rfl (lv_at hl 4 rfl) ?_
  refine x_callop E h hl 155 155 hf xsub_lawM (fun r0 hr => c_X9_thrown l D cy s00 _ (xs 155 S6)  r0 hr) m_X9_thrown rfl rfl kw1681 rfl rfl (Nat.le_of_ble_eq_true rfl) ⟨Nat.le_of_ble_eq_true rfl, Nat.le_of_ble_eq_true rfl⟩ ⟨by omega, by omega⟩ dL_law_2377 (fun v7 H locs hf h => ?_)
  refine lv_iload E.1 E.2.1 dL_law_2380 (lv_at hl 1 rfl) ?_
  refine x_br hf (lv_icmp_eq (tgt := 2387) E.1 E.2.1 dL_law_2382 (by decide)) (fun hf => ?_) (fun hf => ?_)
  · refine lv_iload E.1 E.2.1 dL_law_2387 (lv_at hl 1 rfl) ?_
    refine x_brn hf (lv_if_ne (tgt := 2404) E.1 E.2.1 dL_law_2389 (by decide)) (fun hf => ?_) (fun hf => ?_)
    · refine lv_goto (tgt := 2957) E.1 E.2.1 dL_law_2404 (by decide) ?_
      exact x_wid ⟨by omega, by omega⟩ (hk _ H locs ls hf h (lv_sub hl [2, 3, 4, 5, 6] rfl))
    · refine lv_aload_n E.1 E.2.1 dL_law_2392 rfl (lv_at hl 3 rfl) ?_
      refine lv_iconst (v := 0) E.1 E.2.1 dL_law_2393 (by decide) ?_
      refine x_lald1 E h 154 rfl dL_law_2394 ?_
      refine lv_iload E.1 E.2.1 dL_law_2395 (lv_at hl 0 rfl) ?_
      refine lv_i2l E.1 E.2.1 dL_law_2397 rfl ?_
      refine W.lcmp E.1 E.2.1 dL_law_2398 ?_
      refine x_bre (lg_cmp0 _ _) hf (lv_if_eq (tgt := 2404) E.1 E.2.1 dL_law_2399 (by decide)) (fun hf => ?_) (fun hf => ?_)
      · refine lv_goto (tgt := 2957) E.1 E.2.1 dL_law_2404 (by decide) ?_
        exact x_wid ⟨by omega, by omega⟩ (hk _ H locs ls hf h (lv_sub hl [2, 3, 4, 5, 6] rfl))
      · cases hf
  · cases hf
set_option maxHeartbeats 4000000 in
set_option maxRecDepth 100000 in
theorem w_Lc43 {p : Program} {l : Launch} {e : Env} {s : State} {m : MethodId} {args : Array Value} {below : List Frame} {meth : Method} {c : Code} {D : va_G} {cy : Nat → ClassId} {s00 : State} {ad : Nat → Nat} {A : Nat → Prop} {Q : State → Prop} {b L : Nat} {sx : Nat → Int32} {rt : Option FieldType} (hX : va_X b L sx s s.heap) (hb : b < s.heap.size ∧ ¬ A b) (hT : l.stackTraces = false ∧ XDW s00) (hG : XG s00) {tE : xEnT} (hEn : XEn s00 tE) (hNc : XNc s00) {c0 m0 : Nat} (hc0 : c0 + 6 ≤ room_1.cells) (hm0 : m0 + 36 ≤ room_1.slots) {K : XS → Option Unit} {m4 : Int32} (E : XE p s m args meth c cL_law 9 RL rt D cy s00) (hk : ∀ (S1 : XS) (H : Heap) (locs : List Loc) (ls : Array Slot), K S1 = some () → XH D cy s00 shLaw ad S1 A s H locs → lv_has ls 9 [(4, .int m4), (3, .ref (ad 154)), (2, .ref (ad 155)), (1, .ref (ad 0)), (0, .ref b)] → W p l e room_1 s m args below meth c H locs (c0 + 6) (m0 + 36) Q (F0 m 2957 ls [])) (S : XS) (H : Heap) (locs : List Loc) (ls : Array Slot) (hf : f_Lc43 L sx K m4 S = some ()) (h : XH D cy s00 shLaw ad S A s H locs) (hl : lv_has ls 9 [(4, .int m4), (3, .ref (ad 154)), (2, .ref (ad 155)), (1, .ref (ad 0)), (0, .ref b)]) : W p l e room_1 s m args below meth c H locs c0 m0 Q (F0 m 2407 ls []) := by
  unfold f_Lc43 at hf
  refine lv_aload_n E.1 E.2.1 dL_law_2407 rfl (lv_at hl 3 rfl) ?_
  refine lv_aload_n E.1 E.2.1 dL_law_2408 rfl (lv_at hl 4 rfl) ?_
  refine lv_iload E.1 E.2.1 dL_law_2409 (lv_at hl 0 rfl) ?_
  refine lv_iconst (v := 1) E.1 E.2.1 dL_law_2411 (by decide) ?_
  refine lv_iadd E.1 E.2.1 dL_law_2412 ?_
  refine x_sld hX hb E h hf dL_law_2413 (fun v1 hf => ?_)
  refine lv_aload_n E.1 E.2.1 dL_law_2414 rfl (lv_at hl 4 rfl) ?_
  refine lv_iload E.1 E.2.1 dL_law_2415 (lv_at hl 0 rfl) ?_
  refine lv_iconst (v := 2) E.1 E.2.1 dL_law_2417 (by decide) ?_
  refine lv_iadd E.1 E.2.1 dL_law_2418 ?_
  refine x_sld hX hb E h hf dL_law_2419 (fun v2 hf => ?_)
  refine lv_aload_n E.1 E.2.1 dL_law_2420 rfl (lv_at hl 1 rfl) ?_
  refine x_callW E h hl hf xsub_lawW (fun r0 Sq0 hr => c_L_whyNoChase l D cy s00 _ hT hG hNc (xs 0 S) v1 v2 r0 Sq0 hr) mw_L_whyNoChase ⟨by decide +kernel, by decide +kernel, (by decide +kernel : (parseMethodDescriptor yL_whyNoChase.desc).map (fun d => d.parameters.length) = some 4)⟩ kw1264 rfl rfl (Nat.le_of_ble_eq_true rfl) ⟨Nat.le_of_ble_eq_true rfl, Nat.le_of_ble_eq_true rfl⟩ ⟨by omega, by omega⟩ dL_law_2421 (fun v3 S4 H locs hf h => ?_)
  refine lv_istore (lv' := [(5, .int v3), (4, .int m4), (3, .ref (ad 154)), (2, .ref (ad 155)), (1, .ref (ad 0)), (0, .ref b)]) E.1 E.2.1 dL_law_2424 hl (by decide) rfl (fun ls hl => ?_)
  refine lv_aload_n E.1 E.2.1 dL_law_2426 rfl (lv_at hl 3 rfl) ?_
  refine lv_aload_n E.1 E.2.1 dL_law_2427 rfl (lv_at hl 5 rfl) ?_
  refine lv_iload E.1 E.2.1 dL_law_2428 (lv_at hl 1 rfl) ?_
  refine lv_iconst (v := 1) E.1 E.2.1 dL_law_2430 (by decide) ?_
  refine lv_iadd E.1 E.2.1 dL_law_2431 ?_
  refine x_sld hX hb E h hf dL_law_2432 (fun v5 hf => ?_)
  refine lv_aload_n E.1 E.2.1 dL_law_2433 rfl (lv_at hl 5 rfl) ?_
  refine lv_iload E.1 E.2.1 dL_law_2434 (lv_at hl 1 rfl) ?_
  refine lv_iconst (v := 2) E.1 E.2.1 dL_law_2436 (by decide) ?_
  refine lv_iadd E.1 E.2.1 dL_law_2437 ?_
  refine x_sld hX hb E h hf dL_law_2438 (fun v6 hf => ?_)
  refine x_calloi E h hl 155 155 hf xsub_lawM (fun r0 Sq0 hr => c_X9_whyNoChase l D cy s00 _ (xs 155 S4) v5 v6 r0 Sq0 hr) m_X9_whyNoChase rfl rfl kw1920 rfl rfl (Nat.le_of_ble_eq_true rfl) ⟨Nat.le_of_ble_eq_true rfl, Nat.le_of_ble_eq_true rfl⟩ ⟨by omega, by omega⟩ dL_law_2439 (fun v7 S8 H locs hf h => ?_)
  refine lv_istore (lv' := [(6, .int v7), (5, .int v3), (4, .int m4), (3, .ref (ad 154)), (2, .ref (ad 155)), (1, .ref (ad 0)), (0, .ref b)]) E.1 E.2.1 dL_law_2442 hl (by decide) rfl (fun ls hl => ?_)
  refine lv_aload_n E.1 E.2.1 dL_law_2444 rfl (lv_at hl 4 rfl) ?_
  refine x_callop E h hl 155 155 hf xsub_lawM (fun r0 hr => c_X9_thrown l D cy s00 _ (xs 155 S8)  r0 hr) m_X9_thrown rfl rfl kw1681 rfl rfl (Nat.le_of_ble_eq_true rfl) ⟨Nat.le_of_ble_eq_true rfl, Nat.le_of_ble_eq_true rfl⟩ ⟨by omega, by omega⟩ dL_law_2445 (fun v9 H locs hf h => ?_)
  refine lv_iload E.1 E.2.1 dL_law_2448 (lv_at hl 1 rfl) ?_
  refine x_br hf (lv_icmp_eq (tgt := 2455) E.1 E.2.1 dL_law_2450 (by decide)) (fun hf => ?_) (fun hf => ?_)
  · refine lv_iload E.1 E.2.1 dL_law_2455 (lv_at hl 1 rfl) ?_
    refine x_brn hf (lv_if_ne (tgt := 2472) E.1 E.2.1 dL_law_2457 (by decide)) (fun hf => ?_) (fun hf => ?_)
    · refine lv_goto (tgt := 2957) E.1 E.2.1 dL_law_2472 (by decide) ?_
      exact x_wid ⟨by omega, by omega⟩ (hk _ H locs ls hf h (lv_sub hl [2, 3, 4, 5, 6] rfl))
    · refine lv_aload_n E.1 E.2.1 dL_law_2460 rfl (lv_at hl 3 rfl) ?_
      refine lv_iconst (v := 0) E.1 E.2.1 dL_law_2461 (by decide) ?_
      refine x_lald1 E h 154 rfl dL_law_2462 ?_
      refine lv_iload E.1 E.2.1 dL_law_2463 (lv_at hl 0 rfl) ?_
      refine lv_i2l E.1 E.2.1 dL_law_2465 rfl ?_
      refine W.lcmp E.1 E.2.1 dL_law_2466 ?_
      refine x_bre (lg_cmp0 _ _) hf (lv_if_eq (tgt := 2472) E.1 E.2.1 dL_law_2467 (by decide)) (fun hf => ?_) (fun hf => ?_)
      · refine lv_goto (tgt := 2957) E.1 E.2.1 dL_law_2472 (by decide) ?_
        exact x_wid ⟨by omega, by omega⟩ (hk _ H locs ls hf h (lv_sub hl [2, 3, 4, 5, 6] rfl))
      · cases hf
  · cases hf
set_option maxHeartbeats 4000000 in
set_option maxRecDepth 100000 in
theorem w_Lc44 {p : Program} {l : Launch} {e : Env} {s : State} {m : MethodId} {args : Array Value} {below : List Frame} {meth : Method} {c : Code} {D : va_G} {cy : Nat → ClassId} {s00 : State} {ad : Nat → Nat} {A : Nat → Prop} {Q : State → Prop} {b L : Nat} {sx : Nat → Int32} {rt : Option FieldType} (hX : va_X b L sx s s.heap) (hb : b < s.heap.size ∧ ¬ A b) (hT : l.stackTraces = false ∧ XDW s00) (hG : XG s00) {tE : xEnT} (hEn : XEn s00 tE) (hNc : XNc s00) {c0 m0 : Nat} (hc0 : c0 + 6 ≤ room_1.cells) (hm0 : m0 + 36 ≤ room_1.slots) {K : XS → Option Unit} {m4 : Int32} (E : XE p s m args meth c cL_law 9 RL rt D cy s00) (hk : ∀ (S1 : XS) (H : Heap) (locs : List Loc) (ls : Array Slot), K S1 = some () → XH D cy s00 shLaw ad S1 A s H locs → lv_has ls 9 [(4, .int m4), (3, .ref (ad 154)), (2, .ref (ad 155)), (1, .ref (ad 0)), (0, .ref b)] → W p l e room_1 s m args below meth c H locs (c0 + 6) (m0 + 36) Q (F0 m 2957 ls [])) (S : XS) (H : Heap) (locs : List Loc) (ls : Array Slot) (hf : f_Lc44 L sx K m4 S = some ()) (h : XH D cy s00 shLaw ad S A s H locs) (hl : lv_has ls 9 [(4, .int m4), (3, .ref (ad 154)), (2, .ref (ad 155)), (1, .ref (ad 0)), (0, .ref b)]) : W p l e room_1 s m args below meth c H locs c0 m0 Q (F0 m 2475 ls []) := by
  unfold f_Lc44 at hf
  refine lv_aload_n E.1 E.2.1 dL_law_2475 rfl (lv_at hl 3 rfl) ?_
  refine lv_aload_n E.1 E.2.1 dL_law_2476 rfl (lv_at hl 4 rfl) ?_
  refine lv_iload E.1 E.2.1 dL_law_2477 (lv_at hl 0 rfl) ?_
  refine lv_iconst (v := 1) E.1 E.2.1 dL_law_2479 (by decide) ?_
  refine lv_iadd E.1 E.2.1 dL_law_2480 ?_
  refine x_sld hX hb E h hf dL_law_2481 (fun v1 hf => ?_)
  refine lv_aload_n E.1 E.2.1 dL_law_2482 rfl (lv_at hl 1 rfl) ?_
  refine x_callW E h hl hf xsub_lawW (fun r0 Sq0 hr => c_L_preyOf l D cy s00 _ hT hG hNc (xs 0 S) v1 r0 Sq0 hr) mw_L_preyOf ⟨by decide +kernel, by decide +kernel, (by decide +kernel : (parseMethodDescriptor yL_preyOf.desc).map (fun d => d.parameters.length) = some 3)⟩ kw1271 rfl rfl (Nat.le_of_ble_eq_true rfl) ⟨Nat.le_of_ble_eq_true rfl, Nat.le_of_ble_eq_true rfl⟩ ⟨by omega, by omega⟩ dL_law_2483 (fun v2 S3 H locs hf h => ?_)
  refine lv_istore (lv' := [(5, .int v2), (4, .int m4), (3, .ref (ad 154)), (2, .ref (ad 155)), (1, .ref (ad 0)), (0, .ref b)]) E.1 E.2.1 dL_law_2486 hl (by decide) rfl (fun ls hl => ?_)
  refine lv_aload_n E.1 E.2.1 dL_law_2488 rfl (lv_at hl 3 rfl) ?_
  refine lv_aload_n E.1 E.2.1 dL_law_2489 rfl (lv_at hl 5 rfl) ?_
  refine lv_iload E.1 E.2.1 dL_law_2490 (lv_at hl 1 rfl) ?_
  refine lv_iconst (v := 1) E.1 E.2.1 dL_law_2492 (by decide) ?_
  refine lv_iadd E.1 E.2.1 dL_law_2493 ?_
  refine x_sld hX hb E h hf dL_law_2494 (fun v4 hf => ?_)
  refine x_calloi E h hl 155 155 hf xsub_lawM (fun r0 Sq0 hr => c_X9_preyOf l D cy s00 _ (xs 155 S3) v4 r0 Sq0 hr) m_X9_preyOf rfl rfl kw1924 rfl rfl (Nat.le_of_ble_eq_true rfl) ⟨Nat.le_of_ble_eq_true rfl, Nat.le_of_ble_eq_true rfl⟩ ⟨by omega, by omega⟩ dL_law_2495 (fun v5 S6 H locs hf h => ?_)
  refine lv_istore (lv' := [(6, .int v5), (5, .int v2), (4, .int m4), (3, .ref (ad 154)), (2, .ref (ad 155)), (1, .ref (ad 0)), (0, .ref b)]) E.1 E.2.1 dL_law_2498 hl (by decide) rfl (fun ls hl => ?_)
  refine lv_aload_n E.1 E.2.1 dL_law_2500 rfl (lv_at hl 4 rfl) ?_
  refine x_callop E h hl 155 155 hf xsub_lawM (fun r0 hr => c_X9_thrown l D cy s00 _ (xs 155 S6)  r0 hr) m_X9_thrown rfl rfl kw1681 rfl rfl (Nat.le_of_ble_eq_true rfl) ⟨Nat.le_of_ble_eq_true rfl, Nat.le_of_ble_eq_true rfl⟩ ⟨by omega, by omega⟩ dL_law_2501 (fun v7 H locs hf h => ?_)
  refine lv_iload E.1 E.2.1 dL_law_2504 (lv_at hl 1 rfl) ?_
  refine x_br hf (lv_icmp_eq (tgt := 2511) E.1 E.2.1 dL_law_2506 (by decide)) (fun hf => ?_) (fun hf => ?_)
  · refine lv_iload E.1 E.2.1 dL_law_2511 (lv_at hl 1 rfl) ?_
    refine x_brn hf (lv_if_ne (tgt := 2528) E.1 E.2.1 dL_law_2513 (by decide)) (fun hf => ?_) (fun hf => ?_)
    · refine lv_goto (tgt := 2957) E.1 E.2.1 dL_law_2528 (by decide) ?_
      exact x_wid ⟨by omega, by omega⟩ (hk _ H locs ls hf h (lv_sub hl [2, 3, 4, 5, 6] rfl))
    · refine lv_aload_n E.1 E.2.1 dL_law_2516 rfl (lv_at hl 3 rfl) ?_
      refine lv_iconst (v := 0) E.1 E.2.1 dL_law_2517 (by decide) ?_
      refine x_lald1 E h 154 rfl dL_law_2518 ?_
      refine lv_iload E.1 E.2.1 dL_law_2519 (lv_at hl 0 rfl) ?_
      refine lv_i2l E.1 E.2.1 dL_law_2521 rfl ?_
      refine W.lcmp E.1 E.2.1 dL_law_2522 ?_
      refine x_bre (lg_cmp0 _ _) hf (lv_if_eq (tgt := 2528) E.1 E.2.1 dL_law_2523 (by decide)) (fun hf => ?_) (fun hf => ?_)
      · refine lv_goto (tgt := 2957) E.1 E.2.1 dL_law_2528 (by decide) ?_
        exact x_wid ⟨by omega, by omega⟩ (hk _ H locs ls hf h (lv_sub hl [2, 3, 4, 5, 6] rfl))
      · cases hf
  · cases hf
set_option maxHeartbeats 4000000 in
set_option maxRecDepth 100000 in
theorem w_Lc45 {p : Program} {l : Launch} {e : Env} {s : State} {m : MethodId} {args : Array Value} {below : List Frame} {meth : Method} {c : Code} {D : va_G} {cy : Nat → ClassId} {s00 : State} {ad : Nat → Nat} {A : Nat → Prop} {Q : State → Prop} {b L : Nat} {sx : Nat → Int32} {rt : Option FieldType} (hX : va_X b L sx s s.heap) (hb : b < s.heap.size ∧ ¬ A b) (hT : l.stackTraces = false ∧ XDW s00) (hG : XG s00) {tE : xEnT} (hEn : XEn s00 tE) (hNc : XNc s00) {c0 m0 : Nat} (hc0 : c0 + 6 ≤ room_1.cells) (hm0 : m0 + 36 ≤ room_1.slots) {K : XS → Option Unit} {m4 : Int32} (E : XE p s m args meth c cL_law 9 RL rt D cy s00) (hk : ∀ (S1 : XS) (H : Heap) (locs : List Loc) (ls : Array Slot), K S1 = some () → XH D cy s00 shLaw ad S1 A s H locs → lv_has ls 9 [(4, .int m4), (3, .ref (ad 154)), (2, .ref (ad 155)), (1, .ref (ad 0)), (0, .ref b)] → W p l e room_1 s m args below meth c H locs (c0 + 6) (m0 + 36) Q (F0 m 2957 ls [])) (S : XS) (H : Heap) (locs : List Loc) (ls : Array Slot) (hf : f_Lc45 L sx K m4 S = some ()) (h : XH D cy s00 shLaw ad S A s H locs) (hl : lv_has ls 9 [(4, .int m4), (3, .ref (ad 154)), (2, .ref (ad 155)), (1, .ref (ad 0)), (0, .ref b)]) : W p l e room_1 s m args below meth c H locs c0 m0 Q (F0 m 2531 ls []) := by
  unfold f_Lc45 at hf
  refine lv_aload_n E.1 E.2.1 dL_law_2531 rfl (lv_at hl 3 rfl) ?_
  refine x_callop E h hl 0 0 hf xsub_lawX (fun r0 hr => c_X8_isKittenWaiting l D cy s00 _ (xs 0 S)  r0 hr) m_X8_isKittenWaiting rfl rfl kw781 rfl rfl (Nat.le_of_ble_eq_true rfl) ⟨Nat.le_of_ble_eq_true rfl, Nat.le_of_ble_eq_true rfl⟩ ⟨by omega, by omega⟩ dL_law_2532 (fun v1 H locs hf h => ?_)
  refine lv_aload_n E.1 E.2.1 dL_law_2535 rfl (lv_at hl 2 rfl) ?_
  refine x_calloi E h hl 155 155 hf xsub_lawM (fun r0 Sq0 hr => c_X9_isKittenWaiting l D cy s00 _ (xs 155 S)  r0 Sq0 hr) m_X9_isKittenWaiting rfl rfl kw1928 rfl rfl (Nat.le_of_ble_eq_true rfl) ⟨Nat.le_of_ble_eq_true rfl, Nat.le_of_ble_eq_true rfl⟩ ⟨by omega, by omega⟩ dL_law_2536 (fun v2 S3 H locs hf h => ?_)
  refine x_br hf (lv_icmp_eq (tgt := 2957) E.1 E.2.1 dL_law_2539 (by decide)) (fun hf => ?_) (fun hf => ?_)
  · exact x_wid ⟨by omega, by omega⟩ (hk _ H locs ls hf h (lv_sub hl [0, 1, 2, 3, 4] rfl))
  · cases hf
set_option maxHeartbeats 4000000 in
set_option maxRecDepth 100000 in
theorem w_Lc46 {p : Program} {l : Launch} {e : Env} {s : State} {m : MethodId} {args : Array Value} {below : List Frame} {meth : Method} {c : Code} {D : va_G} {cy : Nat → ClassId} {s00 : State} {ad : Nat → Nat} {A : Nat → Prop} {Q : State → Prop} {b L : Nat} {sx : Nat → Int32} {rt : Option FieldType} (hX : va_X b L sx s s.heap) (hb : b < s.heap.size ∧ ¬ A b) (hT : l.stackTraces = false ∧ XDW s00) (hG : XG s00) {tE : xEnT} (hEn : XEn s00 tE) (hNc : XNc s00) {c0 m0 : Nat} (hc0 : c0 + 6 ≤ room_1.cells) (hm0 : m0 + 36 ≤ room_1.slots) {K : XS → Option Unit} {m4 : Int32} (E : XE p s m args meth c cL_law 9 RL rt D cy s00) (hk : ∀ (S1 : XS) (H : Heap) (locs : List Loc) (ls : Array Slot), K S1 = some () → XH D cy s00 shLaw ad S1 A s H locs → lv_has ls 9 [(4, .int m4), (3, .ref (ad 154)), (2, .ref (ad 155)), (1, .ref (ad 0)), (0, .ref b)] → W p l e room_1 s m args below meth c H locs (c0 + 6) (m0 + 36) Q (F0 m 2957 ls [])) (S : XS) (H : Heap) (locs : List Loc) (ls : Array Slot) (hf : f_Lc46 L sx K m4 S = some ()) (h : XH D cy s00 shLaw ad S A s H locs) (hl : lv_has ls 9 [(4, .int m4), (3, .ref (ad 154)), (2, .ref (ad 155)), (1, .ref (ad 0)), (0, .ref b)]) : W p l e room_1 s m args below meth c H locs c0 m0 Q (F0 m 2544 ls []) := by
  unfold f_Lc46 at hf
  refine lv_aload_n E.1 E.2.1 dL_law_2544 rfl (lv_at hl 3 rfl) ?_
  refine x_callop E h hl 0 0 hf xsub_lawX (fun r0 hr => c_X8_votesFor l D cy s00 _ (xs 0 S)  r0 hr) m_X8_votesFor rfl rfl kw785 rfl rfl (Nat.le_of_ble_eq_true rfl) ⟨Nat.le_of_ble_eq_true rfl, Nat.le_of_ble_eq_true rfl⟩ ⟨by omega, by omega⟩ dL_law_2545 (fun v1 H locs hf h => ?_)
  refine lv_aload_n E.1 E.2.1 dL_law_2548 rfl (lv_at hl 2 rfl) ?_
  refine x_calloi E h hl 155 155 hf xsub_lawM (fun r0 Sq0 hr => c_X9_votesFor l D cy s00 _ (xs 155 S)  r0 Sq0 hr) m_X9_votesFor rfl rfl kw1932 rfl rfl (Nat.le_of_ble_eq_true rfl) ⟨Nat.le_of_ble_eq_true rfl, Nat.le_of_ble_eq_true rfl⟩ ⟨by omega, by omega⟩ dL_law_2549 (fun v2 S3 H locs hf h => ?_)
  refine x_br hf (lv_icmp_eq (tgt := 2957) E.1 E.2.1 dL_law_2552 (by decide)) (fun hf => ?_) (fun hf => ?_)
  · exact x_wid ⟨by omega, by omega⟩ (hk _ H locs ls hf h (lv_sub hl [0, 1, 2, 3, 4] rfl))
  · cases hf
set_option maxHeartbeats 4000000 in
set_option maxRecDepth 100000 in
theorem w_Lc47 {p : Program} {l : Launch} {e : Env} {s : State} {m : MethodId} {args : Array Value} {below : List Frame} {meth : Method} {c : Code} {D : va_G} {cy : Nat → ClassId} {s00 : State} {ad : Nat → Nat} {A : Nat → Prop} {Q : State → Prop} {b L : Nat} {sx : Nat → Int32} {rt : Option FieldType} (hX : va_X b L sx s s.heap) (hb : b < s.heap.size ∧ ¬ A b) (hT : l.stackTraces = false ∧ XDW s00) (hG : XG s00) {tE : xEnT} (hEn : XEn s00 tE) (hNc : XNc s00) {c0 m0 : Nat} (hc0 : c0 + 6 ≤ room_1.cells) (hm0 : m0 + 36 ≤ room_1.slots) {K : XS → Option Unit} {m4 : Int32} (E : XE p s m args meth c cL_law 9 RL rt D cy s00) (hk : ∀ (S1 : XS) (H : Heap) (locs : List Loc) (ls : Array Slot), K S1 = some () → XH D cy s00 shLaw ad S1 A s H locs → lv_has ls 9 [(4, .int m4), (3, .ref (ad 154)), (2, .ref (ad 155)), (1, .ref (ad 0)), (0, .ref b)] → W p l e room_1 s m args below meth c H locs (c0 + 6) (m0 + 36) Q (F0 m 2957 ls [])) (S : XS) (H : Heap) (locs : List Loc) (ls : Array Slot) (hf : f_Lc47 L sx K m4 S = some ()) (h : XH D cy s00 shLaw ad S A s H locs) (hl : lv_has ls 9 [(4, .int m4), (3, .ref (ad 154)), (2, .ref (ad 155)), (1, .ref (ad 0)), (0, .ref b)]) : W p l e room_1 s m args below meth c H locs c0 m0 Q (F0 m 2557 ls []) := by
  unfold f_Lc47 at hf
  refine lv_aload_n E.1 E.2.1 dL_law_2557 rfl (lv_at hl 3 rfl) ?_
  refine x_callop E h hl 0 0 hf xsub_lawX (fun r0 hr => c_X8_votesAgainst l D cy s00 _ (xs 0 S)  r0 hr) m_X8_votesAgainst rfl rfl kw790 rfl rfl (Nat.le_of_ble_eq_true rfl) ⟨Nat.le_of_ble_eq_true rfl, Nat.le_of_ble_eq_true rfl⟩ ⟨by omega, by omega⟩ dL_law_2558 (fun v1 H locs hf h => ?_)
  refine lv_aload_n E.1 E.2.1 dL_law_2561 rfl (lv_at hl 2 rfl) ?_
  refine x_calloi E h hl 155 155 hf xsub_lawM (fun r0 Sq0 hr => c_X9_votesAgainst l D cy s00 _ (xs 155 S)  r0 Sq0 hr) m_X9_votesAgainst rfl rfl kw1936 rfl rfl (Nat.le_of_ble_eq_true rfl) ⟨Nat.le_of_ble_eq_true rfl, Nat.le_of_ble_eq_true rfl⟩ ⟨by omega, by omega⟩ dL_law_2562 (fun v2 S3 H locs hf h => ?_)
  refine x_br hf (lv_icmp_eq (tgt := 2957) E.1 E.2.1 dL_law_2565 (by decide)) (fun hf => ?_) (fun hf => ?_)
  · exact x_wid ⟨by omega, by omega⟩ (hk _ H locs ls hf h (lv_sub hl [0, 1, 2, 3, 4] rfl))
  · cases hf
set_option maxHeartbeats 4000000 in
set_option maxRecDepth 100000 in
theorem w_Lc48 {p : Program} {l : Launch} {e : Env} {s : State} {m : MethodId} {args : Array Value} {below : List Frame} {meth : Method} {c : Code} {D : va_G} {cy : Nat → ClassId} {s00 : State} {ad : Nat → Nat} {A : Nat → Prop} {Q : State → Prop} {b L : Nat} {sx : Nat → Int32} {rt : Option FieldType} (hX : va_X b L sx s s.heap) (hb : b < s.heap.size ∧ ¬ A b) (hT : l.stackTraces = false ∧ XDW s00) (hG : XG s00) {tE : xEnT} (hEn : XEn s00 tE) (hNc : XNc s00) {c0 m0 : Nat} (hc0 : c0 + 6 ≤ room_1.cells) (hm0 : m0 + 36 ≤ room_1.slots) {K : XS → Option Unit} {m4 : Int32} (E : XE p s m args meth c cL_law 9 RL rt D cy s00) (hk : ∀ (S1 : XS) (H : Heap) (locs : List Loc) (ls : Array Slot), K S1 = some () → XH D cy s00 shLaw ad S1 A s H locs → lv_has ls 9 [(4, .int m4), (3, .ref (ad 154)), (2, .ref (ad 155)), (1, .ref (ad 0)), (0, .ref b)] → W p l e room_1 s m args below meth c H locs (c0 + 6) (m0 + 36) Q (F0 m 2957 ls [])) (S : XS) (H : Heap) (locs : List Loc) (ls : Array Slot) (hf : f_Lc48 L sx K m4 S = some ()) (h : XH D cy s00 shLaw ad S A s H locs) (hl : lv_has ls 9 [(4, .int m4), (3, .ref (ad 154)), (2, .ref (ad 155)), (1, .ref (ad 0)), (0, .ref b)]) : W p l e room_1 s m args below meth c H locs c0 m0 Q (F0 m 2570 ls []) := by
  unfold f_Lc48 at hf
  refine lv_aload_n E.1 E.2.1 dL_law_2570 rfl (lv_at hl 3 rfl) ?_
  refine lv_aload_n E.1 E.2.1 dL_law_2571 rfl (lv_at hl 4 rfl) ?_
  refine lv_iload E.1 E.2.1 dL_law_2572 (lv_at hl 0 rfl) ?_
  refine lv_iconst (v := 1) E.1 E.2.1 dL_law_2574 (by decide) ?_
  refine lv_iadd E.1 E.2.1 dL_law_2575 ?_
  refine x_sld hX hb E h hf dL_law_2576 (fun v1 hf => ?_)
  refine lv_aload_n E.1 E.2.1 dL_law_2577 rfl (lv_at hl 1 rfl) ?_
  refine x_callW E h hl hf xsub_lawW (fun r0 Sq0 hr => c_L_hasVoted l D cy s00 _ hT hG hNc (xs 0 S) v1 r0 Sq0 hr) mw_L_hasVoted ⟨by decide +kernel, by decide +kernel, (by decide +kernel : (parseMethodDescriptor yL_hasVoted.desc).map (fun d => d.parameters.length) = some 3)⟩ kw1278 rfl rfl (Nat.le_of_ble_eq_true rfl) ⟨Nat.le_of_ble_eq_true rfl, Nat.le_of_ble_eq_true rfl⟩ ⟨by omega, by omega⟩ dL_law_2578 (fun v2 S3 H locs hf h => ?_)
  refine lv_istore (lv' := [(5, .int v2), (4, .int m4), (3, .ref (ad 154)), (2, .ref (ad 155)), (1, .ref (ad 0)), (0, .ref b)]) E.1 E.2.1 dL_law_2581 hl (by decide) rfl (fun ls hl => ?_)
  refine lv_aload_n E.1 E.2.1 dL_law_2583 rfl (lv_at hl 3 rfl) ?_
  refine lv_aload_n E.1 E.2.1 dL_law_2584 rfl (lv_at hl 5 rfl) ?_
  refine lv_iload E.1 E.2.1 dL_law_2585 (lv_at hl 1 rfl) ?_
  refine lv_iconst (v := 1) E.1 E.2.1 dL_law_2587 (by decide) ?_
  refine lv_iadd E.1 E.2.1 dL_law_2588 ?_
  refine x_sld hX hb E h hf dL_law_2589 (fun v4 hf => ?_)
  refine x_calloi E h hl 155 155 hf xsub_lawM (fun r0 Sq0 hr => c_X9_hasVoted l D cy s00 _ (xs 155 S3) v4 r0 Sq0 hr) m_X9_hasVoted rfl rfl kw1940 rfl rfl (Nat.le_of_ble_eq_true rfl) ⟨Nat.le_of_ble_eq_true rfl, Nat.le_of_ble_eq_true rfl⟩ ⟨by omega, by omega⟩ dL_law_2590 (fun v5 S6 H locs hf h => ?_)
  refine lv_istore (lv' := [(6, .int v5), (5, .int v2), (4, .int m4), (3, .ref (ad 154)), (2, .ref (ad 155)), (1, .ref (ad 0)), (0, .ref b)]) E.1 E.2.1 dL_law_2593 hl (by decide) rfl (fun ls hl => ?_)
  refine lv_aload_n E.1 E.2.1 dL_law_2595 rfl (lv_at hl 4 rfl) ?_
  refine x_callop E h hl 155 155 hf xsub_lawM (fun r0 hr => c_X9_thrown l D cy s00 _ (xs 155 S6)  r0 hr) m_X9_thrown rfl rfl kw1681 rfl rfl (Nat.le_of_ble_eq_true rfl) ⟨Nat.le_of_ble_eq_true rfl, Nat.le_of_ble_eq_true rfl⟩ ⟨by omega, by omega⟩ dL_law_2596 (fun v7 H locs hf h => ?_)
  refine lv_iload E.1 E.2.1 dL_law_2599 (lv_at hl 1 rfl) ?_
  refine x_br hf (lv_icmp_eq (tgt := 2606) E.1 E.2.1 dL_law_2601 (by decide)) (fun hf => ?_) (fun hf => ?_)
  · refine lv_iload E.1 E.2.1 dL_law_2606 (lv_at hl 1 rfl) ?_
    refine x_brn hf (lv_if_ne (tgt := 2630) E.1 E.2.1 dL_law_2608 (by decide)) (fun hf => ?_) (fun hf => ?_)
    · refine lv_goto (tgt := 2957) E.1 E.2.1 dL_law_2630 (by decide) ?_
      exact x_wid ⟨by omega, by omega⟩ (hk _ H locs ls hf h (lv_sub hl [2, 3, 4, 5, 6] rfl))
    · refine lv_aload_n E.1 E.2.1 dL_law_2611 rfl (lv_at hl 3 rfl) ?_
      refine lv_iconst (v := 0) E.1 E.2.1 dL_law_2612 (by decide) ?_
      refine x_lald1 E h 154 rfl dL_law_2613 ?_
      refine lv_iload E.1 E.2.1 dL_law_2614 (lv_at hl 0 rfl) ?_
      refine x_br hf (lv_if_eq (tgt := 2623) E.1 E.2.1 dL_law_2616 (by decide)) (fun hf => ?_) (fun hf => ?_)
      · refine lv_lconst (v := (0 : Int32).toInt64) E.1 E.2.1 dL_law_2623 (by decide) ?_
        refine W.lcmp E.1 E.2.1 dL_law_2624 ?_
        refine x_bre (lg_cmp0 _ _) hf (lv_if_eq (tgt := 2630) E.1 E.2.1 dL_law_2625 (by decide)) (fun hf => ?_) (fun hf => ?_)
        · refine lv_goto (tgt := 2957) E.1 E.2.1 dL_law_2630 (by decide) ?_
          exact x_wid ⟨by omega, by omega⟩ (hk _ H locs ls hf h (lv_sub hl [2, 3, 4, 5, 6] rfl))
        · cases hf
      · refine lv_lconst (v := (1 : Int32).toInt64) E.1 E.2.1 dL_law_2619 (by decide) ?_
        refine lv_goto (tgt := 2624) E.1 E.2.1 dL_law_2620 (by decide) ?_
        refine W.lcmp E.1 E.2.1 dL_law_2624 ?_
        refine x_bre (lg_cmp0 _ _) hf (lv_if_eq (tgt := 2630) E.1 E.2.1 dL_law_2625 (by decide)) (fun hf => ?_) (fun hf => ?_)
        · refine lv_goto (tgt := 2957) E.1 E.2.1 dL_law_2630 (by decide) ?_
          exact x_wid ⟨by omega, by omega⟩ (hk _ H locs ls hf h (lv_sub hl [2, 3, 4, 5, 6] rfl))
        · cases hf
  · cases hf
set_option maxHeartbeats 4000000 in
set_option maxRecDepth 100000 in
theorem w_Lc49 {p : Program} {l : Launch} {e : Env} {s : State} {m : MethodId} {args : Array Value} {below : List Frame} {meth : Method} {c : Code} {D : va_G} {cy : Nat → ClassId} {s00 : State} {ad : Nat → Nat} {A : Nat → Prop} {Q : State → Prop} {b L : Nat} {sx : Nat → Int32} {rt : Option FieldType} (hX : va_X b L sx s s.heap) (hb : b < s.heap.size ∧ ¬ A b) (hT : l.stackTraces = false ∧ XDW s00) (hG : XG s00) {tE : xEnT} (hEn : XEn s00 tE) (hNc : XNc s00) {c0 m0 : Nat} (hc0 : c0 + 6 ≤ room_1.cells) (hm0 : m0 + 36 ≤ room_1.slots) {K : XS → Option Unit} {m4 : Int32} (E : XE p s m args meth c cL_law 9 RL rt D cy s00) (hk : ∀ (S1 : XS) (H : Heap) (locs : List Loc) (ls : Array Slot), K S1 = some () → XH D cy s00 shLaw ad S1 A s H locs → lv_has ls 9 [(4, .int m4), (3, .ref (ad 154)), (2, .ref (ad 155)), (1, .ref (ad 0)), (0, .ref b)] → W p l e room_1 s m args below meth c H locs (c0 + 6) (m0 + 36) Q (F0 m 2957 ls [])) (S : XS) (H : Heap) (locs : List Loc) (ls : Array Slot) (hf : f_Lc49 L sx K m4 S = some ()) (h : XH D cy s00 shLaw ad S A s H locs) (hl : lv_has ls 9 [(4, .int m4), (3, .ref (ad 154)), (2, .ref (ad 155)), (1, .ref (ad 0)), (0, .ref b)]) : W p l e room_1 s m args below meth c H locs c0 m0 Q (F0 m 2633 ls []) := by
  unfold f_Lc49 at hf
  refine lv_aload_n E.1 E.2.1 dL_law_2633 rfl (lv_at hl 3 rfl) ?_
  refine lv_aload_n E.1 E.2.1 dL_law_2634 rfl (lv_at hl 4 rfl) ?_
  refine lv_iload E.1 E.2.1 dL_law_2635 (lv_at hl 0 rfl) ?_
  refine lv_iconst (v := 1) E.1 E.2.1 dL_law_2637 (by decide) ?_
  refine lv_iadd E.1 E.2.1 dL_law_2638 ?_
  refine x_sld hX hb E h hf dL_law_2639 (fun v1 hf => ?_)
  refine lv_aload_n E.1 E.2.1 dL_law_2640 rfl (lv_at hl 1 rfl) ?_
  refine x_callW E h hl hf xsub_lawW (fun r0 Sq0 hr => c_L_choirOf l D cy s00 _ hT hG hNc (xs 0 S) v1 r0 Sq0 hr) mw_L_choirOf ⟨by decide +kernel, by decide +kernel, (by decide +kernel : (parseMethodDescriptor yL_choirOf.desc).map (fun d => d.parameters.length) = some 3)⟩ kw1285 rfl rfl (Nat.le_of_ble_eq_true rfl) ⟨Nat.le_of_ble_eq_true rfl, Nat.le_of_ble_eq_true rfl⟩ ⟨by omega, by omega⟩ dL_law_2641 (fun v2 S3 H locs hf h => ?_)
  refine lv_istore (lv' := [(5, .int v2), (4, .int m4), (3, .ref (ad 154)), (2, .ref (ad 155)), (1, .ref (ad 0)), (0, .ref b)]) E.1 E.2.1 dL_law_2644 hl (by decide) rfl (fun ls hl => ?_)
  refine lv_aload_n E.1 E.2.1 dL_law_2646 rfl (lv_at hl 3 rfl) ?_
  refine lv_aload_n E.1 E.2.1 dL_law_2647 rfl (lv_at hl 5 rfl) ?_
  refine lv_iload E.1 E.2.1 dL_law_2648 (lv_at hl 1 rfl) ?_
  refine lv_iconst (v := 1) E.1 E.2.1 dL_law_2650 (by decide) ?_
  refine lv_iadd E.1 E.2.1 dL_law_2651 ?_
  refine x_sld hX hb E h hf dL_law_2652 (fun v4 hf => ?_)
  refine x_calloi E h hl 155 155 hf xsub_lawM (fun r0 Sq0 hr => c_X9_choirOf l D cy s00 _ (xs 155 S3) v4 r0 Sq0 hr) m_X9_choirOf rfl rfl kw1944 rfl rfl (Nat.le_of_ble_eq_true rfl) ⟨Nat.le_of_ble_eq_true rfl, Nat.le_of_ble_eq_true rfl⟩ ⟨by omega, by omega⟩ dL_law_2653 (fun v5 S6 H locs hf h => ?_)
  refine lv_istore (lv' := [(6, .int v5), (5, .int v2), (4, .int m4), (3, .ref (ad 154)), (2, .ref (ad 155)), (1, .ref (ad 0)), (0, .ref b)]) E.1 E.2.1 dL_law_2656 hl (by decide) rfl (fun ls hl => ?_)
  refine lv_aload_n E.1 E.2.1 dL_law_2658 rfl (lv_at hl 4 rfl) ?_
  refine x_callop E h hl 155 155 hf xsub_lawM (fun r0 hr => c_X9_thrown l D cy s00 _ (xs 155 S6)  r0 hr) m_X9_thrown rfl rfl kw1681 rfl rfl (Nat.le_of_ble_eq_true rfl) ⟨Nat.le_of_ble_eq_true rfl, Nat.le_of_ble_eq_true rfl⟩ ⟨by omega, by omega⟩ dL_law_2659 (fun v7 H locs hf h => ?_)
  refine lv_iload E.1 E.2.1 dL_law_2662 (lv_at hl 1 rfl) ?_
  refine x_br hf (lv_icmp_eq (tgt := 2669) E.1 E.2.1 dL_law_2664 (by decide)) (fun hf => ?_) (fun hf => ?_)
  · refine lv_iload E.1 E.2.1 dL_law_2669 (lv_at hl 1 rfl) ?_
    refine x_brn hf (lv_if_ne (tgt := 2686) E.1 E.2.1 dL_law_2671 (by decide)) (fun hf => ?_) (fun hf => ?_)
    · refine lv_goto (tgt := 2957) E.1 E.2.1 dL_law_2686 (by decide) ?_
      exact x_wid ⟨by omega, by omega⟩ (hk _ H locs ls hf h (lv_sub hl [2, 3, 4, 5, 6] rfl))
    · refine lv_aload_n E.1 E.2.1 dL_law_2674 rfl (lv_at hl 3 rfl) ?_
      refine lv_iconst (v := 0) E.1 E.2.1 dL_law_2675 (by decide) ?_
      refine x_lald1 E h 154 rfl dL_law_2676 ?_
      refine lv_iload E.1 E.2.1 dL_law_2677 (lv_at hl 0 rfl) ?_
      refine lv_i2l E.1 E.2.1 dL_law_2679 rfl ?_
      refine W.lcmp E.1 E.2.1 dL_law_2680 ?_
      refine x_bre (lg_cmp0 _ _) hf (lv_if_eq (tgt := 2686) E.1 E.2.1 dL_law_2681 (by decide)) (fun hf => ?_) (fun hf => ?_)
      · refine lv_goto (tgt := 2957) E.1 E.2.1 dL_law_2686 (by decide) ?_
        exact x_wid ⟨by omega, by omega⟩ (hk _ H locs ls hf h (lv_sub hl [2, 3, 4, 5, 6] rfl))
      · cases hf
  · cases hf
set_option maxHeartbeats 4000000 in
set_option maxRecDepth 100000 in
theorem w_Lc50 {p : Program} {l : Launch} {e : Env} {s : State} {m : MethodId} {args : Array Value} {below : List Frame} {meth : Method} {c : Code} {D : va_G} {cy : Nat → ClassId} {s00 : State} {ad : Nat → Nat} {A : Nat → Prop} {Q : State → Prop} {b L : Nat} {sx : Nat → Int32} {rt : Option FieldType} (hX : va_X b L sx s s.heap) (hb : b < s.heap.size ∧ ¬ A b) (hT : l.stackTraces = false ∧ XDW s00) (hG : XG s00) {tE : xEnT} (hEn : XEn s00 tE) (hNc : XNc s00) {c0 m0 : Nat} (hc0 : c0 + 6 ≤ room_1.cells) (hm0 : m0 + 36 ≤ room_1.slots) {K : XS → Option Unit} {m4 : Int32} (E : XE p s m args meth c cL_law 9 RL rt D cy s00) (hk : ∀ (S1 : XS) (H : Heap) (locs : List Loc) (ls : Array Slot), K S1 = some () → XH D cy s00 shLaw ad S1 A s H locs → lv_has ls 9 [(4, .int m4), (3, .ref (ad 154)), (2, .ref (ad 155)), (1, .ref (ad 0)), (0, .ref b)] → W p l e room_1 s m args below meth c H locs (c0 + 6) (m0 + 36) Q (F0 m 2957 ls [])) (S : XS) (H : Heap) (locs : List Loc) (ls : Array Slot) (hf : f_Lc50 L sx K m4 S = some ()) (h : XH D cy s00 shLaw ad S A s H locs) (hl : lv_has ls 9 [(4, .int m4), (3, .ref (ad 154)), (2, .ref (ad 155)), (1, .ref (ad 0)), (0, .ref b)]) : W p l e room_1 s m args below meth c H locs c0 m0 Q (F0 m 2689 ls []) := by
  unfold f_Lc50 at hf
  refine lv_aload_n E.1 E.2.1 dL_law_2689 rfl (lv_at hl 3 rfl) ?_
  refine x_callop E h hl 0 0 hf xsub_lawX (fun r0 hr => c_X8_choirCount l D cy s00 _ (xs 0 S)  r0 hr) m_X8_choirCount rfl rfl kw794 rfl rfl (Nat.le_of_ble_eq_true rfl) ⟨Nat.le_of_ble_eq_true rfl, Nat.le_of_ble_eq_true rfl⟩ ⟨by omega, by omega⟩ dL_law_2690 (fun v1 H locs hf h => ?_)
  refine lv_aload_n E.1 E.2.1 dL_law_2693 rfl (lv_at hl 2 rfl) ?_
  refine x_calloi E h hl 155 155 hf xsub_lawM (fun r0 Sq0 hr => c_X9_choirCount l D cy s00 _ (xs 155 S)  r0 Sq0 hr) m_X9_choirCount rfl rfl kw1948 rfl rfl (Nat.le_of_ble_eq_true rfl) ⟨Nat.le_of_ble_eq_true rfl, Nat.le_of_ble_eq_true rfl⟩ ⟨by omega, by omega⟩ dL_law_2694 (fun v2 S3 H locs hf h => ?_)
  refine x_br hf (lv_icmp_eq (tgt := 2957) E.1 E.2.1 dL_law_2697 (by decide)) (fun hf => ?_) (fun hf => ?_)
  · exact x_wid ⟨by omega, by omega⟩ (hk _ H locs ls hf h (lv_sub hl [0, 1, 2, 3, 4] rfl))
  · cases hf
set_option maxHeartbeats 4000000 in
set_option maxRecDepth 100000 in
theorem w_Lc51 {p : Program} {l : Launch} {e : Env} {s : State} {m : MethodId} {args : Array Value} {below : List Frame} {meth : Method} {c : Code} {D : va_G} {cy : Nat → ClassId} {s00 : State} {ad : Nat → Nat} {A : Nat → Prop} {Q : State → Prop} {b L : Nat} {sx : Nat → Int32} {rt : Option FieldType} (hX : va_X b L sx s s.heap) (hb : b < s.heap.size ∧ ¬ A b) (hT : l.stackTraces = false ∧ XDW s00) (hG : XG s00) {tE : xEnT} (hEn : XEn s00 tE) (hNc : XNc s00) {c0 m0 : Nat} (hc0 : c0 + 6 ≤ room_1.cells) (hm0 : m0 + 36 ≤ room_1.slots) {K : XS → Option Unit} {m4 : Int32} (E : XE p s m args meth c cL_law 9 RL rt D cy s00) (hk : ∀ (S1 : XS) (H : Heap) (locs : List Loc) (ls : Array Slot), K S1 = some () → XH D cy s00 shLaw ad S1 A s H locs → lv_has ls 9 [(4, .int m4), (3, .ref (ad 154)), (2, .ref (ad 155)), (1, .ref (ad 0)), (0, .ref b)] → W p l e room_1 s m args below meth c H locs (c0 + 6) (m0 + 36) Q (F0 m 2957 ls [])) (S : XS) (H : Heap) (locs : List Loc) (ls : Array Slot) (hf : f_Lc51 L sx K m4 S = some ()) (h : XH D cy s00 shLaw ad S A s H locs) (hl : lv_has ls 9 [(4, .int m4), (3, .ref (ad 154)), (2, .ref (ad 155)), (1, .ref (ad 0)), (0, .ref b)]) : W p l e room_1 s m args below meth c H locs c0 m0 Q (F0 m 2702 ls []) := by
  unfold f_Lc51 at hf
  refine lv_aload_n E.1 E.2.1 dL_law_2702 rfl (lv_at hl 3 rfl) ?_
  refine x_callop E h hl 0 0 hf xsub_lawX (fun r0 hr => c_X8_largestChoir l D cy s00 _ (xs 0 S)  r0 hr) m_X8_largestChoir rfl rfl kw799 rfl rfl (Nat.le_of_ble_eq_true rfl) ⟨Nat.le_of_ble_eq_true rfl, Nat.le_of_ble_eq_true rfl⟩ ⟨by omega, by omega⟩ dL_law_2703 (fun v1 H locs hf h => ?_)
  refine lv_aload_n E.1 E.2.1 dL_law_2706 rfl (lv_at hl 2 rfl) ?_
  refine x_calloi E h hl 155 155 hf xsub_lawM (fun r0 Sq0 hr => c_X9_largestChoir l D cy s00 _ (xs 155 S)  r0 Sq0 hr) m_X9_largestChoir rfl rfl kw1952 rfl rfl (Nat.le_of_ble_eq_true rfl) ⟨Nat.le_of_ble_eq_true rfl, Nat.le_of_ble_eq_true rfl⟩ ⟨by omega, by omega⟩ dL_law_2707 (fun v2 S3 H locs hf h => ?_)
  refine x_br hf (lv_icmp_eq (tgt := 2957) E.1 E.2.1 dL_law_2710 (by decide)) (fun hf => ?_) (fun hf => ?_)
  · exact x_wid ⟨by omega, by omega⟩ (hk _ H locs ls hf h (lv_sub hl [0, 1, 2, 3, 4] rfl))
  · cases hf
set_option maxHeartbeats 4000000 in
set_option maxRecDepth 100000 in
theorem w_Lc52 {p : Program} {l : Launch} {e : Env} {s : State} {m : MethodId} {args : Array Value} {below : List Frame} {meth : Method} {c : Code} {D : va_G} {cy : Nat → ClassId} {s00 : State} {ad : Nat → Nat} {A : Nat → Prop} {Q : State → Prop} {b L : Nat} {sx : Nat → Int32} {rt : Option FieldType} (hX : va_X b L sx s s.heap) (hb : b < s.heap.size ∧ ¬ A b) (hT : l.stackTraces = false ∧ XDW s00) (hG : XG s00) {tE : xEnT} (hEn : XEn s00 tE) (hNc : XNc s00) {c0 m0 : Nat} (hc0 : c0 + 6 ≤ room_1.cells) (hm0 : m0 + 36 ≤ room_1.slots) {K : XS → Option Unit} {m4 : Int32} (E : XE p s m args meth c cL_law 9 RL rt D cy s00) (hk : ∀ (S1 : XS) (H : Heap) (locs : List Loc) (ls : Array Slot), K S1 = some () → XH D cy s00 shLaw ad S1 A s H locs → lv_has ls 9 [(4, .int m4), (3, .ref (ad 154)), (2, .ref (ad 155)), (1, .ref (ad 0)), (0, .ref b)] → W p l e room_1 s m args below meth c H locs (c0 + 6) (m0 + 36) Q (F0 m 2957 ls [])) (S : XS) (H : Heap) (locs : List Loc) (ls : Array Slot) (hf : f_Lc52 L sx K m4 S = some ()) (h : XH D cy s00 shLaw ad S A s H locs) (hl : lv_has ls 9 [(4, .int m4), (3, .ref (ad 154)), (2, .ref (ad 155)), (1, .ref (ad 0)), (0, .ref b)]) : W p l e room_1 s m args below meth c H locs c0 m0 Q (F0 m 2715 ls []) := by
  unfold f_Lc52 at hf
  refine lv_aload_n E.1 E.2.1 dL_law_2715 rfl (lv_at hl 3 rfl) ?_
  refine x_callop E h hl 0 0 hf xsub_lawX (fun r0 hr => c_X8_nightsToFullMoon l D cy s00 _ (xs 0 S)  r0 hr) m_X8_nightsToFullMoon rfl rfl kw804 rfl rfl (Nat.le_of_ble_eq_true rfl) ⟨Nat.le_of_ble_eq_true rfl, Nat.le_of_ble_eq_true rfl⟩ ⟨by omega, by omega⟩ dL_law_2716 (fun v1 H locs hf h => ?_)
  refine lv_aload_n E.1 E.2.1 dL_law_2719 rfl (lv_at hl 2 rfl) ?_
  refine x_calloi E h hl 155 155 hf xsub_lawM (fun r0 Sq0 hr => c_X9_nightsToFullMoon l D cy s00 _ (xs 155 S)  r0 Sq0 hr) m_X9_nightsToFullMoon rfl rfl kw1956 rfl rfl (Nat.le_of_ble_eq_true rfl) ⟨Nat.le_of_ble_eq_true rfl, Nat.le_of_ble_eq_true rfl⟩ ⟨by omega, by omega⟩ dL_law_2720 (fun v2 S3 H locs hf h => ?_)
  refine x_br hf (lv_icmp_eq (tgt := 2957) E.1 E.2.1 dL_law_2723 (by decide)) (fun hf => ?_) (fun hf => ?_)
  · exact x_wid ⟨by omega, by omega⟩ (hk _ H locs ls hf h (lv_sub hl [0, 1, 2, 3, 4] rfl))
  · cases hf
set_option maxHeartbeats 4000000 in
set_option maxRecDepth 100000 in
theorem w_Lc53 {p : Program} {l : Launch} {e : Env} {s : State} {m : MethodId} {args : Array Value} {below : List Frame} {meth : Method} {c : Code} {D : va_G} {cy : Nat → ClassId} {s00 : State} {ad : Nat → Nat} {A : Nat → Prop} {Q : State → Prop} {b L : Nat} {sx : Nat → Int32} {rt : Option FieldType} (hX : va_X b L sx s s.heap) (hb : b < s.heap.size ∧ ¬ A b) (hT : l.stackTraces = false ∧ XDW s00) (hG : XG s00) {tE : xEnT} (hEn : XEn s00 tE) (hNc : XNc s00) {c0 m0 : Nat} (hc0 : c0 + 6 ≤ room_1.cells) (hm0 : m0 + 36 ≤ room_1.slots) {K : XS → Option Unit} {m4 : Int32} (E : XE p s m args meth c cL_law 9 RL rt D cy s00) (hk : ∀ (S1 : XS) (H : Heap) (locs : List Loc) (ls : Array Slot), K S1 = some () → XH D cy s00 shLaw ad S1 A s H locs → lv_has ls 9 [(4, .int m4), (3, .ref (ad 154)), (2, .ref (ad 155)), (1, .ref (ad 0)), (0, .ref b)] → W p l e room_1 s m args below meth c H locs (c0 + 6) (m0 + 36) Q (F0 m 2957 ls [])) (S : XS) (H : Heap) (locs : List Loc) (ls : Array Slot) (hf : f_Lc53 L sx K m4 S = some ()) (h : XH D cy s00 shLaw ad S A s H locs) (hl : lv_has ls 9 [(4, .int m4), (3, .ref (ad 154)), (2, .ref (ad 155)), (1, .ref (ad 0)), (0, .ref b)]) : W p l e room_1 s m args below meth c H locs c0 m0 Q (F0 m 2728 ls []) := by
  unfold f_Lc53 at hf
  refine lv_aload_n E.1 E.2.1 dL_law_2728 rfl (lv_at hl 3 rfl) ?_
  refine lv_aload_n E.1 E.2.1 dL_law_2729 rfl (lv_at hl 4 rfl) ?_
  refine lv_iload E.1 E.2.1 dL_law_2730 (lv_at hl 0 rfl) ?_
  refine lv_iconst (v := 1) E.1 E.2.1 dL_law_2732 (by decide) ?_
  refine lv_iadd E.1 E.2.1 dL_law_2733 ?_
  refine x_sld hX hb E h hf dL_law_2734 (fun v1 hf => ?_)
  refine lv_aload_n E.1 E.2.1 dL_law_2735 rfl (lv_at hl 4 rfl) ?_
  refine lv_iload E.1 E.2.1 dL_law_2736 (lv_at hl 0 rfl) ?_
  refine lv_iconst (v := 2) E.1 E.2.1 dL_law_2738 (by decide) ?_
  refine lv_iadd E.1 E.2.1 dL_law_2739 ?_
  refine x_sld hX hb E h hf dL_law_2740 (fun v2 hf => ?_)
  refine lv_aload_n E.1 E.2.1 dL_law_2741 rfl (lv_at hl 1 rfl) ?_
  refine x_callW E h hl hf xsub_lawW (fun r0 Sq0 hr => c_L_fishAfter l D cy s00 _ hT hG hNc (xs 0 S) v1 v2 r0 Sq0 hr) mw_L_fishAfter ⟨by decide +kernel, by decide +kernel, (by decide +kernel : (parseMethodDescriptor yL_fishAfter.desc).map (fun d => d.parameters.length) = some 4)⟩ kw1292 rfl rfl (Nat.le_of_ble_eq_true rfl) ⟨Nat.le_of_ble_eq_true rfl, Nat.le_of_ble_eq_true rfl⟩ ⟨by omega, by omega⟩ dL_law_2742 (fun v3 S4 H locs hf h => ?_)
  refine lv_istore (lv' := [(5, .int v3), (4, .int m4), (3, .ref (ad 154)), (2, .ref (ad 155)), (1, .ref (ad 0)), (0, .ref b)]) E.1 E.2.1 dL_law_2745 hl (by decide) rfl (fun ls hl => ?_)
  refine lv_aload_n E.1 E.2.1 dL_law_2747 rfl (lv_at hl 3 rfl) ?_
  refine lv_aload_n E.1 E.2.1 dL_law_2748 rfl (lv_at hl 5 rfl) ?_
  refine lv_iload E.1 E.2.1 dL_law_2749 (lv_at hl 1 rfl) ?_
  refine lv_iconst (v := 1) E.1 E.2.1 dL_law_2751 (by decide) ?_
  refine lv_iadd E.1 E.2.1 dL_law_2752 ?_
  refine x_sld hX hb E h hf dL_law_2753 (fun v5 hf => ?_)
  refine lv_aload_n E.1 E.2.1 dL_law_2754 rfl (lv_at hl 5 rfl) ?_
  refine lv_iload E.1 E.2.1 dL_law_2755 (lv_at hl 1 rfl) ?_
  refine lv_iconst (v := 2) E.1 E.2.1 dL_law_2757 (by decide) ?_
  refine lv_iadd E.1 E.2.1 dL_law_2758 ?_
  refine x_sld hX hb E h hf dL_law_2759 (fun v6 hf => ?_)
  refine x_calloi E h hl 155 155 hf xsub_lawM (fun r0 Sq0 hr => c_X9_fishAfter l D cy s00 _ (xs 155 S4) v5 v6 r0 Sq0 hr) m_X9_fishAfter rfl rfl kw1960 rfl rfl (Nat.le_of_ble_eq_true rfl) ⟨Nat.le_of_ble_eq_true rfl, Nat.le_of_ble_eq_true rfl⟩ ⟨by omega, by omega⟩ dL_law_2760 (fun v7 S8 H locs hf h => ?_)
  refine lv_istore (lv' := [(6, .int v7), (5, .int v3), (4, .int m4), (3, .ref (ad 154)), (2, .ref (ad 155)), (1, .ref (ad 0)), (0, .ref b)]) E.1 E.2.1 dL_law_2763 hl (by decide) rfl (fun ls hl => ?_)
  refine lv_aload_n E.1 E.2.1 dL_law_2765 rfl (lv_at hl 4 rfl) ?_
  refine x_callop E h hl 155 155 hf xsub_lawM (fun r0 hr => c_X9_thrown l D cy s00 _ (xs 155 S8)  r0 hr) m_X9_thrown rfl rfl kw1681 rfl rfl (Nat.le_of_ble_eq_true rfl) ⟨Nat.le_of_ble_eq_true rfl, Nat.le_of_ble_eq_true rfl⟩ ⟨by omega, by omega⟩ dL_law_2766 (fun v9 H locs hf h => ?_)
  refine lv_iload E.1 E.2.1 dL_law_2769 (lv_at hl 1 rfl) ?_
  refine x_br hf (lv_icmp_eq (tgt := 2776) E.1 E.2.1 dL_law_2771 (by decide)) (fun hf => ?_) (fun hf => ?_)
  · refine lv_iload E.1 E.2.1 dL_law_2776 (lv_at hl 1 rfl) ?_
    refine x_brn hf (lv_if_ne (tgt := 2793) E.1 E.2.1 dL_law_2778 (by decide)) (fun hf => ?_) (fun hf => ?_)
    · refine lv_goto (tgt := 2957) E.1 E.2.1 dL_law_2793 (by decide) ?_
      exact x_wid ⟨by omega, by omega⟩ (hk _ H locs ls hf h (lv_sub hl [2, 3, 4, 5, 6] rfl))
    · refine lv_aload_n E.1 E.2.1 dL_law_2781 rfl (lv_at hl 3 rfl) ?_
      refine lv_iconst (v := 0) E.1 E.2.1 dL_law_2782 (by decide) ?_
      refine x_lald1 E h 154 rfl dL_law_2783 ?_
      refine lv_iload E.1 E.2.1 dL_law_2784 (lv_at hl 0 rfl) ?_
      refine lv_i2l E.1 E.2.1 dL_law_2786 rfl ?_
      refine W.lcmp E.1 E.2.1 dL_law_2787 ?_
      refine x_bre (lg_cmp0 _ _) hf (lv_if_eq (tgt := 2793) E.1 E.2.1 dL_law_2788 (by decide)) (fun hf => ?_) (fun hf => ?_)
      · refine lv_goto (tgt := 2957) E.1 E.2.1 dL_law_2793 (by decide) ?_
        exact x_wid ⟨by omega, by omega⟩ (hk _ H locs ls hf h (lv_sub hl [2, 3, 4, 5, 6] rfl))
      · cases hf
  · cases hf
set_option maxHeartbeats 4000000 in
set_option maxRecDepth 100000 in
theorem w_Lc54 {p : Program} {l : Launch} {e : Env} {s : State} {m : MethodId} {args : Array Value} {below : List Frame} {meth : Method} {c : Code} {D : va_G} {cy : Nat → ClassId} {s00 : State} {ad : Nat → Nat} {A : Nat → Prop} {Q : State → Prop} {b L : Nat} {sx : Nat → Int32} {rt : Option FieldType} (hX : va_X b L sx s s.heap) (hb : b < s.heap.size ∧ ¬ A b) (hT : l.stackTraces = false ∧ XDW s00) (hG : XG s00) {tE : xEnT} (hEn : XEn s00 tE) (hNc : XNc s00) {c0 m0 : Nat} (hc0 : c0 + 6 ≤ room_1.cells) (hm0 : m0 + 36 ≤ room_1.slots) {K : XS → Option Unit} {m4 : Int32} (E : XE p s m args meth c cL_law 9 RL rt D cy s00) (hk : ∀ (S1 : XS) (H : Heap) (locs : List Loc) (ls : Array Slot), K S1 = some () → XH D cy s00 shLaw ad S1 A s H locs → lv_has ls 9 [(4, .int m4), (3, .ref (ad 154)), (2, .ref (ad 155)), (1, .ref (ad 0)), (0, .ref b)] → W p l e room_1 s m args below meth c H locs (c0 + 6) (m0 + 36) Q (F0 m 2957 ls [])) (S : XS) (H : Heap) (locs : List Loc) (ls : Array Slot) (hf : f_Lc54 L sx K m4 S = some ()) (h : XH D cy s00 shLaw ad S A s H locs) (hl : lv_has ls 9 [(4, .int m4), (3, .ref (ad 154)), (2, .ref (ad 155)), (1, .ref (ad 0)), (0, .ref b)]) : W p l e room_1 s m args below meth c H locs c0 m0 Q (F0 m 2796 ls []) := by
  unfold f_Lc54 at hf
  refine lv_aload_n E.1 E.2.1 dL_law_2796 rfl (lv_at hl 3 rfl) ?_
  refine x_callop E h hl 0 0 hf xsub_lawX (fun r0 hr => c_X8_richestCat l D cy s00 _ (xs 0 S)  r0 hr) m_X8_richestCat rfl rfl kw808 rfl rfl (Nat.le_of_ble_eq_true rfl) ⟨Nat.le_of_ble_eq_true rfl, Nat.le_of_ble_eq_true rfl⟩ ⟨by omega, by omega⟩ dL_law_2797 (fun v1 H locs hf h => ?_)
  refine lv_aload_n E.1 E.2.1 dL_law_2800 rfl (lv_at hl 2 rfl) ?_
  refine x_calloi E h hl 155 155 hf xsub_lawM (fun r0 Sq0 hr => c_X9_richestCat l D cy s00 _ (xs 155 S)  r0 Sq0 hr) m_X9_richestCat rfl rfl kw1964 rfl rfl (Nat.le_of_ble_eq_true rfl) ⟨Nat.le_of_ble_eq_true rfl, Nat.le_of_ble_eq_true rfl⟩ ⟨by omega, by omega⟩ dL_law_2801 (fun v2 S3 H locs hf h => ?_)
  refine x_br hf (lv_icmp_eq (tgt := 2957) E.1 E.2.1 dL_law_2804 (by decide)) (fun hf => ?_) (fun hf => ?_)
  · exact x_wid ⟨by omega, by omega⟩ (hk _ H locs ls hf h (lv_sub hl [0, 1, 2, 3, 4] rfl))
  · cases hf
set_option maxHeartbeats 4000000 in
set_option maxRecDepth 100000 in
theorem w_Lc55 {p : Program} {l : Launch} {e : Env} {s : State} {m : MethodId} {args : Array Value} {below : List Frame} {meth : Method} {c : Code} {D : va_G} {cy : Nat → ClassId} {s00 : State} {ad : Nat → Nat} {A : Nat → Prop} {Q : State → Prop} {b L : Nat} {sx : Nat → Int32} {rt : Option FieldType} (hX : va_X b L sx s s.heap) (hb : b < s.heap.size ∧ ¬ A b) (hT : l.stackTraces = false ∧ XDW s00) (hG : XG s00) {tE : xEnT} (hEn : XEn s00 tE) (hNc : XNc s00) {c0 m0 : Nat} (hc0 : c0 + 6 ≤ room_1.cells) (hm0 : m0 + 36 ≤ room_1.slots) {K : XS → Option Unit} {m4 : Int32} (E : XE p s m args meth c cL_law 9 RL rt D cy s00) (hk : ∀ (S1 : XS) (H : Heap) (locs : List Loc) (ls : Array Slot), K S1 = some () → XH D cy s00 shLaw ad S1 A s H locs → lv_has ls 9 [(4, .int m4), (3, .ref (ad 154)), (2, .ref (ad 155)), (1, .ref (ad 0)), (0, .ref b)] → W p l e room_1 s m args below meth c H locs (c0 + 6) (m0 + 36) Q (F0 m 2957 ls [])) (S : XS) (H : Heap) (locs : List Loc) (ls : Array Slot) (hf : f_Lc55 L sx K m4 S = some ()) (h : XH D cy s00 shLaw ad S A s H locs) (hl : lv_has ls 9 [(4, .int m4), (3, .ref (ad 154)), (2, .ref (ad 155)), (1, .ref (ad 0)), (0, .ref b)]) : W p l e room_1 s m args below meth c H locs c0 m0 Q (F0 m 2809 ls []) := by
  unfold f_Lc55 at hf
  refine lv_aload_n E.1 E.2.1 dL_law_2809 rfl (lv_at hl 3 rfl) ?_
  refine x_callop E h hl 0 0 hf xsub_lawX (fun r0 hr => c_X8_totalFish l D cy s00 _ (xs 0 S)  r0 hr) m_X8_totalFish rfl rfl kw812 rfl rfl (Nat.le_of_ble_eq_true rfl) ⟨Nat.le_of_ble_eq_true rfl, Nat.le_of_ble_eq_true rfl⟩ ⟨by omega, by omega⟩ dL_law_2810 (fun v1 H locs hf h => ?_)
  refine lv_aload_n E.1 E.2.1 dL_law_2813 rfl (lv_at hl 2 rfl) ?_
  refine x_calloi E h hl 155 155 hf xsub_lawM (fun r0 Sq0 hr => c_X9_totalFish l D cy s00 _ (xs 155 S)  r0 Sq0 hr) m_X9_totalFish rfl rfl kw1968 rfl rfl (Nat.le_of_ble_eq_true rfl) ⟨Nat.le_of_ble_eq_true rfl, Nat.le_of_ble_eq_true rfl⟩ ⟨by omega, by omega⟩ dL_law_2814 (fun v2 S3 H locs hf h => ?_)
  refine x_br hf (lv_icmp_eq (tgt := 2957) E.1 E.2.1 dL_law_2817 (by decide)) (fun hf => ?_) (fun hf => ?_)
  · exact x_wid ⟨by omega, by omega⟩ (hk _ H locs ls hf h (lv_sub hl [0, 1, 2, 3, 4] rfl))
  · cases hf
set_option maxHeartbeats 4000000 in
set_option maxRecDepth 100000 in
theorem w_Lc56 {p : Program} {l : Launch} {e : Env} {s : State} {m : MethodId} {args : Array Value} {below : List Frame} {meth : Method} {c : Code} {D : va_G} {cy : Nat → ClassId} {s00 : State} {ad : Nat → Nat} {A : Nat → Prop} {Q : State → Prop} {b L : Nat} {sx : Nat → Int32} {rt : Option FieldType} (hX : va_X b L sx s s.heap) (hb : b < s.heap.size ∧ ¬ A b) (hT : l.stackTraces = false ∧ XDW s00) (hG : XG s00) {tE : xEnT} (hEn : XEn s00 tE) (hNc : XNc s00) {c0 m0 : Nat} (hc0 : c0 + 6 ≤ room_1.cells) (hm0 : m0 + 36 ≤ room_1.slots) {K : XS → Option Unit} {m4 : Int32} (E : XE p s m args meth c cL_law 9 RL rt D cy s00) (hk : ∀ (S1 : XS) (H : Heap) (locs : List Loc) (ls : Array Slot), K S1 = some () → XH D cy s00 shLaw ad S1 A s H locs → lv_has ls 9 [(4, .int m4), (3, .ref (ad 154)), (2, .ref (ad 155)), (1, .ref (ad 0)), (0, .ref b)] → W p l e room_1 s m args below meth c H locs (c0 + 6) (m0 + 36) Q (F0 m 2957 ls [])) (S : XS) (H : Heap) (locs : List Loc) (ls : Array Slot) (hf : f_Lc56 L sx K m4 S = some ()) (h : XH D cy s00 shLaw ad S A s H locs) (hl : lv_has ls 9 [(4, .int m4), (3, .ref (ad 154)), (2, .ref (ad 155)), (1, .ref (ad 0)), (0, .ref b)]) : W p l e room_1 s m args below meth c H locs c0 m0 Q (F0 m 2822 ls []) := by
  unfold f_Lc56 at hf
  refine lv_aload_n E.1 E.2.1 dL_law_2822 rfl (lv_at hl 3 rfl) ?_
  refine x_callod E h hl 0 0 hf xsub_lawX (fun r0 Sq0 hr => c_X8_meanFish l D cy s00 _ (xs 0 S) r0 Sq0 hr) m_X8_meanFish rfl rfl kw820 rfl rfl (Nat.le_of_ble_eq_true rfl) ⟨Nat.le_of_ble_eq_true rfl, Nat.le_of_ble_eq_true rfl⟩ ⟨by omega, by omega⟩ dL_law_2823 (fun v1 S2 H locs hf h => ?_)
  refine lv_dstore (lv' := [(5, .double v1), (4, .int m4), (3, .ref (ad 154)), (2, .ref (ad 155)), (1, .ref (ad 0)), (0, .ref b)]) E.1 E.2.1 dL_law_2826 hl (by decide) rfl (fun ls hl => ?_)
  refine lv_aload_n E.1 E.2.1 dL_law_2828 rfl (lv_at hl 3 rfl) ?_
  refine x_callod E h hl 155 155 hf xsub_lawM (fun r0 Sq0 hr => c_X9_meanFish l D cy s00 _ (xs 155 S2) r0 Sq0 hr) m_X9_meanFish rfl rfl kw1976 rfl rfl (Nat.le_of_ble_eq_true rfl) ⟨Nat.le_of_ble_eq_true rfl, Nat.le_of_ble_eq_true rfl⟩ ⟨by omega, by omega⟩ dL_law_2829 (fun v3 S4 H locs hf h => ?_)
  refine lv_dstore (lv' := [(7, .double v3), (5, .double v1), (4, .int m4), (3, .ref (ad 154)), (2, .ref (ad 155)), (1, .ref (ad 0)), (0, .ref b)]) E.1 E.2.1 dL_law_2832 hl (by decide) rfl (fun ls hl => ?_)
  refine lv_dload E.1 E.2.1 dL_law_2834 (lv_at hl 1 rfl) ?_
  refine lv_dload E.1 E.2.1 dL_law_2836 (lv_at hl 0 rfl) ?_
  refine lv_dcmp E.1 E.2.1 dL_law_2838 ?_
  refine x_br hf (lv_if_eq (tgt := 2860) E.1 E.2.1 dL_law_2839 (by decide)) (fun hf => ?_) (fun hf => ?_)
  · refine lv_goto (tgt := 2957) E.1 E.2.1 dL_law_2860 (by decide) ?_
    exact x_wid ⟨by omega, by omega⟩ (hk _ H locs ls hf h (lv_sub hl [2, 3, 4, 5, 6] rfl))
  · refine lv_dload E.1 E.2.1 dL_law_2842 (lv_at hl 1 rfl) ?_
    refine lv_dload E.1 E.2.1 dL_law_2844 (lv_at hl 1 rfl) ?_
    refine lv_dcmp E.1 E.2.1 dL_law_2846 ?_
    refine x_br hf (lv_if_eq (tgt := 2858) E.1 E.2.1 dL_law_2847 (by decide)) (fun hf => ?_) (fun hf => ?_)
    · cases hf
    · refine lv_dload E.1 E.2.1 dL_law_2850 (lv_at hl 0 rfl) ?_
      refine lv_dload E.1 E.2.1 dL_law_2852 (lv_at hl 0 rfl) ?_
      refine lv_dcmp E.1 E.2.1 dL_law_2854 ?_
      refine x_brn hf (lv_if_ne (tgt := 2860) E.1 E.2.1 dL_law_2855 (by decide)) (fun hf => ?_) (fun hf => ?_)
      · refine lv_goto (tgt := 2957) E.1 E.2.1 dL_law_2860 (by decide) ?_
        exact x_wid ⟨by omega, by omega⟩ (hk _ H locs ls hf h (lv_sub hl [2, 3, 4, 5, 6] rfl))
      · cases hf
set_option maxHeartbeats 4000000 in
set_option maxRecDepth 100000 in
theorem w_Lc57 {p : Program} {l : Launch} {e : Env} {s : State} {m : MethodId} {args : Array Value} {below : List Frame} {meth : Method} {c : Code} {D : va_G} {cy : Nat → ClassId} {s00 : State} {ad : Nat → Nat} {A : Nat → Prop} {Q : State → Prop} {b L : Nat} {sx : Nat → Int32} {rt : Option FieldType} (hX : va_X b L sx s s.heap) (hb : b < s.heap.size ∧ ¬ A b) (hT : l.stackTraces = false ∧ XDW s00) (hG : XG s00) {tE : xEnT} (hEn : XEn s00 tE) (hNc : XNc s00) {c0 m0 : Nat} (hc0 : c0 + 6 ≤ room_1.cells) (hm0 : m0 + 36 ≤ room_1.slots) {K : XS → Option Unit} {m4 : Int32} (E : XE p s m args meth c cL_law 9 RL rt D cy s00) (hk : ∀ (S1 : XS) (H : Heap) (locs : List Loc) (ls : Array Slot), K S1 = some () → XH D cy s00 shLaw ad S1 A s H locs → lv_has ls 9 [(4, .int m4), (3, .ref (ad 154)), (2, .ref (ad 155)), (1, .ref (ad 0)), (0, .ref b)] → W p l e room_1 s m args below meth c H locs (c0 + 6) (m0 + 36) Q (F0 m 2957 ls [])) (S : XS) (H : Heap) (locs : List Loc) (ls : Array Slot) (hf : f_Lc57 L sx K m4 S = some ()) (h : XH D cy s00 shLaw ad S A s H locs) (hl : lv_has ls 9 [(4, .int m4), (3, .ref (ad 154)), (2, .ref (ad 155)), (1, .ref (ad 0)), (0, .ref b)]) : W p l e room_1 s m args below meth c H locs c0 m0 Q (F0 m 2863 ls []) := by
  unfold f_Lc57 at hf
  refine lv_aload_n E.1 E.2.1 dL_law_2863 rfl (lv_at hl 3 rfl) ?_
  refine x_callofl E h hl 0 0 hf xsub_lawX (fun r0 Sq0 hr => c_X8_ownedShare l D cy s00 _ (xs 0 S) r0 Sq0 hr) m_X8_ownedShare rfl rfl kw824 rfl rfl (Nat.le_of_ble_eq_true rfl) ⟨Nat.le_of_ble_eq_true rfl, Nat.le_of_ble_eq_true rfl⟩ ⟨by omega, by omega⟩ dL_law_2864 (fun v1 S2 H locs hf h => ?_)
  obtain ⟨hn, hf⟩ := xdn_in hf
  refine lv_f2d E.1 E.2.1 dL_law_2867 hn ?_
  generalize FP.f2d v1 = v3 at hf ⊢
  refine lv_dstore (lv' := [(5, .double v3), (4, .int m4), (3, .ref (ad 154)), (2, .ref (ad 155)), (1, .ref (ad 0)), (0, .ref b)]) E.1 E.2.1 dL_law_2868 hl (by decide) rfl (fun ls hl => ?_)
  refine lv_aload_n E.1 E.2.1 dL_law_2870 rfl (lv_at hl 3 rfl) ?_
  refine x_callofl E h hl 155 155 hf xsub_lawM (fun r0 Sq0 hr => c_X9_ownedShare l D cy s00 _ (xs 155 S2) r0 Sq0 hr) m_X9_ownedShare rfl rfl kw1980 rfl rfl (Nat.le_of_ble_eq_true rfl) ⟨Nat.le_of_ble_eq_true rfl, Nat.le_of_ble_eq_true rfl⟩ ⟨by omega, by omega⟩ dL_law_2871 (fun v4 S5 H locs hf h => ?_)
  obtain ⟨hn, hf⟩ := xdn_in hf
  refine lv_f2d E.1 E.2.1 dL_law_2874 hn ?_
  generalize FP.f2d v4 = v6 at hf ⊢
  refine lv_dstore (lv' := [(7, .double v6), (5, .double v3), (4, .int m4), (3, .ref (ad 154)), (2, .ref (ad 155)), (1, .ref (ad 0)), (0, .ref b)]) E.1 E.2.1 dL_law_2875 hl (by decide) rfl (fun ls hl => ?_)
  refine lv_dload E.1 E.2.1 dL_law_2877 (lv_at hl 1 rfl) ?_
  refine lv_dload E.1 E.2.1 dL_law_2879 (lv_at hl 0 rfl) ?_
  refine lv_dcmp E.1 E.2.1 dL_law_2881 ?_
  refine x_br hf (lv_if_eq (tgt := 2903) E.1 E.2.1 dL_law_2882 (by decide)) (fun hf => ?_) (fun hf => ?_)
  · refine lv_goto (tgt := 2957) E.1 E.2.1 dL_law_2903 (by decide) ?_
    exact x_wid ⟨by omega, by omega⟩ (hk _ H locs ls hf h (lv_sub hl [2, 3, 4, 5, 6] rfl))
  · refine lv_dload E.1 E.2.1 dL_law_2885 (lv_at hl 1 rfl) ?_
    refine lv_dload E.1 E.2.1 dL_law_2887 (lv_at hl 1 rfl) ?_
    refine lv_dcmp E.1 E.2.1 dL_law_2889 ?_
    refine x_br hf (lv_if_eq (tgt := 2901) E.1 E.2.1 dL_law_2890 (by decide)) (fun hf => ?_) (fun hf => ?_)
    · cases hf
    · refine lv_dload E.1 E.2.1 dL_law_2893 (lv_at hl 0 rfl) ?_
      refine lv_dload E.1 E.2.1 dL_law_2895 (lv_at hl 0 rfl) ?_
      refine lv_dcmp E.1 E.2.1 dL_law_2897 ?_
      refine x_brn hf (lv_if_ne (tgt := 2903) E.1 E.2.1 dL_law_2898 (by decide)) (fun hf => ?_) (fun hf => ?_)
      · refine lv_goto (tgt := 2957) E.1 E.2.1 dL_law_2903 (by decide) ?_
        exact x_wid ⟨by omega, by omega⟩ (hk _ H locs ls hf h (lv_sub hl [2, 3, 4, 5, 6] rfl))
      · cases hf
set_option maxHeartbeats 4000000 in
set_option maxRecDepth 100000 in
theorem w_Lc58 {p : Program} {l : Launch} {e : Env} {s : State} {m : MethodId} {args : Array Value} {below : List Frame} {meth : Method} {c : Code} {D : va_G} {cy : Nat → ClassId} {s00 : State} {ad : Nat → Nat} {A : Nat → Prop} {Q : State → Prop} {b L : Nat} {sx : Nat → Int32} {rt : Option FieldType} (hX : va_X b L sx s s.heap) (hb : b < s.heap.size ∧ ¬ A b) (hT : l.stackTraces = false ∧ XDW s00) (hG : XG s00) {tE : xEnT} (hEn : XEn s00 tE) (hNc : XNc s00) {c0 m0 : Nat} (hc0 : c0 + 6 ≤ room_1.cells) (hm0 : m0 + 36 ≤ room_1.slots) {K : XS → Option Unit} {m4 : Int32} (E : XE p s m args meth c cL_law 9 RL rt D cy s00) (hk : ∀ (S1 : XS) (H : Heap) (locs : List Loc) (ls : Array Slot), K S1 = some () → XH D cy s00 shLaw ad S1 A s H locs → lv_has ls 9 [(4, .int m4), (3, .ref (ad 154)), (2, .ref (ad 155)), (1, .ref (ad 0)), (0, .ref b)] → W p l e room_1 s m args below meth c H locs (c0 + 6) (m0 + 36) Q (F0 m 2957 ls [])) (S : XS) (H : Heap) (locs : List Loc) (ls : Array Slot) (hf : f_Lc58 L sx K m4 S = some ()) (h : XH D cy s00 shLaw ad S A s H locs) (hl : lv_has ls 9 [(4, .int m4), (3, .ref (ad 154)), (2, .ref (ad 155)), (1, .ref (ad 0)), (0, .ref b)]) : W p l e room_1 s m args below meth c H locs c0 m0 Q (F0 m 2906 ls []) := by
  unfold f_Lc58 at hf
  refine lv_aload_n E.1 E.2.1 dL_law_2906 rfl (lv_at hl 3 rfl) ?_
  refine x_callop E h hl 0 0 hf xsub_lawX (fun r0 hr => c_X8_violations l D cy s00 _ (xs 0 S)  r0 hr) m_X8_violations rfl rfl kw828 rfl rfl (Nat.le_of_ble_eq_true rfl) ⟨Nat.le_of_ble_eq_true rfl, Nat.le_of_ble_eq_true rfl⟩ ⟨by omega, by omega⟩ dL_law_2907 (fun v1 H locs hf h => ?_)
  refine lv_aload_n E.1 E.2.1 dL_law_2910 rfl (lv_at hl 2 rfl) ?_
  refine x_calloi E h hl 155 155 hf xsub_lawM (fun r0 Sq0 hr => c_X9_violations l D cy s00 _ (xs 155 S)  r0 Sq0 hr) m_X9_violations rfl rfl kw1984 rfl rfl (Nat.le_of_ble_eq_true rfl) ⟨Nat.le_of_ble_eq_true rfl, Nat.le_of_ble_eq_true rfl⟩ ⟨by omega, by omega⟩ dL_law_2911 (fun v2 S3 H locs hf h => ?_)
  refine x_br hf (lv_icmp_eq (tgt := 2957) E.1 E.2.1 dL_law_2914 (by decide)) (fun hf => ?_) (fun hf => ?_)
  · exact x_wid ⟨by omega, by omega⟩ (hk _ H locs ls hf h (lv_sub hl [0, 1, 2, 3, 4] rfl))
  · cases hf
set_option maxHeartbeats 4000000 in
set_option maxRecDepth 100000 in
theorem w_Lc59 {p : Program} {l : Launch} {e : Env} {s : State} {m : MethodId} {args : Array Value} {below : List Frame} {meth : Method} {c : Code} {D : va_G} {cy : Nat → ClassId} {s00 : State} {ad : Nat → Nat} {A : Nat → Prop} {Q : State → Prop} {b L : Nat} {sx : Nat → Int32} {rt : Option FieldType} (hX : va_X b L sx s s.heap) (hb : b < s.heap.size ∧ ¬ A b) (hT : l.stackTraces = false ∧ XDW s00) (hG : XG s00) {tE : xEnT} (hEn : XEn s00 tE) (hNc : XNc s00) {c0 m0 : Nat} (hc0 : c0 + 6 ≤ room_1.cells) (hm0 : m0 + 36 ≤ room_1.slots) {K : XS → Option Unit} {m4 : Int32} (E : XE p s m args meth c cL_law 9 RL rt D cy s00) (hk : ∀ (S1 : XS) (H : Heap) (locs : List Loc) (ls : Array Slot), K S1 = some () → XH D cy s00 shLaw ad S1 A s H locs → lv_has ls 9 [(4, .int m4), (3, .ref (ad 154)), (2, .ref (ad 155)), (1, .ref (ad 0)), (0, .ref b)] → W p l e room_1 s m args below meth c H locs (c0 + 6) (m0 + 36) Q (F0 m 2957 ls [])) (S : XS) (H : Heap) (locs : List Loc) (ls : Array Slot) (hf : f_Lc59 L sx K m4 S = some ()) (h : XH D cy s00 shLaw ad S A s H locs) (hl : lv_has ls 9 [(4, .int m4), (3, .ref (ad 154)), (2, .ref (ad 155)), (1, .ref (ad 0)), (0, .ref b)]) : W p l e room_1 s m args below meth c H locs c0 m0 Q (F0 m 2919 ls []) := by
  unfold f_Lc59 at hf
  refine lv_aload_n E.1 E.2.1 dL_law_2919 rfl (lv_at hl 3 rfl) ?_
  refine x_calloi E h hl 0 0 hf xsub_lawX (fun r0 Sq0 hr => c_X8_writeRoof l D cy s00 _ (xs 0 S)  r0 Sq0 hr) m_X8_writeRoof rfl rfl kw848 rfl rfl (Nat.le_of_ble_eq_true rfl) ⟨Nat.le_of_ble_eq_true rfl, Nat.le_of_ble_eq_true rfl⟩ ⟨by omega, by omega⟩ dL_law_2920 (fun v1 S2 H locs hf h => ?_)
  refine lv_aload_n E.1 E.2.1 dL_law_2923 rfl (lv_at hl 2 rfl) ?_
  refine x_calloi E h hl 155 155 hf xsub_lawM (fun r0 Sq0 hr => c_X9_writeRoof l D cy s00 _ (xs 155 S2)  r0 Sq0 hr) m_X9_writeRoof rfl rfl kw1992 rfl rfl (Nat.le_of_ble_eq_true rfl) ⟨Nat.le_of_ble_eq_true rfl, Nat.le_of_ble_eq_true rfl⟩ ⟨by omega, by omega⟩ dL_law_2924 (fun v3 S4 H locs hf h => ?_)
  refine x_br hf (lv_icmp_eq (tgt := 2957) E.1 E.2.1 dL_law_2927 (by decide)) (fun hf => ?_) (fun hf => ?_)
  · exact x_wid ⟨by omega, by omega⟩ (hk _ H locs ls hf h (lv_sub hl [0, 1, 2, 3, 4] rfl))
  · cases hf
set_option maxHeartbeats 4000000 in
set_option maxRecDepth 100000 in
theorem w_Lc60 {p : Program} {l : Launch} {e : Env} {s : State} {m : MethodId} {args : Array Value} {below : List Frame} {meth : Method} {c : Code} {D : va_G} {cy : Nat → ClassId} {s00 : State} {ad : Nat → Nat} {A : Nat → Prop} {Q : State → Prop} {b L : Nat} {sx : Nat → Int32} {rt : Option FieldType} (hX : va_X b L sx s s.heap) (hb : b < s.heap.size ∧ ¬ A b) (hT : l.stackTraces = false ∧ XDW s00) (hG : XG s00) {tE : xEnT} (hEn : XEn s00 tE) (hNc : XNc s00) {c0 m0 : Nat} (hc0 : c0 + 6 ≤ room_1.cells) (hm0 : m0 + 36 ≤ room_1.slots) {K : XS → Option Unit} {m4 : Int32} (E : XE p s m args meth c cL_law 9 RL rt D cy s00) (hk : ∀ (S1 : XS) (H : Heap) (locs : List Loc) (ls : Array Slot), K S1 = some () → XH D cy s00 shLaw ad S1 A s H locs → lv_has ls 9 [(4, .int m4), (3, .ref (ad 154)), (2, .ref (ad 155)), (1, .ref (ad 0)), (0, .ref b)] → W p l e room_1 s m args below meth c H locs (c0 + 6) (m0 + 36) Q (F0 m 2957 ls [])) (S : XS) (H : Heap) (locs : List Loc) (ls : Array Slot) (hf : f_Lc60 L sx K m4 S = some ()) (h : XH D cy s00 shLaw ad S A s H locs) (hl : lv_has ls 9 [(4, .int m4), (3, .ref (ad 154)), (2, .ref (ad 155)), (1, .ref (ad 0)), (0, .ref b)]) : W p l e room_1 s m args below meth c H locs c0 m0 Q (F0 m 2932 ls []) := by
  unfold f_Lc60 at hf
  refine lv_aload_n E.1 E.2.1 dL_law_2932 rfl (lv_at hl 3 rfl) ?_
  refine lv_aload_n E.1 E.2.1 dL_law_2933 rfl (lv_at hl 4 rfl) ?_
  refine lv_iload E.1 E.2.1 dL_law_2934 (lv_at hl 0 rfl) ?_
  refine lv_iconst (v := 1) E.1 E.2.1 dL_law_2936 (by decide) ?_
  refine lv_iadd E.1 E.2.1 dL_law_2937 ?_
  refine x_sld hX hb E h hf dL_law_2938 (fun v1 hf => ?_)
  refine x_callop E h hl 0 0 hf xsub_lawX (fun r0 hr => c_X8_reportByte l D cy s00 _ (xs 0 S) v1 r0 hr) m_X8_reportByte rfl rfl kw865 rfl rfl (Nat.le_of_ble_eq_true rfl) ⟨Nat.le_of_ble_eq_true rfl, Nat.le_of_ble_eq_true rfl⟩ ⟨by omega, by omega⟩ dL_law_2939 (fun v2 H locs hf h => ?_)
  refine lv_aload_n E.1 E.2.1 dL_law_2942 rfl (lv_at hl 2 rfl) ?_
  refine lv_aload_n E.1 E.2.1 dL_law_2943 rfl (lv_at hl 4 rfl) ?_
  refine lv_iload E.1 E.2.1 dL_law_2944 (lv_at hl 0 rfl) ?_
  refine lv_iconst (v := 1) E.1 E.2.1 dL_law_2946 (by decide) ?_
  refine lv_iadd E.1 E.2.1 dL_law_2947 ?_
  refine x_sld hX hb E h hf dL_law_2948 (fun v3 hf => ?_)
  refine x_calloi E h hl 155 155 hf xsub_lawM (fun r0 Sq0 hr => c_X9_reportByte l D cy s00 _ (xs 155 S) v3 r0 Sq0 hr) m_X9_reportByte rfl rfl kw2004 rfl rfl (Nat.le_of_ble_eq_true rfl) ⟨Nat.le_of_ble_eq_true rfl, Nat.le_of_ble_eq_true rfl⟩ ⟨by omega, by omega⟩ dL_law_2949 (fun v4 S5 H locs hf h => ?_)
  refine x_br hf (lv_icmp_eq (tgt := 2957) E.1 E.2.1 dL_law_2952 (by decide)) (fun hf => ?_) (fun hf => ?_)
  · exact x_wid ⟨by omega, by omega⟩ (hk _ H locs ls hf h (lv_sub hl [0, 1, 2, 3, 4] rfl))
  · cases hf
