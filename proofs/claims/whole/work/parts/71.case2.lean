set_option maxHeartbeats 4000000 in
set_option maxRecDepth 100000 in
theorem w_Lc21 {p : Program} {l : Launch} {e : Env} {s : State} {m : MethodId} {args : Array Value} {below : List Frame} {meth : Method} {c : Code} {D : va_G} {cy : Nat → ClassId} {s00 : State} {ad : Nat → Nat} {A : Nat → Prop} {Q : State → Prop} {b L : Nat} {sx : Nat → Int32} {rt : Option FieldType} (hX : va_X b L sx s s.heap) (hb : b < s.heap.size ∧ ¬ A b) (hT : l.stackTraces = false ∧ XDW s00) (hG : XG s00) {tE : xEnT} (hEn : XEn s00 tE) (hNc : XNc s00) {c0 m0 : Nat} (hc0 : c0 + 6 ≤ room_1.cells) (hm0 : m0 + 36 ≤ room_1.slots) {K : XS → Option Unit} {m4 : Int32} (E : XE p s m args meth c cL_law 9 RL rt D cy s00) (hk : ∀ (S1 : XS) (H : Heap) (locs : List Loc) (ls : Array Slot), K S1 = some () → XH D cy s00 shLaw ad S1 A s H locs → lv_has ls 9 [(4, .int m4), (3, .ref (ad 154)), (2, .ref (ad 155)), (1, .ref (ad 0)), (0, .ref b)] → W p l e room_1 s m args below meth c H locs (c0 + 6) (m0 + 36) Q (F0 m 2957 ls [])) (S : XS) (H : Heap) (locs : List Loc) (ls : Array Slot) (hf : f_Lc21 L sx K m4 S = some ()) (h : XH D cy s00 shLaw ad S A s H locs) (hl : lv_has ls 9 [(4, .int m4), (3, .ref (ad 154)), (2, .ref (ad 155)), (1, .ref (ad 0)), (0, .ref b)]) : W p l e room_1 s m args below meth c H locs c0 m0 Q (F0 m 1342 ls []) := by
  unfold f_Lc21 at hf
  refine lv_aload_n E.1 E.2.1 dL_law_1342 rfl (lv_at hl 3 rfl) ?_
  refine x_callop E h hl 0 0 hf xsub_lawX (fun r0 hr => c_X8_gutterCount l D cy s00 _ (xs 0 S)  r0 hr) m_X8_gutterCount rfl rfl kw760 rfl rfl (Nat.le_of_ble_eq_true rfl) ⟨Nat.le_of_ble_eq_true rfl, Nat.le_of_ble_eq_true rfl⟩ ⟨by omega, by omega⟩ dL_law_1343 (fun v1 H locs hf h => ?_)
  refine lv_aload_n E.1 E.2.1 dL_law_1346 rfl (lv_at hl 2 rfl) ?_
  refine x_calloi E h hl 155 155 hf xsub_lawM (fun r0 Sq0 hr => c_X9_gutterCount l D cy s00 _ (xs 155 S)  r0 Sq0 hr) m_X9_gutterCount rfl rfl kw1816 rfl rfl (Nat.le_of_ble_eq_true rfl) ⟨Nat.le_of_ble_eq_true rfl, Nat.le_of_ble_eq_true rfl⟩ ⟨by omega, by omega⟩ dL_law_1347 (fun v2 S3 H locs hf h => ?_)
  refine x_br hf (lv_icmp_eq (tgt := 2957) E.1 E.2.1 dL_law_1350 (by decide)) (fun hf => ?_) (fun hf => ?_)
  · exact x_wid ⟨by omega, by omega⟩ (hk _ H locs ls hf h (lv_sub hl [0, 1, 2, 3, 4] rfl))
  · cases hf
set_option maxHeartbeats 4000000 in
set_option maxRecDepth 100000 in
theorem w_Lc22 {p : Program} {l : Launch} {e : Env} {s : State} {m : MethodId} {args : Array Value} {below : List Frame} {meth : Method} {c : Code} {D : va_G} {cy : Nat → ClassId} {s00 : State} {ad : Nat → Nat} {A : Nat → Prop} {Q : State → Prop} {b L : Nat} {sx : Nat → Int32} {rt : Option FieldType} (hX : va_X b L sx s s.heap) (hb : b < s.heap.size ∧ ¬ A b) (hT : l.stackTraces = false ∧ XDW s00) (hG : XG s00) {tE : xEnT} (hEn : XEn s00 tE) (hNc : XNc s00) {c0 m0 : Nat} (hc0 : c0 + 6 ≤ room_1.cells) (hm0 : m0 + 36 ≤ room_1.slots) {K : XS → Option Unit} {m4 : Int32} (E : XE p s m args meth c cL_law 9 RL rt D cy s00) (hk : ∀ (S1 : XS) (H : Heap) (locs : List Loc) (ls : Array Slot), K S1 = some () → XH D cy s00 shLaw ad S1 A s H locs → lv_has ls 9 [(4, .int m4), (3, .ref (ad 154)), (2, .ref (ad 155)), (1, .ref (ad 0)), (0, .ref b)] → W p l e room_1 s m args below meth c H locs (c0 + 6) (m0 + 36) Q (F0 m 2957 ls [])) (S : XS) (H : Heap) (locs : List Loc) (ls : Array Slot) (hf : f_Lc22 L sx K m4 S = some ()) (h : XH D cy s00 shLaw ad S A s H locs) (hl : lv_has ls 9 [(4, .int m4), (3, .ref (ad 154)), (2, .ref (ad 155)), (1, .ref (ad 0)), (0, .ref b)]) : W p l e room_1 s m args below meth c H locs c0 m0 Q (F0 m 1355 ls []) := by
  unfold f_Lc22 at hf
  refine lv_aload_n E.1 E.2.1 dL_law_1355 rfl (lv_at hl 3 rfl) ?_
  refine x_callop E h hl 0 0 hf xsub_lawX (fun r0 hr => c_X8_catCount l D cy s00 _ (xs 0 S)  r0 hr) m_X8_catCount rfl rfl kw764 rfl rfl (Nat.le_of_ble_eq_true rfl) ⟨Nat.le_of_ble_eq_true rfl, Nat.le_of_ble_eq_true rfl⟩ ⟨by omega, by omega⟩ dL_law_1356 (fun v1 H locs hf h => ?_)
  refine lv_aload_n E.1 E.2.1 dL_law_1359 rfl (lv_at hl 2 rfl) ?_
  refine x_calloi E h hl 155 155 hf xsub_lawM (fun r0 Sq0 hr => c_X9_catCount l D cy s00 _ (xs 155 S)  r0 Sq0 hr) m_X9_catCount rfl rfl kw1820 rfl rfl (Nat.le_of_ble_eq_true rfl) ⟨Nat.le_of_ble_eq_true rfl, Nat.le_of_ble_eq_true rfl⟩ ⟨by omega, by omega⟩ dL_law_1360 (fun v2 S3 H locs hf h => ?_)
  refine x_br hf (lv_icmp_eq (tgt := 2957) E.1 E.2.1 dL_law_1363 (by decide)) (fun hf => ?_) (fun hf => ?_)
  · exact x_wid ⟨by omega, by omega⟩ (hk _ H locs ls hf h (lv_sub hl [0, 1, 2, 3, 4] rfl))
  · cases hf
set_option maxHeartbeats 4000000 in
set_option maxRecDepth 100000 in
theorem w_Lc23 {p : Program} {l : Launch} {e : Env} {s : State} {m : MethodId} {args : Array Value} {below : List Frame} {meth : Method} {c : Code} {D : va_G} {cy : Nat → ClassId} {s00 : State} {ad : Nat → Nat} {A : Nat → Prop} {Q : State → Prop} {b L : Nat} {sx : Nat → Int32} {rt : Option FieldType} (hX : va_X b L sx s s.heap) (hb : b < s.heap.size ∧ ¬ A b) (hT : l.stackTraces = false ∧ XDW s00) (hG : XG s00) {tE : xEnT} (hEn : XEn s00 tE) (hNc : XNc s00) {c0 m0 : Nat} (hc0 : c0 + 6 ≤ room_1.cells) (hm0 : m0 + 36 ≤ room_1.slots) {K : XS → Option Unit} {m4 : Int32} (E : XE p s m args meth c cL_law 9 RL rt D cy s00) (hk : ∀ (S1 : XS) (H : Heap) (locs : List Loc) (ls : Array Slot), K S1 = some () → XH D cy s00 shLaw ad S1 A s H locs → lv_has ls 9 [(4, .int m4), (3, .ref (ad 154)), (2, .ref (ad 155)), (1, .ref (ad 0)), (0, .ref b)] → W p l e room_1 s m args below meth c H locs (c0 + 6) (m0 + 36) Q (F0 m 2957 ls [])) (S : XS) (H : Heap) (locs : List Loc) (ls : Array Slot) (hf : f_Lc23 L sx K m4 S = some ()) (h : XH D cy s00 shLaw ad S A s H locs) (hl : lv_has ls 9 [(4, .int m4), (3, .ref (ad 154)), (2, .ref (ad 155)), (1, .ref (ad 0)), (0, .ref b)]) : W p l e room_1 s m args below meth c H locs c0 m0 Q (F0 m 1368 ls []) := by
  unfold f_Lc23 at hf
  refine lv_aload_n E.1 E.2.1 dL_law_1368 rfl (lv_at hl 3 rfl) ?_
  refine x_callop E h hl 0 0 hf xsub_lawX (fun r0 hr => c_X8_night l D cy s00 _ (xs 0 S)  r0 hr) m_X8_night rfl rfl kw768 rfl rfl (Nat.le_of_ble_eq_true rfl) ⟨Nat.le_of_ble_eq_true rfl, Nat.le_of_ble_eq_true rfl⟩ ⟨by omega, by omega⟩ dL_law_1369 (fun v1 H locs hf h => ?_)
  refine lv_aload_n E.1 E.2.1 dL_law_1372 rfl (lv_at hl 2 rfl) ?_
  refine x_calloi E h hl 155 155 hf xsub_lawM (fun r0 Sq0 hr => c_X9_night l D cy s00 _ (xs 155 S)  r0 Sq0 hr) m_X9_night rfl rfl kw1824 rfl rfl (Nat.le_of_ble_eq_true rfl) ⟨Nat.le_of_ble_eq_true rfl, Nat.le_of_ble_eq_true rfl⟩ ⟨by omega, by omega⟩ dL_law_1373 (fun v2 S3 H locs hf h => ?_)
  refine x_br hf (lv_icmp_eq (tgt := 2957) E.1 E.2.1 dL_law_1376 (by decide)) (fun hf => ?_) (fun hf => ?_)
  · exact x_wid ⟨by omega, by omega⟩ (hk _ H locs ls hf h (lv_sub hl [0, 1, 2, 3, 4] rfl))
  · cases hf
set_option maxHeartbeats 4000000 in
set_option maxRecDepth 100000 in
theorem w_Lc24 {p : Program} {l : Launch} {e : Env} {s : State} {m : MethodId} {args : Array Value} {below : List Frame} {meth : Method} {c : Code} {D : va_G} {cy : Nat → ClassId} {s00 : State} {ad : Nat → Nat} {A : Nat → Prop} {Q : State → Prop} {b L : Nat} {sx : Nat → Int32} {rt : Option FieldType} (hX : va_X b L sx s s.heap) (hb : b < s.heap.size ∧ ¬ A b) (hT : l.stackTraces = false ∧ XDW s00) (hG : XG s00) {tE : xEnT} (hEn : XEn s00 tE) (hNc : XNc s00) {c0 m0 : Nat} (hc0 : c0 + 6 ≤ room_1.cells) (hm0 : m0 + 36 ≤ room_1.slots) {K : XS → Option Unit} {m4 : Int32} (E : XE p s m args meth c cL_law 9 RL rt D cy s00) (hk : ∀ (S1 : XS) (H : Heap) (locs : List Loc) (ls : Array Slot), K S1 = some () → XH D cy s00 shLaw ad S1 A s H locs → lv_has ls 9 [(4, .int m4), (3, .ref (ad 154)), (2, .ref (ad 155)), (1, .ref (ad 0)), (0, .ref b)] → W p l e room_1 s m args below meth c H locs (c0 + 6) (m0 + 36) Q (F0 m 2957 ls [])) (S : XS) (H : Heap) (locs : List Loc) (ls : Array Slot) (hf : f_Lc24 L sx K m4 S = some ()) (h : XH D cy s00 shLaw ad S A s H locs) (hl : lv_has ls 9 [(4, .int m4), (3, .ref (ad 154)), (2, .ref (ad 155)), (1, .ref (ad 0)), (0, .ref b)]) : W p l e room_1 s m args below meth c H locs c0 m0 Q (F0 m 1381 ls []) := by
  unfold f_Lc24 at hf
  refine lv_aload_n E.1 E.2.1 dL_law_1381 rfl (lv_at hl 3 rfl) ?_
  refine x_callop E h hl 0 0 hf xsub_lawX (fun r0 hr => c_X8_moonPhase l D cy s00 _ (xs 0 S)  r0 hr) m_X8_moonPhase rfl rfl kw772 rfl rfl (Nat.le_of_ble_eq_true rfl) ⟨Nat.le_of_ble_eq_true rfl, Nat.le_of_ble_eq_true rfl⟩ ⟨by omega, by omega⟩ dL_law_1382 (fun v1 H locs hf h => ?_)
  refine lv_aload_n E.1 E.2.1 dL_law_1385 rfl (lv_at hl 2 rfl) ?_
  refine x_calloi E h hl 155 155 hf xsub_lawM (fun r0 Sq0 hr => c_X9_moonPhase l D cy s00 _ (xs 155 S)  r0 Sq0 hr) m_X9_moonPhase rfl rfl kw1828 rfl rfl (Nat.le_of_ble_eq_true rfl) ⟨Nat.le_of_ble_eq_true rfl, Nat.le_of_ble_eq_true rfl⟩ ⟨by omega, by omega⟩ dL_law_1386 (fun v2 S3 H locs hf h => ?_)
  refine x_br hf (lv_icmp_eq (tgt := 2957) E.1 E.2.1 dL_law_1389 (by decide)) (fun hf => ?_) (fun hf => ?_)
  · exact x_wid ⟨by omega, by omega⟩ (hk _ H locs ls hf h (lv_sub hl [0, 1, 2, 3, 4] rfl))
  · cases hf
set_option maxHeartbeats 4000000 in
set_option maxRecDepth 100000 in
theorem w_Lc25 {p : Program} {l : Launch} {e : Env} {s : State} {m : MethodId} {args : Array Value} {below : List Frame} {meth : Method} {c : Code} {D : va_G} {cy : Nat → ClassId} {s00 : State} {ad : Nat → Nat} {A : Nat → Prop} {Q : State → Prop} {b L : Nat} {sx : Nat → Int32} {rt : Option FieldType} (hX : va_X b L sx s s.heap) (hb : b < s.heap.size ∧ ¬ A b) (hT : l.stackTraces = false ∧ XDW s00) (hG : XG s00) {tE : xEnT} (hEn : XEn s00 tE) (hNc : XNc s00) {c0 m0 : Nat} (hc0 : c0 + 6 ≤ room_1.cells) (hm0 : m0 + 36 ≤ room_1.slots) {K : XS → Option Unit} {m4 : Int32} (E : XE p s m args meth c cL_law 9 RL rt D cy s00) (hk : ∀ (S1 : XS) (H : Heap) (locs : List Loc) (ls : Array Slot), K S1 = some () → XH D cy s00 shLaw ad S1 A s H locs → lv_has ls 9 [(4, .int m4), (3, .ref (ad 154)), (2, .ref (ad 155)), (1, .ref (ad 0)), (0, .ref b)] → W p l e room_1 s m args below meth c H locs (c0 + 6) (m0 + 36) Q (F0 m 2957 ls [])) (S : XS) (H : Heap) (locs : List Loc) (ls : Array Slot) (hf : f_Lc25 L sx K m4 S = some ()) (h : XH D cy s00 shLaw ad S A s H locs) (hl : lv_has ls 9 [(4, .int m4), (3, .ref (ad 154)), (2, .ref (ad 155)), (1, .ref (ad 0)), (0, .ref b)]) : W p l e room_1 s m args below meth c H locs c0 m0 Q (F0 m 1394 ls []) := by
  unfold f_Lc25 at hf
  refine lv_aload_n E.1 E.2.1 dL_law_1394 rfl (lv_at hl 3 rfl) ?_
  refine lv_aload_n E.1 E.2.1 dL_law_1395 rfl (lv_at hl 4 rfl) ?_
  refine lv_iload E.1 E.2.1 dL_law_1396 (lv_at hl 0 rfl) ?_
  refine lv_iconst (v := 1) E.1 E.2.1 dL_law_1398 (by decide) ?_
  refine lv_iadd E.1 E.2.1 dL_law_1399 ?_
  refine x_sld hX hb E h hf dL_law_1400 (fun v1 hf => ?_)
  refine lv_aload_n E.1 E.2.1 dL_law_1401 rfl (lv_at hl 1 rfl) ?_
  refine x_callW E h hl hf xsub_lawW (fun r0 Sq0 hr => c_L_warmth l D cy s00 _ hT hG hNc (xs 0 S) v1 r0 Sq0 hr) mw_L_warmth ⟨by decide +kernel, by decide +kernel, (by decide +kernel : (parseMethodDescriptor yL_warmth.desc).map (fun d => d.parameters.length) = some 3)⟩ kw1128 rfl rfl (Nat.le_of_ble_eq_true rfl) ⟨Nat.le_of_ble_eq_true rfl, Nat.le_of_ble_eq_true rfl⟩ ⟨by omega, by omega⟩ dL_law_1402 (fun v2 S3 H locs hf h => ?_)
  refine lv_istore (lv' := [(5, .int v2), (4, .int m4), (3, .ref (ad 154)), (2, .ref (ad 155)), (1, .ref (ad 0)), (0, .ref b)]) E.1 E.2.1 dL_law_1405 hl (by decide) rfl (fun ls hl => ?_)
  refine lv_aload_n E.1 E.2.1 dL_law_1407 rfl (lv_at hl 3 rfl) ?_
  refine lv_aload_n E.1 E.2.1 dL_law_1408 rfl (lv_at hl 5 rfl) ?_
  refine lv_iload E.1 E.2.1 dL_law_1409 (lv_at hl 1 rfl) ?_
  refine lv_iconst (v := 1) E.1 E.2.1 dL_law_1411 (by decide) ?_
  refine lv_iadd E.1 E.2.1 dL_law_1412 ?_
  refine x_sld hX hb E h hf dL_law_1413 (fun v4 hf => ?_)
  refine x_calloi E h hl 155 155 hf xsub_lawM (fun r0 Sq0 hr => c_X9_warmth l D cy s00 _ (xs 155 S3) v4 r0 Sq0 hr) m_X9_warmth rfl rfl kw1832 rfl rfl (Nat.le_of_ble_eq_true rfl) ⟨Nat.le_of_ble_eq_true rfl, Nat.le_of_ble_eq_true rfl⟩ ⟨by omega, by omega⟩ dL_law_1414 (fun v5 S6 H locs hf h => ?_)
  refine lv_istore (lv' := [(6, .int v5), (5, .int v2), (4, .int m4), (3, .ref (ad 154)), (2, .ref (ad 155)), (1, .ref (ad 0)), (0, .ref b)]) E.1 E.2.1 dL_law_1417 hl (by decide) rfl (fun ls hl => ?_)
  refine lv_aload_n E.1 E.2.1 dL_law_1419 rfl (lv_at hl 4 rfl) ?_
  refine x_callop E h hl 155 155 hf xsub_lawM (fun r0 hr => c_X9_thrown l D cy s00 _ (xs 155 S6)  r0 hr) m_X9_thrown rfl rfl kw1681 rfl rfl (Nat.le_of_ble_eq_true rfl) ⟨Nat.le_of_ble_eq_true rfl, Nat.le_of_ble_eq_true rfl⟩ ⟨by omega, by omega⟩ dL_law_1420 (fun v7 H locs hf h => ?_)
  refine lv_iload E.1 E.2.1 dL_law_1423 (lv_at hl 1 rfl) ?_
  refine x_br hf (lv_icmp_eq (tgt := 1430) E.1 E.2.1 dL_law_1425 (by decide)) (fun hf => ?_) (fun hf => ?_)
  · refine lv_iload E.1 E.2.1 dL_law_1430 (lv_at hl 1 rfl) ?_
    refine x_brn hf (lv_if_ne (tgt := 1447) E.1 E.2.1 dL_law_1432 (by decide)) (fun hf => ?_) (fun hf => ?_)
    · refine lv_goto (tgt := 2957) E.1 E.2.1 dL_law_1447 (by decide) ?_
      exact x_wid ⟨by omega, by omega⟩ (hk _ H locs ls hf h (lv_sub hl [2, 3, 4, 5, 6] rfl))
    · refine lv_aload_n E.1 E.2.1 dL_law_1435 rfl (lv_at hl 3 rfl) ?_
      refine lv_iconst (v := 0) E.1 E.2.1 dL_law_1436 (by decide) ?_
      refine x_lald1 E h 154 rfl dL_law_1437 ?_
      refine lv_iload E.1 E.2.1 dL_law_1438 (lv_at hl 0 rfl) ?_
      refine lv_i2l E.1 E.2.1 dL_law_1440 rfl ?_
      refine W.lcmp E.1 E.2.1 dL_law_1441 ?_
      refine x_bre (lg_cmp0 _ _) hf (lv_if_eq (tgt := 1447) E.1 E.2.1 dL_law_1442 (by decide)) (fun hf => ?_) (fun hf => ?_)
      · refine lv_goto (tgt := 2957) E.1 E.2.1 dL_law_1447 (by decide) ?_
        exact x_wid ⟨by omega, by omega⟩ (hk _ H locs ls hf h (lv_sub hl [2, 3, 4, 5, 6] rfl))
      · cases hf
  · cases hf
set_option maxHeartbeats 4000000 in
set_option maxRecDepth 100000 in
theorem w_Lc26 {p : Program} {l : Launch} {e : Env} {s : State} {m : MethodId} {args : Array Value} {below : List Frame} {meth : Method} {c : Code} {D : va_G} {cy : Nat → ClassId} {s00 : State} {ad : Nat → Nat} {A : Nat → Prop} {Q : State → Prop} {b L : Nat} {sx : Nat → Int32} {rt : Option FieldType} (hX : va_X b L sx s s.heap) (hb : b < s.heap.size ∧ ¬ A b) (hT : l.stackTraces = false ∧ XDW s00) (hG : XG s00) {tE : xEnT} (hEn : XEn s00 tE) (hNc : XNc s00) {c0 m0 : Nat} (hc0 : c0 + 6 ≤ room_1.cells) (hm0 : m0 + 36 ≤ room_1.slots) {K : XS → Option Unit} {m4 : Int32} (E : XE p s m args meth c cL_law 9 RL rt D cy s00) (hk : ∀ (S1 : XS) (H : Heap) (locs : List Loc) (ls : Array Slot), K S1 = some () → XH D cy s00 shLaw ad S1 A s H locs → lv_has ls 9 [(4, .int m4), (3, .ref (ad 154)), (2, .ref (ad 155)), (1, .ref (ad 0)), (0, .ref b)] → W p l e room_1 s m args below meth c H locs (c0 + 6) (m0 + 36) Q (F0 m 2957 ls [])) (S : XS) (H : Heap) (locs : List Loc) (ls : Array Slot) (hf : f_Lc26 L sx K m4 S = some ()) (h : XH D cy s00 shLaw ad S A s H locs) (hl : lv_has ls 9 [(4, .int m4), (3, .ref (ad 154)), (2, .ref (ad 155)), (1, .ref (ad 0)), (0, .ref b)]) : W p l e room_1 s m args below meth c H locs c0 m0 Q (F0 m 1450 ls []) := by
  unfold f_Lc26 at hf
  refine lv_aload_n E.1 E.2.1 dL_law_1450 rfl (lv_at hl 3 rfl) ?_
  refine lv_aload_n E.1 E.2.1 dL_law_1451 rfl (lv_at hl 4 rfl) ?_
  refine lv_iload E.1 E.2.1 dL_law_1452 (lv_at hl 0 rfl) ?_
  refine lv_iconst (v := 1) E.1 E.2.1 dL_law_1454 (by decide) ?_
  refine lv_iadd E.1 E.2.1 dL_law_1455 ?_
  refine x_sld hX hb E h hf dL_law_1456 (fun v1 hf => ?_)
  refine lv_aload_n E.1 E.2.1 dL_law_1457 rfl (lv_at hl 1 rfl) ?_
  refine x_callW E h hl hf xsub_lawW (fun r0 Sq0 hr => c_L_ownerOf l D cy s00 _ hT hG hNc (xs 0 S) v1 r0 Sq0 hr) mw_L_ownerOf ⟨by decide +kernel, by decide +kernel, (by decide +kernel : (parseMethodDescriptor yL_ownerOf.desc).map (fun d => d.parameters.length) = some 3)⟩ kw1135 rfl rfl (Nat.le_of_ble_eq_true rfl) ⟨Nat.le_of_ble_eq_true rfl, Nat.le_of_ble_eq_true rfl⟩ ⟨by omega, by omega⟩ dL_law_1458 (fun v2 S3 H locs hf h => ?_)
  refine lv_istore (lv' := [(5, .int v2), (4, .int m4), (3, .ref (ad 154)), (2, .ref (ad 155)), (1, .ref (ad 0)), (0, .ref b)]) E.1 E.2.1 dL_law_1461 hl (by decide) rfl (fun ls hl => ?_)
  refine lv_aload_n E.1 E.2.1 dL_law_1463 rfl (lv_at hl 3 rfl) ?_
  refine lv_aload_n E.1 E.2.1 dL_law_1464 rfl (lv_at hl 5 rfl) ?_
  refine lv_iload E.1 E.2.1 dL_law_1465 (lv_at hl 1 rfl) ?_
  refine lv_iconst (v := 1) E.1 E.2.1 dL_law_1467 (by decide) ?_
  refine lv_iadd E.1 E.2.1 dL_law_1468 ?_
  refine x_sld hX hb E h hf dL_law_1469 (fun v4 hf => ?_)
  refine x_calloi E h hl 155 155 hf xsub_lawM (fun r0 Sq0 hr => c_X9_ownerOf l D cy s00 _ (xs 155 S3) v4 r0 Sq0 hr) m_X9_ownerOf rfl rfl kw1836 rfl rfl (Nat.le_of_ble_eq_true rfl) ⟨Nat.le_of_ble_eq_true rfl, Nat.le_of_ble_eq_true rfl⟩ ⟨by omega, by omega⟩ dL_law_1470 (fun v5 S6 H locs hf h => ?_)
  refine lv_istore (lv' := [(6, .int v5), (5, .int v2), (4, .int m4), (3, .ref (ad 154)), (2, .ref (ad 155)), (1, .ref (ad 0)), (0, .ref b)]) E.1 E.2.1 dL_law_1473 hl (by decide) rfl (fun ls hl => ?_)
  refine lv_aload_n E.1 E.2.1 dL_law_1475 rfl (lv_at hl 4 rfl) ?_
  refine x_callop E h hl 155 155 hf xsub_lawM (fun r0 hr => c_X9_thrown l D cy s00 _ (xs 155 S6)  r0 hr) m_X9_thrown rfl rfl kw1681 rfl rfl (Nat.le_of_ble_eq_true rfl) ⟨Nat.le_of_ble_eq_true rfl, Nat.le_of_ble_eq_true rfl⟩ ⟨by omega, by omega⟩ dL_law_1476 (fun v7 H locs hf h => ?_)
  refine lv_iload E.1 E.2.1 dL_law_1479 (lv_at hl 1 rfl) ?_
  refine x_br hf (lv_icmp_eq (tgt := 1486) E.1 E.2.1 dL_law_1481 (by decide)) (fun hf => ?_) (fun hf => ?_)
  · refine lv_iload E.1 E.2.1 dL_law_1486 (lv_at hl 1 rfl) ?_
    refine x_brn hf (lv_if_ne (tgt := 1503) E.1 E.2.1 dL_law_1488 (by decide)) (fun hf => ?_) (fun hf => ?_)
    · refine lv_goto (tgt := 2957) E.1 E.2.1 dL_law_1503 (by decide) ?_
      exact x_wid ⟨by omega, by omega⟩ (hk _ H locs ls hf h (lv_sub hl [2, 3, 4, 5, 6] rfl))
    · refine lv_aload_n E.1 E.2.1 dL_law_1491 rfl (lv_at hl 3 rfl) ?_
      refine lv_iconst (v := 0) E.1 E.2.1 dL_law_1492 (by decide) ?_
      refine x_lald1 E h 154 rfl dL_law_1493 ?_
      refine lv_iload E.1 E.2.1 dL_law_1494 (lv_at hl 0 rfl) ?_
      refine lv_i2l E.1 E.2.1 dL_law_1496 rfl ?_
      refine W.lcmp E.1 E.2.1 dL_law_1497 ?_
      refine x_bre (lg_cmp0 _ _) hf (lv_if_eq (tgt := 1503) E.1 E.2.1 dL_law_1498 (by decide)) (fun hf => ?_) (fun hf => ?_)
      · refine lv_goto (tgt := 2957) E.1 E.2.1 dL_law_1503 (by decide) ?_
        exact x_wid ⟨by omega, by omega⟩ (hk _ H locs ls hf h (lv_sub hl [2, 3, 4, 5, 6] rfl))
      · cases hf
  · cases hf
set_option maxHeartbeats 4000000 in
set_option maxRecDepth 100000 in
theorem w_Lc27 {p : Program} {l : Launch} {e : Env} {s : State} {m : MethodId} {args : Array Value} {below : List Frame} {meth : Method} {c : Code} {D : va_G} {cy : Nat → ClassId} {s00 : State} {ad : Nat → Nat} {A : Nat → Prop} {Q : State → Prop} {b L : Nat} {sx : Nat → Int32} {rt : Option FieldType} (hX : va_X b L sx s s.heap) (hb : b < s.heap.size ∧ ¬ A b) (hT : l.stackTraces = false ∧ XDW s00) (hG : XG s00) {tE : xEnT} (hEn : XEn s00 tE) (hNc : XNc s00) {c0 m0 : Nat} (hc0 : c0 + 6 ≤ room_1.cells) (hm0 : m0 + 36 ≤ room_1.slots) {K : XS → Option Unit} {m4 : Int32} (E : XE p s m args meth c cL_law 9 RL rt D cy s00) (hk : ∀ (S1 : XS) (H : Heap) (locs : List Loc) (ls : Array Slot), K S1 = some () → XH D cy s00 shLaw ad S1 A s H locs → lv_has ls 9 [(4, .int m4), (3, .ref (ad 154)), (2, .ref (ad 155)), (1, .ref (ad 0)), (0, .ref b)] → W p l e room_1 s m args below meth c H locs (c0 + 6) (m0 + 36) Q (F0 m 2957 ls [])) (S : XS) (H : Heap) (locs : List Loc) (ls : Array Slot) (hf : f_Lc27 L sx K m4 S = some ()) (h : XH D cy s00 shLaw ad S A s H locs) (hl : lv_has ls 9 [(4, .int m4), (3, .ref (ad 154)), (2, .ref (ad 155)), (1, .ref (ad 0)), (0, .ref b)]) : W p l e room_1 s m args below meth c H locs c0 m0 Q (F0 m 1506 ls []) := by
  unfold f_Lc27 at hf
  refine lv_aload_n E.1 E.2.1 dL_law_1506 rfl (lv_at hl 3 rfl) ?_
  refine lv_aload_n E.1 E.2.1 dL_law_1507 rfl (lv_at hl 4 rfl) ?_
  refine lv_iload E.1 E.2.1 dL_law_1508 (lv_at hl 0 rfl) ?_
  refine lv_iconst (v := 1) E.1 E.2.1 dL_law_1510 (by decide) ?_
  refine lv_iadd E.1 E.2.1 dL_law_1511 ?_
  refine x_sld hX hb E h hf dL_law_1512 (fun v1 hf => ?_)
  refine lv_aload_n E.1 E.2.1 dL_law_1513 rfl (lv_at hl 1 rfl) ?_
  refine x_callW E h hl hf xsub_lawW (fun r0 Sq0 hr => c_L_catOn l D cy s00 _ hT hG hNc (xs 0 S) v1 r0 Sq0 hr) mw_L_catOn ⟨by decide +kernel, by decide +kernel, (by decide +kernel : (parseMethodDescriptor yL_catOn.desc).map (fun d => d.parameters.length) = some 3)⟩ kw1142 rfl rfl (Nat.le_of_ble_eq_true rfl) ⟨Nat.le_of_ble_eq_true rfl, Nat.le_of_ble_eq_true rfl⟩ ⟨by omega, by omega⟩ dL_law_1514 (fun v2 S3 H locs hf h => ?_)
  refine lv_istore (lv' := [(5, .int v2), (4, .int m4), (3, .ref (ad 154)), (2, .ref (ad 155)), (1, .ref (ad 0)), (0, .ref b)]) E.1 E.2.1 dL_law_1517 hl (by decide) rfl (fun ls hl => ?_)
  refine lv_aload_n E.1 E.2.1 dL_law_1519 rfl (lv_at hl 3 rfl) ?_
  refine lv_aload_n E.1 E.2.1 dL_law_1520 rfl (lv_at hl 5 rfl) ?_
  refine lv_iload E.1 E.2.1 dL_law_1521 (lv_at hl 1 rfl) ?_
  refine lv_iconst (v := 1) E.1 E.2.1 dL_law_1523 (by decide) ?_
  refine lv_iadd E.1 E.2.1 dL_law_1524 ?_
  refine x_sld hX hb E h hf dL_law_1525 (fun v4 hf => ?_)
  refine x_calloi E h hl 155 155 hf xsub_lawM (fun r0 Sq0 hr => c_X9_catOn l D cy s00 _ (xs 155 S3) v4 r0 Sq0 hr) m_X9_catOn rfl rfl kw1840 rfl rfl (Nat.le_of_ble_eq_true rfl) ⟨Nat.le_of_ble_eq_true rfl, Nat.le_of_ble_eq_true rfl⟩ ⟨by omega, by omega⟩ dL_law_1526 (fun v5 S6 H locs hf h => ?_)
  refine lv_istore (lv' := [(6, .int v5), (5, .int v2), (4, .int m4), (3, .ref (ad 154)), (2, .ref (ad 155)), (1, .ref (ad 0)), (0, .ref b)]) E.1 E.2.1 dL_law_1529 hl (by decide) rfl (fun ls hl => ?_)
  refine lv_aload_n E.1 E.2.1 dL_law_1531 rfl (lv_at hl 4 rfl) ?_
  refine x_callop E h hl 155 155 hf xsub_lawM (fun r0 hr => c_X9_thrown l D cy s00 _ (xs 155 S6)  r0 hr) m_X9_thrown rfl rfl kw1681 rfl rfl (Nat.le_of_ble_eq_true rfl) ⟨Nat.le_of_ble_eq_true rfl, Nat.le_of_ble_eq_true rfl⟩ ⟨by omega, by omega⟩ dL_law_1532 (fun v7 H locs hf h => ?_)
  refine lv_iload E.1 E.2.1 dL_law_1535 (lv_at hl 1 rfl) ?_
  refine x_br hf (lv_icmp_eq (tgt := 1542) E.1 E.2.1 dL_law_1537 (by decide)) (fun hf => ?_) (fun hf => ?_)
  · refine lv_iload E.1 E.2.1 dL_law_1542 (lv_at hl 1 rfl) ?_
    refine x_brn hf (lv_if_ne (tgt := 1559) E.1 E.2.1 dL_law_1544 (by decide)) (fun hf => ?_) (fun hf => ?_)
    · refine lv_goto (tgt := 2957) E.1 E.2.1 dL_law_1559 (by decide) ?_
      exact x_wid ⟨by omega, by omega⟩ (hk _ H locs ls hf h (lv_sub hl [2, 3, 4, 5, 6] rfl))
    · refine lv_aload_n E.1 E.2.1 dL_law_1547 rfl (lv_at hl 3 rfl) ?_
      refine lv_iconst (v := 0) E.1 E.2.1 dL_law_1548 (by decide) ?_
      refine x_lald1 E h 154 rfl dL_law_1549 ?_
      refine lv_iload E.1 E.2.1 dL_law_1550 (lv_at hl 0 rfl) ?_
      refine lv_i2l E.1 E.2.1 dL_law_1552 rfl ?_
      refine W.lcmp E.1 E.2.1 dL_law_1553 ?_
      refine x_bre (lg_cmp0 _ _) hf (lv_if_eq (tgt := 1559) E.1 E.2.1 dL_law_1554 (by decide)) (fun hf => ?_) (fun hf => ?_)
      · refine lv_goto (tgt := 2957) E.1 E.2.1 dL_law_1559 (by decide) ?_
        exact x_wid ⟨by omega, by omega⟩ (hk _ H locs ls hf h (lv_sub hl [2, 3, 4, 5, 6] rfl))
      · cases hf
  · cases hf
set_option maxHeartbeats 4000000 in
set_option maxRecDepth 100000 in
theorem w_Lc28 {p : Program} {l : Launch} {e : Env} {s : State} {m : MethodId} {args : Array Value} {below : List Frame} {meth : Method} {c : Code} {D : va_G} {cy : Nat → ClassId} {s00 : State} {ad : Nat → Nat} {A : Nat → Prop} {Q : State → Prop} {b L : Nat} {sx : Nat → Int32} {rt : Option FieldType} (hX : va_X b L sx s s.heap) (hb : b < s.heap.size ∧ ¬ A b) (hT : l.stackTraces = false ∧ XDW s00) (hG : XG s00) {tE : xEnT} (hEn : XEn s00 tE) (hNc : XNc s00) {c0 m0 : Nat} (hc0 : c0 + 6 ≤ room_1.cells) (hm0 : m0 + 36 ≤ room_1.slots) {K : XS → Option Unit} {m4 : Int32} (E : XE p s m args meth c cL_law 9 RL rt D cy s00) (hk : ∀ (S1 : XS) (H : Heap) (locs : List Loc) (ls : Array Slot), K S1 = some () → XH D cy s00 shLaw ad S1 A s H locs → lv_has ls 9 [(4, .int m4), (3, .ref (ad 154)), (2, .ref (ad 155)), (1, .ref (ad 0)), (0, .ref b)] → W p l e room_1 s m args below meth c H locs (c0 + 6) (m0 + 36) Q (F0 m 2957 ls [])) (S : XS) (H : Heap) (locs : List Loc) (ls : Array Slot) (hf : f_Lc28 L sx K m4 S = some ()) (h : XH D cy s00 shLaw ad S A s H locs) (hl : lv_has ls 9 [(4, .int m4), (3, .ref (ad 154)), (2, .ref (ad 155)), (1, .ref (ad 0)), (0, .ref b)]) : W p l e room_1 s m args below meth c H locs c0 m0 Q (F0 m 1562 ls []) := by
  unfold f_Lc28 at hf
  refine lv_aload_n E.1 E.2.1 dL_law_1562 rfl (lv_at hl 3 rfl) ?_
  refine lv_aload_n E.1 E.2.1 dL_law_1563 rfl (lv_at hl 4 rfl) ?_
  refine lv_iload E.1 E.2.1 dL_law_1564 (lv_at hl 0 rfl) ?_
  refine lv_iconst (v := 1) E.1 E.2.1 dL_law_1566 (by decide) ?_
  refine lv_iadd E.1 E.2.1 dL_law_1567 ?_
  refine x_sld hX hb E h hf dL_law_1568 (fun v1 hf => ?_)
  refine lv_aload_n E.1 E.2.1 dL_law_1569 rfl (lv_at hl 1 rfl) ?_
  refine x_callW E h hl hf xsub_lawW (fun r0 Sq0 hr => c_L_gutterEnds l D cy s00 _ hT hG hNc (xs 0 S) v1 r0 Sq0 hr) mw_L_gutterEnds ⟨by decide +kernel, by decide +kernel, (by decide +kernel : (parseMethodDescriptor yL_gutterEnds.desc).map (fun d => d.parameters.length) = some 3)⟩ kw1150 rfl rfl (Nat.le_of_ble_eq_true rfl) ⟨Nat.le_of_ble_eq_true rfl, Nat.le_of_ble_eq_true rfl⟩ ⟨by omega, by omega⟩ dL_law_1570 (fun v2 S3 H locs hf h => ?_)
  refine lv_istore (lv' := [(5, .int v2), (4, .int m4), (3, .ref (ad 154)), (2, .ref (ad 155)), (1, .ref (ad 0)), (0, .ref b)]) E.1 E.2.1 dL_law_1573 hl (by decide) rfl (fun ls hl => ?_)
  refine lv_aload_n E.1 E.2.1 dL_law_1575 rfl (lv_at hl 3 rfl) ?_
  refine lv_aload_n E.1 E.2.1 dL_law_1576 rfl (lv_at hl 5 rfl) ?_
  refine lv_iload E.1 E.2.1 dL_law_1577 (lv_at hl 1 rfl) ?_
  refine lv_iconst (v := 1) E.1 E.2.1 dL_law_1579 (by decide) ?_
  refine lv_iadd E.1 E.2.1 dL_law_1580 ?_
  refine x_sld hX hb E h hf dL_law_1581 (fun v4 hf => ?_)
  refine x_calloi E h hl 155 155 hf xsub_lawM (fun r0 Sq0 hr => c_X9_gutterEnds l D cy s00 _ (xs 155 S3) v4 r0 Sq0 hr) m_X9_gutterEnds rfl rfl kw1844 rfl rfl (Nat.le_of_ble_eq_true rfl) ⟨Nat.le_of_ble_eq_true rfl, Nat.le_of_ble_eq_true rfl⟩ ⟨by omega, by omega⟩ dL_law_1582 (fun v5 S6 H locs hf h => ?_)
  refine lv_istore (lv' := [(6, .int v5), (5, .int v2), (4, .int m4), (3, .ref (ad 154)), (2, .ref (ad 155)), (1, .ref (ad 0)), (0, .ref b)]) E.1 E.2.1 dL_law_1585 hl (by decide) rfl (fun ls hl => ?_)
  refine lv_aload_n E.1 E.2.1 dL_law_1587 rfl (lv_at hl 4 rfl) ?_
  refine x_callop E h hl 155 155 hf xsub_lawM (fun r0 hr => c_X9_thrown l D cy s00 _ (xs 155 S6)  r0 hr) m_X9_thrown rfl rfl kw1681 rfl rfl (Nat.le_of_ble_eq_true rfl) ⟨Nat.le_of_ble_eq_true rfl, Nat.le_of_ble_eq_true rfl⟩ ⟨by omega, by omega⟩ dL_law_1588 (fun v7 H locs hf h => ?_)
  refine lv_iload E.1 E.2.1 dL_law_1591 (lv_at hl 1 rfl) ?_
  refine x_br hf (lv_icmp_eq (tgt := 1598) E.1 E.2.1 dL_law_1593 (by decide)) (fun hf => ?_) (fun hf => ?_)
  · refine lv_iload E.1 E.2.1 dL_law_1598 (lv_at hl 1 rfl) ?_
    refine x_brn hf (lv_if_ne (tgt := 1615) E.1 E.2.1 dL_law_1600 (by decide)) (fun hf => ?_) (fun hf => ?_)
    · refine lv_goto (tgt := 2957) E.1 E.2.1 dL_law_1615 (by decide) ?_
      exact x_wid ⟨by omega, by omega⟩ (hk _ H locs ls hf h (lv_sub hl [2, 3, 4, 5, 6] rfl))
    · refine lv_aload_n E.1 E.2.1 dL_law_1603 rfl (lv_at hl 3 rfl) ?_
      refine lv_iconst (v := 0) E.1 E.2.1 dL_law_1604 (by decide) ?_
      refine x_lald1 E h 154 rfl dL_law_1605 ?_
      refine lv_iload E.1 E.2.1 dL_law_1606 (lv_at hl 0 rfl) ?_
      refine lv_i2l E.1 E.2.1 dL_law_1608 rfl ?_
      refine W.lcmp E.1 E.2.1 dL_law_1609 ?_
      refine x_bre (lg_cmp0 _ _) hf (lv_if_eq (tgt := 1615) E.1 E.2.1 dL_law_1610 (by decide)) (fun hf => ?_) (fun hf => ?_)
      · refine lv_goto (tgt := 2957) E.1 E.2.1 dL_law_1615 (by decide) ?_
        exact x_wid ⟨by omega, by omega⟩ (hk _ H locs ls hf h (lv_sub hl [2, 3, 4, 5, 6] rfl))
      · cases hf
  · cases hf
set_option maxHeartbeats 4000000 in
set_option maxRecDepth 100000 in
theorem w_Lc29 {p : Program} {l : Launch} {e : Env} {s : State} {m : MethodId} {args : Array Value} {below : List Frame} {meth : Method} {c : Code} {D : va_G} {cy : Nat → ClassId} {s00 : State} {ad : Nat → Nat} {A : Nat → Prop} {Q : State → Prop} {b L : Nat} {sx : Nat → Int32} {rt : Option FieldType} (hX : va_X b L sx s s.heap) (hb : b < s.heap.size ∧ ¬ A b) (hT : l.stackTraces = false ∧ XDW s00) (hG : XG s00) {tE : xEnT} (hEn : XEn s00 tE) (hNc : XNc s00) {c0 m0 : Nat} (hc0 : c0 + 6 ≤ room_1.cells) (hm0 : m0 + 36 ≤ room_1.slots) {K : XS → Option Unit} {m4 : Int32} (E : XE p s m args meth c cL_law 9 RL rt D cy s00) (hk : ∀ (S1 : XS) (H : Heap) (locs : List Loc) (ls : Array Slot), K S1 = some () → XH D cy s00 shLaw ad S1 A s H locs → lv_has ls 9 [(4, .int m4), (3, .ref (ad 154)), (2, .ref (ad 155)), (1, .ref (ad 0)), (0, .ref b)] → W p l e room_1 s m args below meth c H locs (c0 + 6) (m0 + 36) Q (F0 m 2957 ls [])) (S : XS) (H : Heap) (locs : List Loc) (ls : Array Slot) (hf : f_Lc29 L sx K m4 S = some ()) (h : XH D cy s00 shLaw ad S A s H locs) (hl : lv_has ls 9 [(4, .int m4), (3, .ref (ad 154)), (2, .ref (ad 155)), (1, .ref (ad 0)), (0, .ref b)]) : W p l e room_1 s m args below meth c H locs c0 m0 Q (F0 m 1618 ls []) := by
  unfold f_Lc29 at hf
  refine lv_aload_n E.1 E.2.1 dL_law_1618 rfl (lv_at hl 3 rfl) ?_
  refine lv_aload_n E.1 E.2.1 dL_law_1619 rfl (lv_at hl 4 rfl) ?_
  refine lv_iload E.1 E.2.1 dL_law_1620 (lv_at hl 0 rfl) ?_
  refine lv_iconst (v := 1) E.1 E.2.1 dL_law_1622 (by decide) ?_
  refine lv_iadd E.1 E.2.1 dL_law_1623 ?_
  refine x_sld hX hb E h hf dL_law_1624 (fun v1 hf => ?_)
  refine lv_aload_n E.1 E.2.1 dL_law_1625 rfl (lv_at hl 1 rfl) ?_
  refine x_callW E h hl hf xsub_lawW (fun r0 Sq0 hr => c_L_width l D cy s00 _ hT hG hNc (xs 0 S) v1 r0 Sq0 hr) mw_L_width ⟨by decide +kernel, by decide +kernel, (by decide +kernel : (parseMethodDescriptor yL_width.desc).map (fun d => d.parameters.length) = some 3)⟩ kw1157 rfl rfl (Nat.le_of_ble_eq_true rfl) ⟨Nat.le_of_ble_eq_true rfl, Nat.le_of_ble_eq_true rfl⟩ ⟨by omega, by omega⟩ dL_law_1626 (fun v2 S3 H locs hf h => ?_)
  refine lv_istore (lv' := [(5, .int v2), (4, .int m4), (3, .ref (ad 154)), (2, .ref (ad 155)), (1, .ref (ad 0)), (0, .ref b)]) E.1 E.2.1 dL_law_1629 hl (by decide) rfl (fun ls hl => ?_)
  refine lv_aload_n E.1 E.2.1 dL_law_1631 rfl (lv_at hl 3 rfl) ?_
  refine lv_aload_n E.1 E.2.1 dL_law_1632 rfl (lv_at hl 5 rfl) ?_
  refine lv_iload E.1 E.2.1 dL_law_1633 (lv_at hl 1 rfl) ?_
  refine lv_iconst (v := 1) E.1 E.2.1 dL_law_1635 (by decide) ?_
  refine lv_iadd E.1 E.2.1 dL_law_1636 ?_
  refine x_sld hX hb E h hf dL_law_1637 (fun v4 hf => ?_)
  refine x_calloi E h hl 155 155 hf xsub_lawM (fun r0 Sq0 hr => c_X9_width l D cy s00 _ (xs 155 S3) v4 r0 Sq0 hr) m_X9_width rfl rfl kw1848 rfl rfl (Nat.le_of_ble_eq_true rfl) ⟨Nat.le_of_ble_eq_true rfl, Nat.le_of_ble_eq_true rfl⟩ ⟨by omega, by omega⟩ dL_law_1638 (fun v5 S6 H locs hf h => ?_)
  refine lv_istore (lv' := [(6, .int v5), (5, .int v2), (4, .int m4), (3, .ref (ad 154)), (2, .ref (ad 155)), (1, .ref (ad 0)), (0, .ref b)]) E.1 E.2.1 dL_law_1641 hl (by decide) rfl (fun ls hl => ?_)
  refine lv_aload_n E.1 E.2.1 dL_law_1643 rfl (lv_at hl 4 rfl) ?_
  refine x_callop E h hl 155 155 hf xsub_lawM (fun r0 hr => c_X9_thrown l D cy s00 _ (xs 155 S6)  r0 hr) m_X9_thrown rfl rfl kw1681 rfl rfl (Nat.le_of_ble_eq_true rfl) ⟨Nat.le_of_ble_eq_true rfl, Nat.le_of_ble_eq_true rfl⟩ ⟨by omega, by omega⟩ dL_law_1644 (fun v7 H locs hf h => ?_)
  refine lv_iload E.1 E.2.1 dL_law_1647 (lv_at hl 1 rfl) ?_
  refine x_br hf (lv_icmp_eq (tgt := 1654) E.1 E.2.1 dL_law_1649 (by decide)) (fun hf => ?_) (fun hf => ?_)
  · refine lv_iload E.1 E.2.1 dL_law_1654 (lv_at hl 1 rfl) ?_
    refine x_brn hf (lv_if_ne (tgt := 1671) E.1 E.2.1 dL_law_1656 (by decide)) (fun hf => ?_) (fun hf => ?_)
    · refine lv_goto (tgt := 2957) E.1 E.2.1 dL_law_1671 (by decide) ?_
      exact x_wid ⟨by omega, by omega⟩ (hk _ H locs ls hf h (lv_sub hl [2, 3, 4, 5, 6] rfl))
    · refine lv_aload_n E.1 E.2.1 dL_law_1659 rfl (lv_at hl 3 rfl) ?_
      refine lv_iconst (v := 0) E.1 E.2.1 dL_law_1660 (by decide) ?_
      refine x_lald1 E h 154 rfl dL_law_1661 ?_
      refine lv_iload E.1 E.2.1 dL_law_1662 (lv_at hl 0 rfl) ?_
      refine lv_i2l E.1 E.2.1 dL_law_1664 rfl ?_
      refine W.lcmp E.1 E.2.1 dL_law_1665 ?_
      refine x_bre (lg_cmp0 _ _) hf (lv_if_eq (tgt := 1671) E.1 E.2.1 dL_law_1666 (by decide)) (fun hf => ?_) (fun hf => ?_)
      · refine lv_goto (tgt := 2957) E.1 E.2.1 dL_law_1671 (by decide) ?_
        exact x_wid ⟨by omega, by omega⟩ (hk _ H locs ls hf h (lv_sub hl [2, 3, 4, 5, 6] rfl))
      · cases hf
  · cases hf
set_option maxHeartbeats 4000000 in
set_option maxRecDepth 100000 in
theorem w_Lc30 {p : Program} {l : Launch} {e : Env} {s : State} {m : MethodId} {args : Array Value} {below : List Frame} {meth : Method} {c : Code} {D : va_G} {cy : Nat → ClassId} {s00 : State} {ad : Nat → Nat} {A : Nat → Prop} {Q : State → Prop} {b L : Nat} {sx : Nat → Int32} {rt : Option FieldType} (hX : va_X b L sx s s.heap) (hb : b < s.heap.size ∧ ¬ A b) (hT : l.stackTraces = false ∧ XDW s00) (hG : XG s00) {tE : xEnT} (hEn : XEn s00 tE) (hNc : XNc s00) {c0 m0 : Nat} (hc0 : c0 + 6 ≤ room_1.cells) (hm0 : m0 + 36 ≤ room_1.slots) {K : XS → Option Unit} {m4 : Int32} (E : XE p s m args meth c cL_law 9 RL rt D cy s00) (hk : ∀ (S1 : XS) (H : Heap) (locs : List Loc) (ls : Array Slot), K S1 = some () → XH D cy s00 shLaw ad S1 A s H locs → lv_has ls 9 [(4, .int m4), (3, .ref (ad 154)), (2, .ref (ad 155)), (1, .ref (ad 0)), (0, .ref b)] → W p l e room_1 s m args below meth c H locs (c0 + 6) (m0 + 36) Q (F0 m 2957 ls [])) (S : XS) (H : Heap) (locs : List Loc) (ls : Array Slot) (hf : f_Lc30 L sx K m4 S = some ()) (h : XH D cy s00 shLaw ad S A s H locs) (hl : lv_has ls 9 [(4, .int m4), (3, .ref (ad 154)), (2, .ref (ad 155)), (1, .ref (ad 0)), (0, .ref b)]) : W p l e room_1 s m args below meth c H locs c0 m0 Q (F0 m 1674 ls []) := by
  unfold f_Lc30 at hf
  refine lv_aload_n E.1 E.2.1 dL_law_1674 rfl (lv_at hl 3 rfl) ?_
  refine lv_aload_n E.1 E.2.1 dL_law_1675 rfl (lv_at hl 4 rfl) ?_
  refine lv_iload E.1 E.2.1 dL_law_1676 (lv_at hl 0 rfl) ?_
  refine lv_iconst (v := 1) E.1 E.2.1 dL_law_1678 (by decide) ?_
  refine lv_iadd E.1 E.2.1 dL_law_1679 ?_
  refine x_sld hX hb E h hf dL_law_1680 (fun v1 hf => ?_)
  refine lv_aload_n E.1 E.2.1 dL_law_1681 rfl (lv_at hl 4 rfl) ?_
  refine lv_iload E.1 E.2.1 dL_law_1682 (lv_at hl 0 rfl) ?_
  refine lv_iconst (v := 2) E.1 E.2.1 dL_law_1684 (by decide) ?_
  refine lv_iadd E.1 E.2.1 dL_law_1685 ?_
  refine x_sld hX hb E h hf dL_law_1686 (fun v2 hf => ?_)
  refine lv_aload_n E.1 E.2.1 dL_law_1687 rfl (lv_at hl 1 rfl) ?_
  refine x_callW E h hl hf xsub_lawW (fun r0 Sq0 hr => c_L_widestWay l D cy s00 _ hT hG hNc (xs 0 S) v1 v2 r0 Sq0 hr) mw_L_widestWay ⟨by decide +kernel, by decide +kernel, (by decide +kernel : (parseMethodDescriptor yL_widestWay.desc).map (fun d => d.parameters.length) = some 4)⟩ kw1164 rfl rfl (Nat.le_of_ble_eq_true rfl) ⟨Nat.le_of_ble_eq_true rfl, Nat.le_of_ble_eq_true rfl⟩ ⟨by omega, by omega⟩ dL_law_1688 (fun v3 S4 H locs hf h => ?_)
  refine lv_istore (lv' := [(5, .int v3), (4, .int m4), (3, .ref (ad 154)), (2, .ref (ad 155)), (1, .ref (ad 0)), (0, .ref b)]) E.1 E.2.1 dL_law_1691 hl (by decide) rfl (fun ls hl => ?_)
  refine lv_aload_n E.1 E.2.1 dL_law_1693 rfl (lv_at hl 3 rfl) ?_
  refine lv_aload_n E.1 E.2.1 dL_law_1694 rfl (lv_at hl 5 rfl) ?_
  refine lv_iload E.1 E.2.1 dL_law_1695 (lv_at hl 1 rfl) ?_
  refine lv_iconst (v := 1) E.1 E.2.1 dL_law_1697 (by decide) ?_
  refine lv_iadd E.1 E.2.1 dL_law_1698 ?_
  refine x_sld hX hb E h hf dL_law_1699 (fun v5 hf => ?_)
  refine lv_aload_n E.1 E.2.1 dL_law_1700 rfl (lv_at hl 5 rfl) ?_
  refine lv_iload E.1 E.2.1 dL_law_1701 (lv_at hl 1 rfl) ?_
  refine lv_iconst (v := 2) E.1 E.2.1 dL_law_1703 (by decide) ?_
  refine lv_iadd E.1 E.2.1 dL_law_1704 ?_
  refine x_sld hX hb E h hf dL_law_1705 (fun v6 hf => ?_)
  refine x_calloi E h hl 155 155 hf xsub_lawM (fun r0 Sq0 hr => c_X9_widestWay l D cy s00 _ (xs 155 S4) v5 v6 r0 Sq0 hr) m_X9_widestWay rfl rfl kw1852 rfl rfl (Nat.le_of_ble_eq_true rfl) ⟨Nat.le_of_ble_eq_true rfl, Nat.le_of_ble_eq_true rfl⟩ ⟨by omega, by omega⟩ dL_law_1706 (fun v7 S8 H locs hf h => ?_)
  refine lv_istore (lv' := [(6, .int v7), (5, .int v3), (4, .int m4), (3, .ref (ad 154)), (2, .ref (ad 155)), (1, .ref (ad 0)), (0, .ref b)]) E.1 E.2.1 dL_law_1709 hl (by decide) rfl (fun ls hl => ?_)
  refine lv_aload_n E.1 E.2.1 dL_law_1711 rfl (lv_at hl 4 rfl) ?_
  refine x_callop E h hl 155 155 hf xsub_lawM (fun r0 hr => c_X9_thrown l D cy s00 _ (xs 155 S8)  r0 hr) m_X9_thrown rfl rfl kw1681 rfl rfl (Nat.le_of_ble_eq_true rfl) ⟨Nat.le_of_ble_eq_true rfl, Nat.le_of_ble_eq_true rfl⟩ ⟨by omega, by omega⟩ dL_law_1712 (fun v9 H locs hf h => ?_)
  refine lv_iload E.1 E.2.1 dL_law_1715 (lv_at hl 1 rfl) ?_
  refine x_br hf (lv_icmp_eq (tgt := 1722) E.1 E.2.1 dL_law_1717 (by decide)) (fun hf => ?_) (fun hf => ?_)
  · refine lv_iload E.1 E.2.1 dL_law_1722 (lv_at hl 1 rfl) ?_
    refine x_brn hf (lv_if_ne (tgt := 1739) E.1 E.2.1 dL_law_1724 (by decide)) (fun hf => ?_) (fun hf => ?_)
    · refine lv_goto (tgt := 2957) E.1 E.2.1 dL_law_1739 (by decide) ?_
      exact x_wid ⟨by omega, by omega⟩ (hk _ H locs ls hf h (lv_sub hl [2, 3, 4, 5, 6] rfl))
    · refine lv_aload_n E.1 E.2.1 dL_law_1727 rfl (lv_at hl 3 rfl) ?_
      refine lv_iconst (v := 0) E.1 E.2.1 dL_law_1728 (by decide) ?_
      refine x_lald1 E h 154 rfl dL_law_1729 ?_
      refine lv_iload E.1 E.2.1 dL_law_1730 (lv_at hl 0 rfl) ?_
      refine lv_i2l E.1 E.2.1 dL_law_1732 rfl ?_
      refine W.lcmp E.1 E.2.1 dL_law_1733 ?_
      refine x_bre (lg_cmp0 _ _) hf (lv_if_eq (tgt := 1739) E.1 E.2.1 dL_law_1734 (by decide)) (fun hf => ?_) (fun hf => ?_)
      · refine lv_goto (tgt := 2957) E.1 E.2.1 dL_law_1739 (by decide) ?_
        exact x_wid ⟨by omega, by omega⟩ (hk _ H locs ls hf h (lv_sub hl [2, 3, 4, 5, 6] rfl))
      · cases hf
  · cases hf
set_option maxHeartbeats 4000000 in
set_option maxRecDepth 100000 in
theorem w_Lc31 {p : Program} {l : Launch} {e : Env} {s : State} {m : MethodId} {args : Array Value} {below : List Frame} {meth : Method} {c : Code} {D : va_G} {cy : Nat → ClassId} {s00 : State} {ad : Nat → Nat} {A : Nat → Prop} {Q : State → Prop} {b L : Nat} {sx : Nat → Int32} {rt : Option FieldType} (hX : va_X b L sx s s.heap) (hb : b < s.heap.size ∧ ¬ A b) (hT : l.stackTraces = false ∧ XDW s00) (hG : XG s00) {tE : xEnT} (hEn : XEn s00 tE) (hNc : XNc s00) {c0 m0 : Nat} (hc0 : c0 + 6 ≤ room_1.cells) (hm0 : m0 + 36 ≤ room_1.slots) {K : XS → Option Unit} {m4 : Int32} (E : XE p s m args meth c cL_law 9 RL rt D cy s00) (hk : ∀ (S1 : XS) (H : Heap) (locs : List Loc) (ls : Array Slot), K S1 = some () → XH D cy s00 shLaw ad S1 A s H locs → lv_has ls 9 [(4, .int m4), (3, .ref (ad 154)), (2, .ref (ad 155)), (1, .ref (ad 0)), (0, .ref b)] → W p l e room_1 s m args below meth c H locs (c0 + 6) (m0 + 36) Q (F0 m 2957 ls [])) (S : XS) (H : Heap) (locs : List Loc) (ls : Array Slot) (hf : f_Lc31 L sx K m4 S = some ()) (h : XH D cy s00 shLaw ad S A s H locs) (hl : lv_has ls 9 [(4, .int m4), (3, .ref (ad 154)), (2, .ref (ad 155)), (1, .ref (ad 0)), (0, .ref b)]) : W p l e room_1 s m args below meth c H locs c0 m0 Q (F0 m 1742 ls []) := by
  unfold f_Lc31 at hf
  refine lv_aload_n E.1 E.2.1 dL_law_1742 rfl (lv_at hl 3 rfl) ?_
  refine x_callop E h hl 0 0 hf xsub_lawX (fun r0 hr => c_X8_warmestFree l D cy s00 _ (xs 0 S)  r0 hr) m_X8_warmestFree rfl rfl kw776 rfl rfl (Nat.le_of_ble_eq_true rfl) ⟨Nat.le_of_ble_eq_true rfl, Nat.le_of_ble_eq_true rfl⟩ ⟨by omega, by omega⟩ dL_law_1743 (fun v1 H locs hf h => ?_)
  refine lv_aload_n E.1 E.2.1 dL_law_1746 rfl (lv_at hl 2 rfl) ?_
  refine x_calloi E h hl 155 155 hf xsub_lawM (fun r0 Sq0 hr => c_X9_warmestFree l D cy s00 _ (xs 155 S)  r0 Sq0 hr) m_X9_warmestFree rfl rfl kw1860 rfl rfl (Nat.le_of_ble_eq_true rfl) ⟨Nat.le_of_ble_eq_true rfl, Nat.le_of_ble_eq_true rfl⟩ ⟨by omega, by omega⟩ dL_law_1747 (fun v2 S3 H locs hf h => ?_)
  refine x_br hf (lv_icmp_eq (tgt := 2957) E.1 E.2.1 dL_law_1750 (by decide)) (fun hf => ?_) (fun hf => ?_)
  · exact x_wid ⟨by omega, by omega⟩ (hk _ H locs ls hf h (lv_sub hl [0, 1, 2, 3, 4] rfl))
  · cases hf
set_option maxHeartbeats 4000000 in
set_option maxRecDepth 100000 in
theorem w_Lc32 {p : Program} {l : Launch} {e : Env} {s : State} {m : MethodId} {args : Array Value} {below : List Frame} {meth : Method} {c : Code} {D : va_G} {cy : Nat → ClassId} {s00 : State} {ad : Nat → Nat} {A : Nat → Prop} {Q : State → Prop} {b L : Nat} {sx : Nat → Int32} {rt : Option FieldType} (hX : va_X b L sx s s.heap) (hb : b < s.heap.size ∧ ¬ A b) (hT : l.stackTraces = false ∧ XDW s00) (hG : XG s00) {tE : xEnT} (hEn : XEn s00 tE) (hNc : XNc s00) {c0 m0 : Nat} (hc0 : c0 + 6 ≤ room_1.cells) (hm0 : m0 + 36 ≤ room_1.slots) {K : XS → Option Unit} {m4 : Int32} (E : XE p s m args meth c cL_law 9 RL rt D cy s00) (hk : ∀ (S1 : XS) (H : Heap) (locs : List Loc) (ls : Array Slot), K S1 = some () → XH D cy s00 shLaw ad S1 A s H locs → lv_has ls 9 [(4, .int m4), (3, .ref (ad 154)), (2, .ref (ad 155)), (1, .ref (ad 0)), (0, .ref b)] → W p l e room_1 s m args below meth c H locs (c0 + 6) (m0 + 36) Q (F0 m 2957 ls [])) (S : XS) (H : Heap) (locs : List Loc) (ls : Array Slot) (hf : f_Lc32 L sx K m4 S = some ()) (h : XH D cy s00 shLaw ad S A s H locs) (hl : lv_has ls 9 [(4, .int m4), (3, .ref (ad 154)), (2, .ref (ad 155)), (1, .ref (ad 0)), (0, .ref b)]) : W p l e room_1 s m args below meth c H locs c0 m0 Q (F0 m 1755 ls []) := by
  unfold f_Lc32 at hf
  refine lv_aload_n E.1 E.2.1 dL_law_1755 rfl (lv_at hl 3 rfl) ?_
  refine lv_aload_n E.1 E.2.1 dL_law_1756 rfl (lv_at hl 4 rfl) ?_
  refine lv_iload E.1 E.2.1 dL_law_1757 (lv_at hl 0 rfl) ?_
  refine lv_iconst (v := 1) E.1 E.2.1 dL_law_1759 (by decide) ?_
  refine lv_iadd E.1 E.2.1 dL_law_1760 ?_
  refine x_sld hX hb E h hf dL_law_1761 (fun v1 hf => ?_)
  refine lv_aload_n E.1 E.2.1 dL_law_1762 rfl (lv_at hl 1 rfl) ?_
  refine x_callW E h hl hf xsub_lawW (fun r0 Sq0 hr => c_L_girth l D cy s00 _ hT hG hNc (xs 0 S) v1 r0 Sq0 hr) mw_L_girth ⟨by decide +kernel, by decide +kernel, (by decide +kernel : (parseMethodDescriptor yL_girth.desc).map (fun d => d.parameters.length) = some 3)⟩ kw1175 rfl rfl (Nat.le_of_ble_eq_true rfl) ⟨Nat.le_of_ble_eq_true rfl, Nat.le_of_ble_eq_true rfl⟩ ⟨by omega, by omega⟩ dL_law_1763 (fun v2 S3 H locs hf h => ?_)
  refine lv_istore (lv' := [(5, .int v2), (4, .int m4), (3, .ref (ad 154)), (2, .ref (ad 155)), (1, .ref (ad 0)), (0, .ref b)]) E.1 E.2.1 dL_law_1766 hl (by decide) rfl (fun ls hl => ?_)
  refine lv_aload_n E.1 E.2.1 dL_law_1768 rfl (lv_at hl 3 rfl) ?_
  refine lv_aload_n E.1 E.2.1 dL_law_1769 rfl (lv_at hl 5 rfl) ?_
  refine lv_iload E.1 E.2.1 dL_law_1770 (lv_at hl 1 rfl) ?_
  refine lv_iconst (v := 1) E.1 E.2.1 dL_law_1772 (by decide) ?_
  refine lv_iadd E.1 E.2.1 dL_law_1773 ?_
  refine x_sld hX hb E h hf dL_law_1774 (fun v4 hf => ?_)
  refine x_calloi E h hl 155 155 hf xsub_lawM (fun r0 Sq0 hr => c_X9_girth l D cy s00 _ (xs 155 S3) v4 r0 Sq0 hr) m_X9_girth rfl rfl kw1864 rfl rfl (Nat.le_of_ble_eq_true rfl) ⟨Nat.le_of_ble_eq_true rfl, Nat.le_of_ble_eq_true rfl⟩ ⟨by omega, by omega⟩ dL_law_1775 (fun v5 S6 H locs hf h => ?_)
  refine lv_istore (lv' := [(6, .int v5), (5, .int v2), (4, .int m4), (3, .ref (ad 154)), (2, .ref (ad 155)), (1, .ref (ad 0)), (0, .ref b)]) E.1 E.2.1 dL_law_1778 hl (by decide) rfl (fun ls hl => ?_)
  refine lv_aload_n E.1 E.2.1 dL_law_1780 rfl (lv_at hl 4 rfl) ?_
  refine x_callop E h hl 155 155 hf xsub_lawM (fun r0 hr => c_X9_thrown l D cy s00 _ (xs 155 S6)  r0 hr) m_X9_thrown rfl rfl kw1681 rfl rfl (Nat.le_of_ble_eq_true rfl) ⟨Nat.le_of_ble_eq_true rfl, Nat.le_of_ble_eq_true rfl⟩ ⟨by omega, by omega⟩ dL_law_1781 (fun v7 H locs hf h => ?_)
  refine lv_iload E.1 E.2.1 dL_law_1784 (lv_at hl 1 rfl) ?_
  refine x_br hf (lv_icmp_eq (tgt := 1791) E.1 E.2.1 dL_law_1786 (by decide)) (fun hf => ?_) (fun hf => ?_)
  · refine lv_iload E.1 E.2.1 dL_law_1791 (lv_at hl 1 rfl) ?_
    refine x_brn hf (lv_if_ne (tgt := 1808) E.1 E.2.1 dL_law_1793 (by decide)) (fun hf => ?_) (fun hf => ?_)
    · refine lv_goto (tgt := 2957) E.1 E.2.1 dL_law_1808 (by decide) ?_
      exact x_wid ⟨by omega, by omega⟩ (hk _ H locs ls hf h (lv_sub hl [2, 3, 4, 5, 6] rfl))
    · refine lv_aload_n E.1 E.2.1 dL_law_1796 rfl (lv_at hl 3 rfl) ?_
      refine lv_iconst (v := 0) E.1 E.2.1 dL_law_1797 (by decide) ?_
      refine x_lald1 E h 154 rfl dL_law_1798 ?_
      refine lv_iload E.1 E.2.1 dL_law_1799 (lv_at hl 0 rfl) ?_
      refine lv_i2l E.1 E.2.1 dL_law_1801 rfl ?_
      refine W.lcmp E.1 E.2.1 dL_law_1802 ?_
      refine x_bre (lg_cmp0 _ _) hf (lv_if_eq (tgt := 1808) E.1 E.2.1 dL_law_1803 (by decide)) (fun hf => ?_) (fun hf => ?_)
      · refine lv_goto (tgt := 2957) E.1 E.2.1 dL_law_1808 (by decide) ?_
        exact x_wid ⟨by omega, by omega⟩ (hk _ H locs ls hf h (lv_sub hl [2, 3, 4, 5, 6] rfl))
      · cases hf
  · cases hf
set_option maxHeartbeats 4000000 in
set_option maxRecDepth 100000 in
theorem w_Lc33 {p : Program} {l : Launch} {e : Env} {s : State} {m : MethodId} {args : Array Value} {below : List Frame} {meth : Method} {c : Code} {D : va_G} {cy : Nat → ClassId} {s00 : State} {ad : Nat → Nat} {A : Nat → Prop} {Q : State → Prop} {b L : Nat} {sx : Nat → Int32} {rt : Option FieldType} (hX : va_X b L sx s s.heap) (hb : b < s.heap.size ∧ ¬ A b) (hT : l.stackTraces = false ∧ XDW s00) (hG : XG s00) {tE : xEnT} (hEn : XEn s00 tE) (hNc : XNc s00) {c0 m0 : Nat} (hc0 : c0 + 6 ≤ room_1.cells) (hm0 : m0 + 36 ≤ room_1.slots) {K : XS → Option Unit} {m4 : Int32} (E : XE p s m args meth c cL_law 9 RL rt D cy s00) (hk : ∀ (S1 : XS) (H : Heap) (locs : List Loc) (ls : Array Slot), K S1 = some () → XH D cy s00 shLaw ad S1 A s H locs → lv_has ls 9 [(4, .int m4), (3, .ref (ad 154)), (2, .ref (ad 155)), (1, .ref (ad 0)), (0, .ref b)] → W p l e room_1 s m args below meth c H locs (c0 + 6) (m0 + 36) Q (F0 m 2957 ls [])) (S : XS) (H : Heap) (locs : List Loc) (ls : Array Slot) (hf : f_Lc33 L sx K m4 S = some ()) (h : XH D cy s00 shLaw ad S A s H locs) (hl : lv_has ls 9 [(4, .int m4), (3, .ref (ad 154)), (2, .ref (ad 155)), (1, .ref (ad 0)), (0, .ref b)]) : W p l e room_1 s m args below meth c H locs c0 m0 Q (F0 m 1811 ls []) := by
  unfold f_Lc33 at hf
  refine lv_aload_n E.1 E.2.1 dL_law_1811 rfl (lv_at hl 3 rfl) ?_
  refine lv_aload_n E.1 E.2.1 dL_law_1812 rfl (lv_at hl 4 rfl) ?_
  refine lv_iload E.1 E.2.1 dL_law_1813 (lv_at hl 0 rfl) ?_
  refine lv_iconst (v := 1) E.1 E.2.1 dL_law_1815 (by decide) ?_
  refine lv_iadd E.1 E.2.1 dL_law_1816 ?_
  refine x_sld hX hb E h hf dL_law_1817 (fun v1 hf => ?_)
  refine lv_aload_n E.1 E.2.1 dL_law_1818 rfl (lv_at hl 1 rfl) ?_
  refine x_callW E h hl hf xsub_lawW (fun r0 Sq0 hr => c_L_power l D cy s00 _ hT hG hNc (xs 0 S) v1 r0 Sq0 hr) mw_L_power ⟨by decide +kernel, by decide +kernel, (by decide +kernel : (parseMethodDescriptor yL_power.desc).map (fun d => d.parameters.length) = some 3)⟩ kw1182 rfl rfl (Nat.le_of_ble_eq_true rfl) ⟨Nat.le_of_ble_eq_true rfl, Nat.le_of_ble_eq_true rfl⟩ ⟨by omega, by omega⟩ dL_law_1819 (fun v2 S3 H locs hf h => ?_)
  refine lv_istore (lv' := [(5, .int v2), (4, .int m4), (3, .ref (ad 154)), (2, .ref (ad 155)), (1, .ref (ad 0)), (0, .ref b)]) E.1 E.2.1 dL_law_1822 hl (by decide) rfl (fun ls hl => ?_)
  refine lv_aload_n E.1 E.2.1 dL_law_1824 rfl (lv_at hl 3 rfl) ?_
  refine lv_aload_n E.1 E.2.1 dL_law_1825 rfl (lv_at hl 5 rfl) ?_
  refine lv_iload E.1 E.2.1 dL_law_1826 (lv_at hl 1 rfl) ?_
  refine lv_iconst (v := 1) E.1 E.2.1 dL_law_1828 (by decide) ?_
  refine lv_iadd E.1 E.2.1 dL_law_1829 ?_
  refine x_sld hX hb E h hf dL_law_1830 (fun v4 hf => ?_)
  refine x_calloi E h hl 155 155 hf xsub_lawM (fun r0 Sq0 hr => c_X9_power l D cy s00 _ (xs 155 S3) v4 r0 Sq0 hr) m_X9_power rfl rfl kw1872 rfl rfl (Nat.le_of_ble_eq_true rfl) ⟨Nat.le_of_ble_eq_true rfl, Nat.le_of_ble_eq_true rfl⟩ ⟨by omega, by omega⟩ dL_law_1831 (fun v5 S6 H locs hf h => ?_)
  refine lv_istore (lv' := [(6, .int v5), (5, .int v2), (4, .int m4), (3, .ref (ad 154)), (2, .ref (ad 155)), (1, .ref (ad 0)), (0, .ref b)]) E.1 E.2.1 dL_law_1834 hl (by decide) rfl (fun ls hl => ?_)
  refine lv_aload_n E.1 E.2.1 dL_law_1836 rfl (lv_at hl 4 rfl) ?_
  refine x_callop E h hl 155 155 hf xsub_lawM (fun r0 hr => c_X9_thrown l D cy s00 _ (xs 155 S6)  r0 hr) m_X9_thrown rfl rfl kw1681 rfl rfl (Nat.le_of_ble_eq_true rfl) ⟨Nat.le_of_ble_eq_true rfl, Nat.le_of_ble_eq_true rfl⟩ ⟨by omega, by omega⟩ dL_law_1837 (fun v7 H locs hf h => ?_)
  refine lv_iload E.1 E.2.1 dL_law_1840 (lv_at hl 1 rfl) ?_
  refine x_br hf (lv_icmp_eq (tgt := 1847) E.1 E.2.1 dL_law_1842 (by decide)) (fun hf => ?_) (fun hf => ?_)
  · refine lv_iload E.1 E.2.1 dL_law_1847 (lv_at hl 1 rfl) ?_
    refine x_brn hf (lv_if_ne (tgt := 1864) E.1 E.2.1 dL_law_1849 (by decide)) (fun hf => ?_) (fun hf => ?_)
    · refine lv_goto (tgt := 2957) E.1 E.2.1 dL_law_1864 (by decide) ?_
      exact x_wid ⟨by omega, by omega⟩ (hk _ H locs ls hf h (lv_sub hl [2, 3, 4, 5, 6] rfl))
    · refine lv_aload_n E.1 E.2.1 dL_law_1852 rfl (lv_at hl 3 rfl) ?_
      refine lv_iconst (v := 0) E.1 E.2.1 dL_law_1853 (by decide) ?_
      refine x_lald1 E h 154 rfl dL_law_1854 ?_
      refine lv_iload E.1 E.2.1 dL_law_1855 (lv_at hl 0 rfl) ?_
      refine lv_i2l E.1 E.2.1 dL_law_1857 rfl ?_
      refine W.lcmp E.1 E.2.1 dL_law_1858 ?_
      refine x_bre (lg_cmp0 _ _) hf (lv_if_eq (tgt := 1864) E.1 E.2.1 dL_law_1859 (by decide)) (fun hf => ?_) (fun hf => ?_)
      · refine lv_goto (tgt := 2957) E.1 E.2.1 dL_law_1864 (by decide) ?_
        exact x_wid ⟨by omega, by omega⟩ (hk _ H locs ls hf h (lv_sub hl [2, 3, 4, 5, 6] rfl))
      · cases hf
  · cases hf
set_option maxHeartbeats 4000000 in
set_option maxRecDepth 100000 in
theorem w_Lc34 {p : Program} {l : Launch} {e : Env} {s : State} {m : MethodId} {args : Array Value} {below : List Frame} {meth : Method} {c : Code} {D : va_G} {cy : Nat → ClassId} {s00 : State} {ad : Nat → Nat} {A : Nat → Prop} {Q : State → Prop} {b L : Nat} {sx : Nat → Int32} {rt : Option FieldType} (hX : va_X b L sx s s.heap) (hb : b < s.heap.size ∧ ¬ A b) (hT : l.stackTraces = false ∧ XDW s00) (hG : XG s00) {tE : xEnT} (hEn : XEn s00 tE) (hNc : XNc s00) {c0 m0 : Nat} (hc0 : c0 + 6 ≤ room_1.cells) (hm0 : m0 + 36 ≤ room_1.slots) {K : XS → Option Unit} {m4 : Int32} (E : XE p s m args meth c cL_law 9 RL rt D cy s00) (hk : ∀ (S1 : XS) (H : Heap) (locs : List Loc) (ls : Array Slot), K S1 = some () → XH D cy s00 shLaw ad S1 A s H locs → lv_has ls 9 [(4, .int m4), (3, .ref (ad 154)), (2, .ref (ad 155)), (1, .ref (ad 0)), (0, .ref b)] → W p l e room_1 s m args below meth c H locs (c0 + 6) (m0 + 36) Q (F0 m 2957 ls [])) (S : XS) (H : Heap) (locs : List Loc) (ls : Array Slot) (hf : f_Lc34 L sx K m4 S = some ()) (h : XH D cy s00 shLaw ad S A s H locs) (hl : lv_has ls 9 [(4, .int m4), (3, .ref (ad 154)), (2, .ref (ad 155)), (1, .ref (ad 0)), (0, .ref b)]) : W p l e room_1 s m args below meth c H locs c0 m0 Q (F0 m 1867 ls []) := by
  unfold f_Lc34 at hf
  refine lv_aload_n E.1 E.2.1 dL_law_1867 rfl (lv_at hl 3 rfl) ?_
  refine lv_aload_n E.1 E.2.1 dL_law_1868 rfl (lv_at hl 4 rfl) ?_
  refine lv_iload E.1 E.2.1 dL_law_1869 (lv_at hl 0 rfl) ?_
  refine lv_iconst (v := 1) E.1 E.2.1 dL_law_1871 (by decide) ?_
  refine lv_iadd E.1 E.2.1 dL_law_1872 ?_
  refine x_sld hX hb E h hf dL_law_1873 (fun v1 hf => ?_)
  refine lv_aload_n E.1 E.2.1 dL_law_1874 rfl (lv_at hl 1 rfl) ?_
  refine x_callW E h hl hf xsub_lawW (fun r0 Sq0 hr => c_L_fish l D cy s00 _ hT hG hNc (xs 0 S) v1 r0 Sq0 hr) mw_L_fish ⟨by decide +kernel, by decide +kernel, (by decide +kernel : (parseMethodDescriptor yL_fish.desc).map (fun d => d.parameters.length) = some 3)⟩ kw1190 rfl rfl (Nat.le_of_ble_eq_true rfl) ⟨Nat.le_of_ble_eq_true rfl, Nat.le_of_ble_eq_true rfl⟩ ⟨by omega, by omega⟩ dL_law_1875 (fun v2 S3 H locs hf h => ?_)
  refine lv_istore (lv' := [(5, .int v2), (4, .int m4), (3, .ref (ad 154)), (2, .ref (ad 155)), (1, .ref (ad 0)), (0, .ref b)]) E.1 E.2.1 dL_law_1878 hl (by decide) rfl (fun ls hl => ?_)
  refine lv_aload_n E.1 E.2.1 dL_law_1880 rfl (lv_at hl 3 rfl) ?_
  refine lv_aload_n E.1 E.2.1 dL_law_1881 rfl (lv_at hl 5 rfl) ?_
  refine lv_iload E.1 E.2.1 dL_law_1882 (lv_at hl 1 rfl) ?_
  refine lv_iconst (v := 1) E.1 E.2.1 dL_law_1884 (by decide) ?_
  refine lv_iadd E.1 E.2.1 dL_law_1885 ?_
  refine x_sld hX hb E h hf dL_law_1886 (fun v4 hf => ?_)
  refine x_calloi E h hl 155 155 hf xsub_lawM (fun r0 Sq0 hr => c_X9_fish l D cy s00 _ (xs 155 S3) v4 r0 Sq0 hr) m_X9_fish rfl rfl kw1876 rfl rfl (Nat.le_of_ble_eq_true rfl) ⟨Nat.le_of_ble_eq_true rfl, Nat.le_of_ble_eq_true rfl⟩ ⟨by omega, by omega⟩ dL_law_1887 (fun v5 S6 H locs hf h => ?_)
  refine lv_istore (lv' := [(6, .int v5), (5, .int v2), (4, .int m4), (3, .ref (ad 154)), (2, .ref (ad 155)), (1, .ref (ad 0)), (0, .ref b)]) E.1 E.2.1 dL_law_1890 hl (by decide) rfl (fun ls hl => ?_)
  refine lv_aload_n E.1 E.2.1 dL_law_1892 rfl (lv_at hl 4 rfl) ?_
  refine x_callop E h hl 155 155 hf xsub_lawM (fun r0 hr => c_X9_thrown l D cy s00 _ (xs 155 S6)  r0 hr) m_X9_thrown rfl rfl kw1681 rfl rfl (Nat.le_of_ble_eq_true rfl) ⟨Nat.le_of_ble_eq_true rfl, Nat.le_of_ble_eq_true rfl⟩ ⟨by omega, by omega⟩ dL_law_1893 (fun v7 H locs hf h => ?_)
  refine lv_iload E.1 E.2.1 dL_law_1896 (lv_at hl 1 rfl) ?_
  refine x_br hf (lv_icmp_eq (tgt := 1903) E.1 E.2.1 dL_law_1898 (by decide)) (fun hf => ?_) (fun hf => ?_)
  · refine lv_iload E.1 E.2.1 dL_law_1903 (lv_at hl 1 rfl) ?_
    refine x_brn hf (lv_if_ne (tgt := 1920) E.1 E.2.1 dL_law_1905 (by decide)) (fun hf => ?_) (fun hf => ?_)
    · refine lv_goto (tgt := 2957) E.1 E.2.1 dL_law_1920 (by decide) ?_
      exact x_wid ⟨by omega, by omega⟩ (hk _ H locs ls hf h (lv_sub hl [2, 3, 4, 5, 6] rfl))
    · refine lv_aload_n E.1 E.2.1 dL_law_1908 rfl (lv_at hl 3 rfl) ?_
      refine lv_iconst (v := 0) E.1 E.2.1 dL_law_1909 (by decide) ?_
      refine x_lald1 E h 154 rfl dL_law_1910 ?_
      refine lv_iload E.1 E.2.1 dL_law_1911 (lv_at hl 0 rfl) ?_
      refine lv_i2l E.1 E.2.1 dL_law_1913 rfl ?_
      refine W.lcmp E.1 E.2.1 dL_law_1914 ?_
      refine x_bre (lg_cmp0 _ _) hf (lv_if_eq (tgt := 1920) E.1 E.2.1 dL_law_1915 (by decide)) (fun hf => ?_) (fun hf => ?_)
      · refine lv_goto (tgt := 2957) E.1 E.2.1 dL_law_1920 (by decide) ?_
        exact x_wid ⟨by omega, by omega⟩ (hk _ H locs ls hf h (lv_sub hl [2, 3, 4, 5, 6] rfl))
      · cases hf
  · cases hf
set_option maxHeartbeats 4000000 in
set_option maxRecDepth 100000 in
theorem w_Lc35 {p : Program} {l : Launch} {e : Env} {s : State} {m : MethodId} {args : Array Value} {below : List Frame} {meth : Method} {c : Code} {D : va_G} {cy : Nat → ClassId} {s00 : State} {ad : Nat → Nat} {A : Nat → Prop} {Q : State → Prop} {b L : Nat} {sx : Nat → Int32} {rt : Option FieldType} (hX : va_X b L sx s s.heap) (hb : b < s.heap.size ∧ ¬ A b) (hT : l.stackTraces = false ∧ XDW s00) (hG : XG s00) {tE : xEnT} (hEn : XEn s00 tE) (hNc : XNc s00) {c0 m0 : Nat} (hc0 : c0 + 6 ≤ room_1.cells) (hm0 : m0 + 36 ≤ room_1.slots) {K : XS → Option Unit} {m4 : Int32} (E : XE p s m args meth c cL_law 9 RL rt D cy s00) (hk : ∀ (S1 : XS) (H : Heap) (locs : List Loc) (ls : Array Slot), K S1 = some () → XH D cy s00 shLaw ad S1 A s H locs → lv_has ls 9 [(4, .int m4), (3, .ref (ad 154)), (2, .ref (ad 155)), (1, .ref (ad 0)), (0, .ref b)] → W p l e room_1 s m args below meth c H locs (c0 + 6) (m0 + 36) Q (F0 m 2957 ls [])) (S : XS) (H : Heap) (locs : List Loc) (ls : Array Slot) (hf : f_Lc35 L sx K m4 S = some ()) (h : XH D cy s00 shLaw ad S A s H locs) (hl : lv_has ls 9 [(4, .int m4), (3, .ref (ad 154)), (2, .ref (ad 155)), (1, .ref (ad 0)), (0, .ref b)]) : W p l e room_1 s m args below meth c H locs c0 m0 Q (F0 m 1923 ls []) := by
  unfold f_Lc35 at hf
  refine lv_aload_n E.1 E.2.1 dL_law_1923 rfl (lv_at hl 3 rfl) ?_
  refine lv_aload_n E.1 E.2.1 dL_law_1924 rfl (lv_at hl 4 rfl) ?_
  refine lv_iload E.1 E.2.1 dL_law_1925 (lv_at hl 0 rfl) ?_
  refine lv_iconst (v := 1) E.1 E.2.1 dL_law_1927 (by decide) ?_
  refine lv_iadd E.1 E.2.1 dL_law_1928 ?_
  refine x_sld hX hb E h hf dL_law_1929 (fun v1 hf => ?_)
  refine lv_aload_n E.1 E.2.1 dL_law_1930 rfl (lv_at hl 1 rfl) ?_
  refine x_callW E h hl hf xsub_lawW (fun r0 Sq0 hr => c_L_chimneyOf l D cy s00 _ hT hG hNc (xs 0 S) v1 r0 Sq0 hr) mw_L_chimneyOf ⟨by decide +kernel, by decide +kernel, (by decide +kernel : (parseMethodDescriptor yL_chimneyOf.desc).map (fun d => d.parameters.length) = some 3)⟩ kw1197 rfl rfl (Nat.le_of_ble_eq_true rfl) ⟨Nat.le_of_ble_eq_true rfl, Nat.le_of_ble_eq_true rfl⟩ ⟨by omega, by omega⟩ dL_law_1931 (fun v2 S3 H locs hf h => ?_)
  refine lv_istore (lv' := [(5, .int v2), (4, .int m4), (3, .ref (ad 154)), (2, .ref (ad 155)), (1, .ref (ad 0)), (0, .ref b)]) E.1 E.2.1 dL_law_1934 hl (by decide) rfl (fun ls hl => ?_)
  refine lv_aload_n E.1 E.2.1 dL_law_1936 rfl (lv_at hl 3 rfl) ?_
  refine lv_aload_n E.1 E.2.1 dL_law_1937 rfl (lv_at hl 5 rfl) ?_
  refine lv_iload E.1 E.2.1 dL_law_1938 (lv_at hl 1 rfl) ?_
  refine lv_iconst (v := 1) E.1 E.2.1 dL_law_1940 (by decide) ?_
  refine lv_iadd E.1 E.2.1 dL_law_1941 ?_
  refine x_sld hX hb E h hf dL_law_1942 (fun v4 hf => ?_)
  refine x_calloi E h hl 155 155 hf xsub_lawM (fun r0 Sq0 hr => c_X9_chimneyOf l D cy s00 _ (xs 155 S3) v4 r0 Sq0 hr) m_X9_chimneyOf rfl rfl kw1880 rfl rfl (Nat.le_of_ble_eq_true rfl) ⟨Nat.le_of_ble_eq_true rfl, Nat.le_of_ble_eq_true rfl⟩ ⟨by omega, by omega⟩ dL_law_1943 (fun v5 S6 H locs hf h => ?_)
  refine lv_istore (lv' := [(6, .int v5), (5, .int v2), (4, .int m4), (3, .ref (ad 154)), (2, .ref (ad 155)), (1, .ref (ad 0)), (0, .ref b)]) E.1 E.2.1 dL_law_1946 hl (by decide) rfl (fun ls hl => ?_)
  refine lv_aload_n E.1 E.2.1 dL_law_1948 rfl (lv_at hl 4 rfl) ?_
  refine x_callop E h hl 155 155 hf xsub_lawM (fun r0 hr => c_X9_thrown l D cy s00 _ (xs 155 S6)  r0 hr) m_X9_thrown rfl rfl kw1681 rfl rfl (Nat.le_of_ble_eq_true rfl) ⟨Nat.le_of_ble_eq_true rfl, Nat.le_of_ble_eq_true rfl⟩ ⟨by omega, by omega⟩ dL_law_1949 (fun v7 H locs hf h => ?_)
  refine lv_iload E.1 E.2.1 dL_law_1952 (lv_at hl 1 rfl) ?_
  refine x_br hf (lv_icmp_eq (tgt := 1959) E.1 E.2.1 dL_law_1954 (by decide)) (fun hf => ?_) (fun hf => ?_)
  · refine lv_iload E.1 E.2.1 dL_law_1959 (lv_at hl 1 rfl) ?_
    refine x_brn hf (lv_if_ne (tgt := 1976) E.1 E.2.1 dL_law_1961 (by decide)) (fun hf => ?_) (fun hf => ?_)
    · refine lv_goto (tgt := 2957) E.1 E.2.1 dL_law_1976 (by decide) ?_
      exact x_wid ⟨by omega, by omega⟩ (hk _ H locs ls hf h (lv_sub hl [2, 3, 4, 5, 6] rfl))
    · refine lv_aload_n E.1 E.2.1 dL_law_1964 rfl (lv_at hl 3 rfl) ?_
      refine lv_iconst (v := 0) E.1 E.2.1 dL_law_1965 (by decide) ?_
      refine x_lald1 E h 154 rfl dL_law_1966 ?_
      refine lv_iload E.1 E.2.1 dL_law_1967 (lv_at hl 0 rfl) ?_
      refine lv_i2l E.1 E.2.1 dL_law_1969 rfl ?_
      refine W.lcmp E.1 E.2.1 dL_law_1970 ?_
      refine x_bre (lg_cmp0 _ _) hf (lv_if_eq (tgt := 1976) E.1 E.2.1 dL_law_1971 (by decide)) (fun hf => ?_) (fun hf => ?_)
      · refine lv_goto (tgt := 2957) E.1 E.2.1 dL_law_1976 (by decide) ?_
        exact x_wid ⟨by omega, by omega⟩ (hk _ H locs ls hf h (lv_sub hl [2, 3, 4, 5, 6] rfl))
      · cases hf
  · cases hf
set_option maxHeartbeats 4000000 in
set_option maxRecDepth 100000 in
theorem w_Lc36 {p : Program} {l : Launch} {e : Env} {s : State} {m : MethodId} {args : Array Value} {below : List Frame} {meth : Method} {c : Code} {D : va_G} {cy : Nat → ClassId} {s00 : State} {ad : Nat → Nat} {A : Nat → Prop} {Q : State → Prop} {b L : Nat} {sx : Nat → Int32} {rt : Option FieldType} (hX : va_X b L sx s s.heap) (hb : b < s.heap.size ∧ ¬ A b) (hT : l.stackTraces = false ∧ XDW s00) (hG : XG s00) {tE : xEnT} (hEn : XEn s00 tE) (hNc : XNc s00) {c0 m0 : Nat} (hc0 : c0 + 6 ≤ room_1.cells) (hm0 : m0 + 36 ≤ room_1.slots) {K : XS → Option Unit} {m4 : Int32} (E : XE p s m args meth c cL_law 9 RL rt D cy s00) (hk : ∀ (S1 : XS) (H : Heap) (locs : List Loc) (ls : Array Slot), K S1 = some () → XH D cy s00 shLaw ad S1 A s H locs → lv_has ls 9 [(4, .int m4), (3, .ref (ad 154)), (2, .ref (ad 155)), (1, .ref (ad 0)), (0, .ref b)] → W p l e room_1 s m args below meth c H locs (c0 + 6) (m0 + 36) Q (F0 m 2957 ls [])) (S : XS) (H : Heap) (locs : List Loc) (ls : Array Slot) (hf : f_Lc36 L sx K m4 S = some ()) (h : XH D cy s00 shLaw ad S A s H locs) (hl : lv_has ls 9 [(4, .int m4), (3, .ref (ad 154)), (2, .ref (ad 155)), (1, .ref (ad 0)), (0, .ref b)]) : W p l e room_1 s m args below meth c H locs c0 m0 Q (F0 m 1979 ls []) := by
  unfold f_Lc36 at hf
  refine lv_aload_n E.1 E.2.1 dL_law_1979 rfl (lv_at hl 3 rfl) ?_
  refine lv_aload_n E.1 E.2.1 dL_law_1980 rfl (lv_at hl 4 rfl) ?_
  refine lv_iload E.1 E.2.1 dL_law_1981 (lv_at hl 0 rfl) ?_
  refine lv_iconst (v := 1) E.1 E.2.1 dL_law_1983 (by decide) ?_
  refine lv_iadd E.1 E.2.1 dL_law_1984 ?_
  refine x_sld hX hb E h hf dL_law_1985 (fun v1 hf => ?_)
  refine lv_aload_n E.1 E.2.1 dL_law_1986 rfl (lv_at hl 1 rfl) ?_
  refine x_callW E h hl hf xsub_lawW (fun r0 Sq0 hr => c_L_ownedChimneys l D cy s00 _ hT hG hNc (xs 0 S) v1 r0 Sq0 hr) mw_L_ownedChimneys ⟨by decide +kernel, by decide +kernel, (by decide +kernel : (parseMethodDescriptor yL_ownedChimneys.desc).map (fun d => d.parameters.length) = some 3)⟩ kw1204 rfl rfl (Nat.le_of_ble_eq_true rfl) ⟨Nat.le_of_ble_eq_true rfl, Nat.le_of_ble_eq_true rfl⟩ ⟨by omega, by omega⟩ dL_law_1987 (fun v2 S3 H locs hf h => ?_)
  refine lv_istore (lv' := [(5, .int v2), (4, .int m4), (3, .ref (ad 154)), (2, .ref (ad 155)), (1, .ref (ad 0)), (0, .ref b)]) E.1 E.2.1 dL_law_1990 hl (by decide) rfl (fun ls hl => ?_)
  refine lv_aload_n E.1 E.2.1 dL_law_1992 rfl (lv_at hl 3 rfl) ?_
  refine lv_aload_n E.1 E.2.1 dL_law_1993 rfl (lv_at hl 5 rfl) ?_
  refine lv_iload E.1 E.2.1 dL_law_1994 (lv_at hl 1 rfl) ?_
  refine lv_iconst (v := 1) E.1 E.2.1 dL_law_1996 (by decide) ?_
  refine lv_iadd E.1 E.2.1 dL_law_1997 ?_
  refine x_sld hX hb E h hf dL_law_1998 (fun v4 hf => ?_)
  refine x_calloi E h hl 155 155 hf xsub_lawM (fun r0 Sq0 hr => c_X9_ownedChimneys l D cy s00 _ (xs 155 S3) v4 r0 Sq0 hr) m_X9_ownedChimneys rfl rfl kw1884 rfl rfl (Nat.le_of_ble_eq_true rfl) ⟨Nat.le_of_ble_eq_true rfl, Nat.le_of_ble_eq_true rfl⟩ ⟨by omega, by omega⟩ dL_law_1999 (fun v5 S6 H locs hf h => ?_)
  refine lv_istore (lv' := [(6, .int v5), (5, .int v2), (4, .int m4), (3, .ref (ad 154)), (2, .ref (ad 155)), (1, .ref (ad 0)), (0, .ref b)]) E.1 E.2.1 dL_law_2002 hl (by decide) rfl (fun ls hl => ?_)
  refine lv_aload_n E.1 E.2.1 dL_law_2004 rfl (lv_at hl 4 rfl) ?_
  refine x_callop E h hl 155 155 hf xsub_lawM (fun r0 hr => c_X9_thrown l D cy s00 _ (xs 155 S6)  r0 hr) m_X9_thrown rfl rfl kw1681 rfl rfl (Nat.le_of_ble_eq_true rfl) ⟨Nat.le_of_ble_eq_true rfl, Nat.le_of_ble_eq_true rfl⟩ ⟨by omega, by omega⟩ dL_law_2005 (fun v7 H locs hf h => ?_)
  refine lv_iload E.1 E.2.1 dL_law_2008 (lv_at hl 1 rfl) ?_
  refine x_br hf (lv_icmp_eq (tgt := 2015) E.1 E.2.1 dL_law_2010 (by decide)) (fun hf => ?_) (fun hf => ?_)
  · refine lv_iload E.1 E.2.1 dL_law_2015 (lv_at hl 1 rfl) ?_
    refine x_brn hf (lv_if_ne (tgt := 2032) E.1 E.2.1 dL_law_2017 (by decide)) (fun hf => ?_) (fun hf => ?_)
    · refine lv_goto (tgt := 2957) E.1 E.2.1 dL_law_2032 (by decide) ?_
      exact x_wid ⟨by omega, by omega⟩ (hk _ H locs ls hf h (lv_sub hl [2, 3, 4, 5, 6] rfl))
    · refine lv_aload_n E.1 E.2.1 dL_law_2020 rfl (lv_at hl 3 rfl) ?_
      refine lv_iconst (v := 0) E.1 E.2.1 dL_law_2021 (by decide) ?_
      refine x_lald1 E h 154 rfl dL_law_2022 ?_
      refine lv_iload E.1 E.2.1 dL_law_2023 (lv_at hl 0 rfl) ?_
      refine lv_i2l E.1 E.2.1 dL_law_2025 rfl ?_
      refine W.lcmp E.1 E.2.1 dL_law_2026 ?_
      refine x_bre (lg_cmp0 _ _) hf (lv_if_eq (tgt := 2032) E.1 E.2.1 dL_law_2027 (by decide)) (fun hf => ?_) (fun hf => ?_)
      · refine lv_goto (tgt := 2957) E.1 E.2.1 dL_law_2032 (by decide) ?_
        exact x_wid ⟨by omega, by omega⟩ (hk _ H locs ls hf h (lv_sub hl [2, 3, 4, 5, 6] rfl))
      · cases hf
  · cases hf
set_option maxHeartbeats 4000000 in
set_option maxRecDepth 100000 in
theorem w_Lc37 {p : Program} {l : Launch} {e : Env} {s : State} {m : MethodId} {args : Array Value} {below : List Frame} {meth : Method} {c : Code} {D : va_G} {cy : Nat → ClassId} {s00 : State} {ad : Nat → Nat} {A : Nat → Prop} {Q : State → Prop} {b L : Nat} {sx : Nat → Int32} {rt : Option FieldType} (hX : va_X b L sx s s.heap) (hb : b < s.heap.size ∧ ¬ A b) (hT : l.stackTraces = false ∧ XDW s00) (hG : XG s00) {tE : xEnT} (hEn : XEn s00 tE) (hNc : XNc s00) {c0 m0 : Nat} (hc0 : c0 + 6 ≤ room_1.cells) (hm0 : m0 + 36 ≤ room_1.slots) {K : XS → Option Unit} {m4 : Int32} (E : XE p s m args meth c cL_law 9 RL rt D cy s00) (hk : ∀ (S1 : XS) (H : Heap) (locs : List Loc) (ls : Array Slot), K S1 = some () → XH D cy s00 shLaw ad S1 A s H locs → lv_has ls 9 [(4, .int m4), (3, .ref (ad 154)), (2, .ref (ad 155)), (1, .ref (ad 0)), (0, .ref b)] → W p l e room_1 s m args below meth c H locs (c0 + 6) (m0 + 36) Q (F0 m 2957 ls [])) (S : XS) (H : Heap) (locs : List Loc) (ls : Array Slot) (hf : f_Lc37 L sx K m4 S = some ()) (h : XH D cy s00 shLaw ad S A s H locs) (hl : lv_has ls 9 [(4, .int m4), (3, .ref (ad 154)), (2, .ref (ad 155)), (1, .ref (ad 0)), (0, .ref b)]) : W p l e room_1 s m args below meth c H locs c0 m0 Q (F0 m 2035 ls []) := by
  unfold f_Lc37 at hf
  refine lv_aload_n E.1 E.2.1 dL_law_2035 rfl (lv_at hl 3 rfl) ?_
  refine lv_aload_n E.1 E.2.1 dL_law_2036 rfl (lv_at hl 4 rfl) ?_
  refine lv_iload E.1 E.2.1 dL_law_2037 (lv_at hl 0 rfl) ?_
  refine lv_iconst (v := 1) E.1 E.2.1 dL_law_2039 (by decide) ?_
  refine lv_iadd E.1 E.2.1 dL_law_2040 ?_
  refine x_sld hX hb E h hf dL_law_2041 (fun v1 hf => ?_)
  refine lv_aload_n E.1 E.2.1 dL_law_2042 rfl (lv_at hl 4 rfl) ?_
  refine lv_iload E.1 E.2.1 dL_law_2043 (lv_at hl 0 rfl) ?_
  refine lv_iconst (v := 2) E.1 E.2.1 dL_law_2045 (by decide) ?_
  refine lv_iadd E.1 E.2.1 dL_law_2046 ?_
  refine x_sld hX hb E h hf dL_law_2047 (fun v2 hf => ?_)
  refine lv_aload_n E.1 E.2.1 dL_law_2048 rfl (lv_at hl 1 rfl) ?_
  refine x_callW E h hl hf xsub_lawW (fun r0 Sq0 hr => c_L_truceNights l D cy s00 _ hT hG hNc (xs 0 S) v1 v2 r0 Sq0 hr) mw_L_truceNights ⟨by decide +kernel, by decide +kernel, (by decide +kernel : (parseMethodDescriptor yL_truceNights.desc).map (fun d => d.parameters.length) = some 4)⟩ kw1212 rfl rfl (Nat.le_of_ble_eq_true rfl) ⟨Nat.le_of_ble_eq_true rfl, Nat.le_of_ble_eq_true rfl⟩ ⟨by omega, by omega⟩ dL_law_2049 (fun v3 S4 H locs hf h => ?_)
  refine lv_istore (lv' := [(5, .int v3), (4, .int m4), (3, .ref (ad 154)), (2, .ref (ad 155)), (1, .ref (ad 0)), (0, .ref b)]) E.1 E.2.1 dL_law_2052 hl (by decide) rfl (fun ls hl => ?_)
  refine lv_aload_n E.1 E.2.1 dL_law_2054 rfl (lv_at hl 3 rfl) ?_
  refine lv_aload_n E.1 E.2.1 dL_law_2055 rfl (lv_at hl 5 rfl) ?_
  refine lv_iload E.1 E.2.1 dL_law_2056 (lv_at hl 1 rfl) ?_
  refine lv_iconst (v := 1) E.1 E.2.1 dL_law_2058 (by decide) ?_
  refine lv_iadd E.1 E.2.1 dL_law_2059 ?_
  refine x_sld hX hb E h hf dL_law_2060 (fun v5 hf => ?_)
  refine lv_aload_n E.1 E.2.1 dL_law_2061 rfl (lv_at hl 5 rfl) ?_
  refine lv_iload E.1 E.2.1 dL_law_2062 (lv_at hl 1 rfl) ?_
  refine lv_iconst (v := 2) E.1 E.2.1 dL_law_2064 (by decide) ?_
  refine lv_iadd E.1 E.2.1 dL_law_2065 ?_
  refine x_sld hX hb E h hf dL_law_2066 (fun v6 hf => ?_)
  refine x_calloi E h hl 155 155 hf xsub_lawM (fun r0 Sq0 hr => c_X9_truceNights l D cy s00 _ (xs 155 S4) v5 v6 r0 Sq0 hr) m_X9_truceNights rfl rfl kw1888 rfl rfl (Nat.le_of_ble_eq_true rfl) ⟨Nat.le_of_ble_eq_true rfl, Nat.le_of_ble_eq_true rfl⟩ ⟨by omega, by omega⟩ dL_law_2067 (fun v7 S8 H locs hf h => ?_)
  refine lv_istore (lv' := [(6, .int v7), (5, .int v3), (4, .int m4), (3, .ref (ad 154)), (2, .ref (ad 155)), (1, .ref (ad 0)), (0, .ref b)]) E.1 E.2.1 dL_law_2070 hl (by decide) rfl (fun ls hl => ?_)
  refine lv_aload_n E.1 E.2.1 dL_law_2072 rfl (lv_at hl 4 rfl) ?_
  refine x_callop E h hl 155 155 hf xsub_lawM (fun r0 hr => c_X9_thrown l D cy s00 _ (xs 155 S8)  r0 hr) m_X9_thrown rfl rfl kw1681 rfl rfl (Nat.le_of_ble_eq_true rfl) ⟨Nat.le_of_ble_eq_true rfl, Nat.le_of_ble_eq_true rfl⟩ ⟨by omega, by omega⟩ dL_law_2073 (fun v9 H locs hf h => ?_)
  refine lv_iload E.1 E.2.1 dL_law_2076 (lv_at hl 1 rfl) ?_
  refine x_br hf (lv_icmp_eq (tgt := 2083) E.1 E.2.1 dL_law_2078 (by decide)) (fun hf => ?_) (fun hf => ?_)
  · refine lv_iload E.1 E.2.1 dL_law_2083 (lv_at hl 1 rfl) ?_
    refine x_brn hf (lv_if_ne (tgt := 2100) E.1 E.2.1 dL_law_2085 (by decide)) (fun hf => ?_) (fun hf => ?_)
    · refine lv_goto (tgt := 2957) E.1 E.2.1 dL_law_2100 (by decide) ?_
      exact x_wid ⟨by omega, by omega⟩ (hk _ H locs ls hf h (lv_sub hl [2, 3, 4, 5, 6] rfl))
    · refine lv_aload_n E.1 E.2.1 dL_law_2088 rfl (lv_at hl 3 rfl) ?_
      refine lv_iconst (v := 0) E.1 E.2.1 dL_law_2089 (by decide) ?_
      refine x_lald1 E h 154 rfl dL_law_2090 ?_
      refine lv_iload E.1 E.2.1 dL_law_2091 (lv_at hl 0 rfl) ?_
      refine lv_i2l E.1 E.2.1 dL_law_2093 rfl ?_
      refine W.lcmp E.1 E.2.1 dL_law_2094 ?_
      refine x_bre (lg_cmp0 _ _) hf (lv_if_eq (tgt := 2100) E.1 E.2.1 dL_law_2095 (by decide)) (fun hf => ?_) (fun hf => ?_)
      · refine lv_goto (tgt := 2957) E.1 E.2.1 dL_law_2100 (by decide) ?_
        exact x_wid ⟨by omega, by omega⟩ (hk _ H locs ls hf h (lv_sub hl [2, 3, 4, 5, 6] rfl))
      · cases hf
  · cases hf
set_option maxHeartbeats 4000000 in
set_option maxRecDepth 100000 in
theorem w_Lc38 {p : Program} {l : Launch} {e : Env} {s : State} {m : MethodId} {args : Array Value} {below : List Frame} {meth : Method} {c : Code} {D : va_G} {cy : Nat → ClassId} {s00 : State} {ad : Nat → Nat} {A : Nat → Prop} {Q : State → Prop} {b L : Nat} {sx : Nat → Int32} {rt : Option FieldType} (hX : va_X b L sx s s.heap) (hb : b < s.heap.size ∧ ¬ A b) (hT : l.stackTraces = false ∧ XDW s00) (hG : XG s00) {tE : xEnT} (hEn : XEn s00 tE) (hNc : XNc s00) {c0 m0 : Nat} (hc0 : c0 + 6 ≤ room_1.cells) (hm0 : m0 + 36 ≤ room_1.slots) {K : XS → Option Unit} {m4 : Int32} (E : XE p s m args meth c cL_law 9 RL rt D cy s00) (hk : ∀ (S1 : XS) (H : Heap) (locs : List Loc) (ls : Array Slot), K S1 = some () → XH D cy s00 shLaw ad S1 A s H locs → lv_has ls 9 [(4, .int m4), (3, .ref (ad 154)), (2, .ref (ad 155)), (1, .ref (ad 0)), (0, .ref b)] → W p l e room_1 s m args below meth c H locs (c0 + 6) (m0 + 36) Q (F0 m 2957 ls [])) (S : XS) (H : Heap) (locs : List Loc) (ls : Array Slot) (hf : f_Lc38 L sx K m4 S = some ()) (h : XH D cy s00 shLaw ad S A s H locs) (hl : lv_has ls 9 [(4, .int m4), (3, .ref (ad 154)), (2, .ref (ad 155)), (1, .ref (ad 0)), (0, .ref b)]) : W p l e room_1 s m args below meth c H locs c0 m0 Q (F0 m 2103 ls []) := by
  unfold f_Lc38 at hf
  refine lv_aload_n E.1 E.2.1 dL_law_2103 rfl (lv_at hl 3 rfl) ?_
  refine lv_aload_n E.1 E.2.1 dL_law_2104 rfl (lv_at hl 4 rfl) ?_
  refine lv_iload E.1 E.2.1 dL_law_2105 (lv_at hl 0 rfl) ?_
  refine lv_iconst (v := 1) E.1 E.2.1 dL_law_2107 (by decide) ?_
  refine lv_iadd E.1 E.2.1 dL_law_2108 ?_
  refine x_sld hX hb E h hf dL_law_2109 (fun v1 hf => ?_)
  refine lv_aload_n E.1 E.2.1 dL_law_2110 rfl (lv_at hl 1 rfl) ?_
  refine x_callW E h hl hf xsub_lawW (fun r0 Sq0 hr => c_L_reachable l D cy s00 _ hT hG hNc (xs 0 S) v1 r0 Sq0 hr) mw_L_reachable ⟨by decide +kernel, by decide +kernel, (by decide +kernel : (parseMethodDescriptor yL_reachable.desc).map (fun d => d.parameters.length) = some 3)⟩ kw1220 rfl rfl (Nat.le_of_ble_eq_true rfl) ⟨Nat.le_of_ble_eq_true rfl, Nat.le_of_ble_eq_true rfl⟩ ⟨by omega, by omega⟩ dL_law_2111 (fun v2 S3 H locs hf h => ?_)
  refine lv_istore (lv' := [(5, .int v2), (4, .int m4), (3, .ref (ad 154)), (2, .ref (ad 155)), (1, .ref (ad 0)), (0, .ref b)]) E.1 E.2.1 dL_law_2114 hl (by decide) rfl (fun ls hl => ?_)
  refine lv_aload_n E.1 E.2.1 dL_law_2116 rfl (lv_at hl 3 rfl) ?_
  refine lv_aload_n E.1 E.2.1 dL_law_2117 rfl (lv_at hl 5 rfl) ?_
  refine lv_iload E.1 E.2.1 dL_law_2118 (lv_at hl 1 rfl) ?_
  refine lv_iconst (v := 1) E.1 E.2.1 dL_law_2120 (by decide) ?_
  refine lv_iadd E.1 E.2.1 dL_law_2121 ?_
  refine x_sld hX hb E h hf dL_law_2122 (fun v4 hf => ?_)
  refine x_calloi E h hl 155 155 hf xsub_lawM (fun r0 Sq0 hr => c_X9_reachable l D cy s00 _ (xs 155 S3) v4 r0 Sq0 hr) m_X9_reachable rfl rfl kw1892 rfl rfl (Nat.le_of_ble_eq_true rfl) ⟨Nat.le_of_ble_eq_true rfl, Nat.le_of_ble_eq_true rfl⟩ ⟨by omega, by omega⟩ dL_law_2123 (fun v5 S6 H locs hf h => ?_)
  refine lv_istore (lv' := [(6, .int v5), (5, .int v2), (4, .int m4), (3, .ref (ad 154)), (2, .ref (ad 155)), (1, .ref (ad 0)), (0, .ref b)]) E.1 E.2.1 dL_law_2126 hl (by decide) rfl (fun ls hl => ?_)
  refine lv_aload_n E.1 E.2.1 dL_law_2128 rfl (lv_at hl 4 rfl) ?_
  refine x_callop E h hl 155 155 hf xsub_lawM (fun r0 hr => c_X9_thrown l D cy s00 _ (xs 155 S6)  r0 hr) m_X9_thrown rfl rfl kw1681 rfl rfl (Nat.le_of_ble_eq_true rfl) ⟨Nat.le_of_ble_eq_true rfl, Nat.le_of_ble_eq_true rfl⟩ ⟨by omega, by omega⟩ dL_law_2129 (fun v7 H locs hf h => ?_)
  refine lv_iload E.1 E.2.1 dL_law_2132 (lv_at hl 1 rfl) ?_
  refine x_br hf (lv_icmp_eq (tgt := 2139) E.1 E.2.1 dL_law_2134 (by decide)) (fun hf => ?_) (fun hf => ?_)
  · refine lv_iload E.1 E.2.1 dL_law_2139 (lv_at hl 1 rfl) ?_
    refine x_brn hf (lv_if_ne (tgt := 2156) E.1 E.2.1 dL_law_2141 (by decide)) (fun hf => ?_) (fun hf => ?_)
    · refine lv_goto (tgt := 2957) E.1 E.2.1 dL_law_2156 (by decide) ?_
      exact x_wid ⟨by omega, by omega⟩ (hk _ H locs ls hf h (lv_sub hl [2, 3, 4, 5, 6] rfl))
    · refine lv_aload_n E.1 E.2.1 dL_law_2144 rfl (lv_at hl 3 rfl) ?_
      refine lv_iconst (v := 0) E.1 E.2.1 dL_law_2145 (by decide) ?_
      refine x_lald1 E h 154 rfl dL_law_2146 ?_
      refine lv_iload E.1 E.2.1 dL_law_2147 (lv_at hl 0 rfl) ?_
      refine lv_i2l E.1 E.2.1 dL_law_2149 rfl ?_
      refine W.lcmp E.1 E.2.1 dL_law_2150 ?_
      refine x_bre (lg_cmp0 _ _) hf (lv_if_eq (tgt := 2156) E.1 E.2.1 dL_law_2151 (by decide)) (fun hf => ?_) (fun hf => ?_)
      · refine lv_goto (tgt := 2957) E.1 E.2.1 dL_law_2156 (by decide) ?_
        exact x_wid ⟨by omega, by omega⟩ (hk _ H locs ls hf h (lv_sub hl [2, 3, 4, 5, 6] rfl))
      · cases hf
  · cases hf
set_option maxHeartbeats 4000000 in
set_option maxRecDepth 100000 in
theorem w_Lc39 {p : Program} {l : Launch} {e : Env} {s : State} {m : MethodId} {args : Array Value} {below : List Frame} {meth : Method} {c : Code} {D : va_G} {cy : Nat → ClassId} {s00 : State} {ad : Nat → Nat} {A : Nat → Prop} {Q : State → Prop} {b L : Nat} {sx : Nat → Int32} {rt : Option FieldType} (hX : va_X b L sx s s.heap) (hb : b < s.heap.size ∧ ¬ A b) (hT : l.stackTraces = false ∧ XDW s00) (hG : XG s00) {tE : xEnT} (hEn : XEn s00 tE) (hNc : XNc s00) {c0 m0 : Nat} (hc0 : c0 + 6 ≤ room_1.cells) (hm0 : m0 + 36 ≤ room_1.slots) {K : XS → Option Unit} {m4 : Int32} (E : XE p s m args meth c cL_law 9 RL rt D cy s00) (hk : ∀ (S1 : XS) (H : Heap) (locs : List Loc) (ls : Array Slot), K S1 = some () → XH D cy s00 shLaw ad S1 A s H locs → lv_has ls 9 [(4, .int m4), (3, .ref (ad 154)), (2, .ref (ad 155)), (1, .ref (ad 0)), (0, .ref b)] → W p l e room_1 s m args below meth c H locs (c0 + 6) (m0 + 36) Q (F0 m 2957 ls [])) (S : XS) (H : Heap) (locs : List Loc) (ls : Array Slot) (hf : f_Lc39 L sx K m4 S = some ()) (h : XH D cy s00 shLaw ad S A s H locs) (hl : lv_has ls 9 [(4, .int m4), (3, .ref (ad 154)), (2, .ref (ad 155)), (1, .ref (ad 0)), (0, .ref b)]) : W p l e room_1 s m args below meth c H locs c0 m0 Q (F0 m 2159 ls []) := by
  unfold f_Lc39 at hf
  refine lv_aload_n E.1 E.2.1 dL_law_2159 rfl (lv_at hl 3 rfl) ?_
  refine lv_aload_n E.1 E.2.1 dL_law_2160 rfl (lv_at hl 4 rfl) ?_
  refine lv_iload E.1 E.2.1 dL_law_2161 (lv_at hl 0 rfl) ?_
  refine lv_iconst (v := 1) E.1 E.2.1 dL_law_2163 (by decide) ?_
  refine lv_iadd E.1 E.2.1 dL_law_2164 ?_
  refine x_sld hX hb E h hf dL_law_2165 (fun v1 hf => ?_)
  refine lv_aload_n E.1 E.2.1 dL_law_2166 rfl (lv_at hl 4 rfl) ?_
  refine lv_iload E.1 E.2.1 dL_law_2167 (lv_at hl 0 rfl) ?_
  refine lv_iconst (v := 2) E.1 E.2.1 dL_law_2169 (by decide) ?_
  refine lv_iadd E.1 E.2.1 dL_law_2170 ?_
  refine x_sld hX hb E h hf dL_law_2171 (fun v2 hf => ?_)
  refine lv_aload_n E.1 E.2.1 dL_law_2172 rfl (lv_at hl 1 rfl) ?_
  refine x_callW E h hl hf xsub_lawW (fun r0 Sq0 hr => c_L_stepsTo l D cy s00 _ hT hG hNc (xs 0 S) v1 v2 r0 Sq0 hr) mw_L_stepsTo ⟨by decide +kernel, by decide +kernel, (by decide +kernel : (parseMethodDescriptor yL_stepsTo.desc).map (fun d => d.parameters.length) = some 4)⟩ kw1231 rfl rfl (Nat.le_of_ble_eq_true rfl) ⟨Nat.le_of_ble_eq_true rfl, Nat.le_of_ble_eq_true rfl⟩ ⟨by omega, by omega⟩ dL_law_2173 (fun v3 S4 H locs hf h => ?_)
  refine lv_istore (lv' := [(5, .int v3), (4, .int m4), (3, .ref (ad 154)), (2, .ref (ad 155)), (1, .ref (ad 0)), (0, .ref b)]) E.1 E.2.1 dL_law_2176 hl (by decide) rfl (fun ls hl => ?_)
  refine lv_aload_n E.1 E.2.1 dL_law_2178 rfl (lv_at hl 3 rfl) ?_
  refine lv_aload_n E.1 E.2.1 dL_law_2179 rfl (lv_at hl 5 rfl) ?_
  refine lv_iload E.1 E.2.1 dL_law_2180 (lv_at hl 1 rfl) ?_
  refine lv_iconst (v := 1) E.1 E.2.1 dL_law_2182 (by decide) ?_
  refine lv_iadd E.1 E.2.1 dL_law_2183 ?_
  refine x_sld hX hb E h hf dL_law_2184 (fun v5 hf => ?_)
  refine lv_aload_n E.1 E.2.1 dL_law_2185 rfl (lv_at hl 5 rfl) ?_
  refine lv_iload E.1 E.2.1 dL_law_2186 (lv_at hl 1 rfl) ?_
  refine lv_iconst (v := 2) E.1 E.2.1 dL_law_2188 (by decide) ?_
  refine lv_iadd E.1 E.2.1 dL_law_2189 ?_
  refine x_sld hX hb E h hf dL_law_2190 (fun v6 hf => ?_)
  refine x_calloi E h hl 155 155 hf xsub_lawM (fun r0 Sq0 hr => c_X9_stepsTo l D cy s00 _ (xs 155 S4) v5 v6 r0 Sq0 hr) m_X9_stepsTo rfl rfl kw1904 rfl rfl (Nat.le_of_ble_eq_true rfl) ⟨Nat.le_of_ble_eq_true rfl, Nat.le_of_ble_eq_true rfl⟩ ⟨by omega, by omega⟩ dL_law_2191 (fun v7 S8 H locs hf h => ?_)
  refine lv_istore (lv' := [(6, .int v7), (5, .int v3), (4, .int m4), (3, .ref (ad 154)), (2, .ref (ad 155)), (1, .ref (ad 0)), (0, .ref b)]) E.1 E.2.1 dL_law_2194 hl (by decide) rfl (fun ls hl => ?_)
  refine lv_aload_n E.1 E.2.1 dL_law_2196 rfl (lv_at hl 4 rfl) ?_
  refine x_callop E h hl 155 155 hf xsub_lawM (fun r0 hr => c_X9_thrown l D cy s00 _ (xs 155 S8)  r0 hr) m_X9_thrown rfl rfl kw1681 rfl rfl (Nat.le_of_ble_eq_true rfl) ⟨Nat.le_of_ble_eq_true rfl, Nat.le_of_ble_eq_true rfl⟩ ⟨by omega, by omega⟩ dL_law_2197 (fun v9 H locs hf h => ?_)
  refine lv_iload E.1 E.2.1 dL_law_2200 (lv_at hl 1 rfl) ?_
  refine x_br hf (lv_icmp_eq (tgt := 2207) E.1 E.2.1 dL_law_2202 (by decide)) (fun hf => ?_) (fun hf => ?_)
  · refine lv_iload E.1 E.2.1 dL_law_2207 (lv_at hl 1 rfl) ?_
    refine x_brn hf (lv_if_ne (tgt := 2224) E.1 E.2.1 dL_law_2209 (by decide)) (fun hf => ?_) (fun hf => ?_)
    · refine lv_goto (tgt := 2957) E.1 E.2.1 dL_law_2224 (by decide) ?_
      exact x_wid ⟨by omega, by omega⟩ (hk _ H locs ls hf h (lv_sub hl [2, 3, 4, 5, 6] rfl))
    · refine lv_aload_n E.1 E.2.1 dL_law_2212 rfl (lv_at hl 3 rfl) ?_
      refine lv_iconst (v := 0) E.1 E.2.1 dL_law_2213 (by decide) ?_
      refine x_lald1 E h 154 rfl dL_law_2214 ?_
      refine lv_iload E.1 E.2.1 dL_law_2215 (lv_at hl 0 rfl) ?_
      refine lv_i2l E.1 E.2.1 dL_law_2217 rfl ?_
      refine W.lcmp E.1 E.2.1 dL_law_2218 ?_
      refine x_bre (lg_cmp0 _ _) hf (lv_if_eq (tgt := 2224) E.1 E.2.1 dL_law_2219 (by decide)) (fun hf => ?_) (fun hf => ?_)
      · refine lv_goto (tgt := 2957) E.1 E.2.1 dL_law_2224 (by decide) ?_
        exact x_wid ⟨by omega, by omega⟩ (hk _ H locs ls hf h (lv_sub hl [2, 3, 4, 5, 6] rfl))
      · cases hf
  · cases hf
set_option maxHeartbeats 4000000 in
set_option maxRecDepth 100000 in
theorem w_Lc40 {p : Program} {l : Launch} {e : Env} {s : State} {m : MethodId} {args : Array Value} {below : List Frame} {meth : Method} {c : Code} {D : va_G} {cy : Nat → ClassId} {s00 : State} {ad : Nat → Nat} {A : Nat → Prop} {Q : State → Prop} {b L : Nat} {sx : Nat → Int32} {rt : Option FieldType} (hX : va_X b L sx s s.heap) (hb : b < s.heap.size ∧ ¬ A b) (hT : l.stackTraces = false ∧ XDW s00) (hG : XG s00) {tE : xEnT} (hEn : XEn s00 tE) (hNc : XNc s00) {c0 m0 : Nat} (hc0 : c0 + 6 ≤ room_1.cells) (hm0 : m0 + 36 ≤ room_1.slots) {K : XS → Option Unit} {m4 : Int32} (E : XE p s m args meth c cL_law 9 RL rt D cy s00) (hk : ∀ (S1 : XS) (H : Heap) (locs : List Loc) (ls : Array Slot), K S1 = some () → XH D cy s00 shLaw ad S1 A s H locs → lv_has ls 9 [(4, .int m4), (3, .ref (ad 154)), (2, .ref (ad 155)), (1, .ref (ad 0)), (0, .ref b)] → W p l e room_1 s m args below meth c H locs (c0 + 6) (m0 + 36) Q (F0 m 2957 ls [])) (S : XS) (H : Heap) (locs : List Loc) (ls : Array Slot) (hf : f_Lc40 L sx K m4 S = some ()) (h : XH D cy s00 shLaw ad S A s H locs) (hl : lv_has ls 9 [(4, .int m4), (3, .ref (ad 154)), (2, .ref (ad 155)), (1, .ref (ad 0)), (0, .ref b)]) : W p l e room_1 s m args below meth c H locs c0 m0 Q (F0 m 2227 ls []) := by
  unfold f_Lc40 at hf
  refine lv_aload_n E.1 E.2.1 dL_law_2227 rfl (lv_at hl 3 rfl) ?_
  refine lv_aload_n E.1 E.2.1 dL_law_2228 rfl (lv_at hl 4 rfl) ?_
  refine lv_iload E.1 E.2.1 dL_law_2229 (lv_at hl 0 rfl) ?_
  refine lv_iconst (v := 1) E.1 E.2.1 dL_law_2231 (by decide) ?_
  refine lv_iadd E.1 E.2.1 dL_law_2232 ?_
  refine x_sld hX hb E h hf dL_law_2233 (fun v1 hf => ?_)
  refine lv_aload_n E.1 E.2.1 dL_law_2234 rfl (lv_at hl 1 rfl) ?_
  refine x_callW E h hl hf xsub_lawW (fun r0 Sq0 hr => c_L_openGutters l D cy s00 _ hT hG hNc (xs 0 S) v1 r0 Sq0 hr) mw_L_openGutters ⟨by decide +kernel, by decide +kernel, (by decide +kernel : (parseMethodDescriptor yL_openGutters.desc).map (fun d => d.parameters.length) = some 3)⟩ kw1243 rfl rfl (Nat.le_of_ble_eq_true rfl) ⟨Nat.le_of_ble_eq_true rfl, Nat.le_of_ble_eq_true rfl⟩ ⟨by omega, by omega⟩ dL_law_2235 (fun v2 S3 H locs hf h => ?_)
  refine lv_istore (lv' := [(5, .int v2), (4, .int m4), (3, .ref (ad 154)), (2, .ref (ad 155)), (1, .ref (ad 0)), (0, .ref b)]) E.1 E.2.1 dL_law_2238 hl (by decide) rfl (fun ls hl => ?_)
  refine lv_aload_n E.1 E.2.1 dL_law_2240 rfl (lv_at hl 3 rfl) ?_
  refine lv_aload_n E.1 E.2.1 dL_law_2241 rfl (lv_at hl 5 rfl) ?_
  refine lv_iload E.1 E.2.1 dL_law_2242 (lv_at hl 1 rfl) ?_
  refine lv_iconst (v := 1) E.1 E.2.1 dL_law_2244 (by decide) ?_
  refine lv_iadd E.1 E.2.1 dL_law_2245 ?_
  refine x_sld hX hb E h hf dL_law_2246 (fun v4 hf => ?_)
  refine x_calloi E h hl 155 155 hf xsub_lawM (fun r0 Sq0 hr => c_X9_openGutters l D cy s00 _ (xs 155 S3) v4 r0 Sq0 hr) m_X9_openGutters rfl rfl kw1908 rfl rfl (Nat.le_of_ble_eq_true rfl) ⟨Nat.le_of_ble_eq_true rfl, Nat.le_of_ble_eq_true rfl⟩ ⟨by omega, by omega⟩ dL_law_2247 (fun v5 S6 H locs hf h => ?_)
  refine lv_istore (lv' := [(6, .int v5), (5, .int v2), (4, .int m4), (3, .ref (ad 154)), (2, .ref (ad 155)), (1, .ref (ad 0)), (0, .ref b)]) E.1 E.2.1 dL_law_2250 hl (by decide) rfl (fun ls hl => ?_)
  refine lv_aload_n E.1 E.2.1 dL_law_2252 rfl (lv_at hl 4 rfl) ?_
  refine x_callop E h hl 155 155 hf xsub_lawM (fun r0 hr => c_X9_thrown l D cy s00 _ (xs 155 S6)  r0 hr) m_X9_thrown rfl rfl kw1681 rfl rfl (Nat.le_of_ble_eq_true rfl) ⟨Nat.le_of_ble_eq_true rfl, Nat.le_of_ble_eq_true rfl⟩ ⟨by omega, by omega⟩ dL_law_2253 (fun v7 H locs hf h => ?_)
  refine lv_iload E.1 E.2.1 dL_law_2256 (lv_at hl 1 rfl) ?_
  refine x_br hf (lv_icmp_eq (tgt := 2263) E.1 E.2.1 dL_law_2258 (by decide)) (fun hf => ?_) (fun hf => ?_)
  · refine lv_iload E.1 E.2.1 dL_law_2263 (lv_at hl 1 rfl) ?_
    refine x_brn hf (lv_if_ne (tgt := 2280) E.1 E.2.1 dL_law_2265 (by decide)) (fun hf => ?_) (fun hf => ?_)
    · refine lv_goto (tgt := 2957) E.1 E.2.1 dL_law_2280 (by decide) ?_
      exact x_wid ⟨by omega, by omega⟩ (hk _ H locs ls hf h (lv_sub hl [2, 3, 4, 5, 6] rfl))
    · refine lv_aload_n E.1 E.2.1 dL_law_2268 rfl (lv_at hl 3 rfl) ?_
      refine lv_iconst (v := 0) E.1 E.2.1 dL_law_2269 (by decide) ?_
      refine x_lald1 E h 154 rfl dL_law_2270 ?_
      refine lv_iload E.1 E.2.1 dL_law_2271 (lv_at hl 0 rfl) ?_
      refine lv_i2l E.1 E.2.1 dL_law_2273 rfl ?_
      refine W.lcmp E.1 E.2.1 dL_law_2274 ?_
      refine x_bre (lg_cmp0 _ _) hf (lv_if_eq (tgt := 2280) E.1 E.2.1 dL_law_2275 (by decide)) (fun hf => ?_) (fun hf => ?_)
      · refine lv_goto (tgt := 2957) E.1 E.2.1 dL_law_2280 (by decide) ?_
        exact x_wid ⟨by omega, by omega⟩ (hk _ H locs ls hf h (lv_sub hl [2, 3, 4, 5, 6] rfl))
      · cases hf
  · cases hf
set_option maxHeartbeats 4000000 in
set_option maxRecDepth 100000 in
theorem w_Lc41 {p : Program} {l : Launch} {e : Env} {s : State} {m : MethodId} {args : Array Value} {below : List Frame} {meth : Method} {c : Code} {D : va_G} {cy : Nat → ClassId} {s00 : State} {ad : Nat → Nat} {A : Nat → Prop} {Q : State → Prop} {b L : Nat} {sx : Nat → Int32} {rt : Option FieldType} (hX : va_X b L sx s s.heap) (hb : b < s.heap.size ∧ ¬ A b) (hT : l.stackTraces = false ∧ XDW s00) (hG : XG s00) {tE : xEnT} (hEn : XEn s00 tE) (hNc : XNc s00) {c0 m0 : Nat} (hc0 : c0 + 6 ≤ room_1.cells) (hm0 : m0 + 36 ≤ room_1.slots) {K : XS → Option Unit} {m4 : Int32} (E : XE p s m args meth c cL_law 9 RL rt D cy s00) (hk : ∀ (S1 : XS) (H : Heap) (locs : List Loc) (ls : Array Slot), K S1 = some () → XH D cy s00 shLaw ad S1 A s H locs → lv_has ls 9 [(4, .int m4), (3, .ref (ad 154)), (2, .ref (ad 155)), (1, .ref (ad 0)), (0, .ref b)] → W p l e room_1 s m args below meth c H locs (c0 + 6) (m0 + 36) Q (F0 m 2957 ls [])) (S : XS) (H : Heap) (locs : List Loc) (ls : Array Slot) (hf : f_Lc41 L sx K m4 S = some ()) (h : XH D cy s00 shLaw ad S A s H locs) (hl : lv_has ls 9 [(4, .int m4), (3, .ref (ad 154)), (2, .ref (ad 155)), (1, .ref (ad 0)), (0, .ref b)]) : W p l e room_1 s m args below meth c H locs c0 m0 Q (F0 m 2283 ls []) := by
  unfold f_Lc41 at hf
  refine lv_aload_n E.1 E.2.1 dL_law_2283 rfl (lv_at hl 3 rfl) ?_
  refine lv_aload_n E.1 E.2.1 dL_law_2284 rfl (lv_at hl 4 rfl) ?_
  refine lv_iload E.1 E.2.1 dL_law_2285 (lv_at hl 0 rfl) ?_
  refine lv_iconst (v := 1) E.1 E.2.1 dL_law_2287 (by decide) ?_
  refine lv_iadd E.1 E.2.1 dL_law_2288 ?_
  refine x_sld hX hb E h hf dL_law_2289 (fun v1 hf => ?_)
  refine lv_aload_n E.1 E.2.1 dL_law_2290 rfl (lv_at hl 4 rfl) ?_
  refine lv_iload E.1 E.2.1 dL_law_2291 (lv_at hl 0 rfl) ?_
  refine lv_iconst (v := 2) E.1 E.2.1 dL_law_2293 (by decide) ?_
  refine lv_iadd E.1 E.2.1 dL_law_2294 ?_
  refine x_sld hX hb E h hf dL_law_2295 (fun v2 hf => ?_)
  refine lv_aload_n E.1 E.2.1 dL_law_2296 rfl (lv_at hl 1 rfl) ?_
  refine x_callW E h hl hf xsub_lawW (fun r0 Sq0 hr => c_L_whyNoStep l D cy s00 _ hT hG hNc (xs 0 S) v1 v2 r0 Sq0 hr) mw_L_whyNoStep ⟨by decide +kernel, by decide +kernel, (by decide +kernel : (parseMethodDescriptor yL_whyNoStep.desc).map (fun d => d.parameters.length) = some 4)⟩ kw1250 rfl rfl (Nat.le_of_ble_eq_true rfl) ⟨Nat.le_of_ble_eq_true rfl, Nat.le_of_ble_eq_true rfl⟩ ⟨by omega, by omega⟩ dL_law_2297 (fun v3 S4 H locs hf h => ?_)
  refine lv_istore (lv' := [(5, .int v3), (4, .int m4), (3, .ref (ad 154)), (2, .ref (ad 155)), (1, .ref (ad 0)), (0, .ref b)]) E.1 E.2.1 dL_law_2300 hl (by decide) rfl (fun ls hl => ?_)
  refine lv_aload_n E.1 E.2.1 dL_law_2302 rfl (lv_at hl 3 rfl) ?_
  refine lv_aload_n E.1 E.2.1 dL_law_2303 rfl (lv_at hl 5 rfl) ?_
  refine lv_iload E.1 E.2.1 dL_law_2304 (lv_at hl 1 rfl) ?_
  refine lv_iconst (v := 1) E.1 E.2.1 dL_law_2306 (by decide) ?_
  refine lv_iadd E.1 E.2.1 dL_law_2307 ?_
  refine x_sld hX hb E h hf dL_law_2308 (fun v5 hf => ?_)
  refine lv_aload_n E.1 E.2.1 dL_law_2309 rfl (lv_at hl 5 rfl) ?_
  refine lv_iload E.1 E.2.1 dL_law_2310 (lv_at hl 1 rfl) ?_
  refine lv_iconst (v := 2) E.1 E.2.1 dL_law_2312 (by decide) ?_
  refine lv_iadd E.1 E.2.1 dL_law_2313 ?_
  refine x_sld hX hb E h hf dL_law_2314 (fun v6 hf => ?_)
  refine x_calloi E h hl 155 155 hf xsub_lawM (fun r0 Sq0 hr => c_X9_whyNoStep l D cy s00 _ (xs 155 S4) v5 v6 r0 Sq0 hr) m_X9_whyNoStep rfl rfl kw1912 rfl rfl (Nat.le_of_ble_eq_true rfl) ⟨Nat.le_of_ble_eq_true rfl, Nat.le_of_ble_eq_true rfl⟩ ⟨by omega, by omega⟩ dL_law_2315 (fun v7 S8 H locs hf h => ?_)
  refine lv_istore (lv' := [(6, .int v7), (5, .int v3), (4, .int m4), (3, .ref (ad 154)), (2, .ref (ad 155)), (1, .ref (ad 0)), (0, .ref b)]) E.1 E.2.1 dL_law_2318 hl (by decide) rfl (fun ls hl => ?_)
  refine lv_aload_n E.1 E.2.1 dL_law_2320 rfl (lv_at hl 4 rfl) ?_
  refine x_callop E h hl 155 155 hf xsub_lawM (fun r0 hr => c_X9_thrown l D cy s00 _ (xs 155 S8)  r0 hr) m_X9_thrown rfl rfl kw1681 rfl rfl (Nat.le_of_ble_eq_true rfl) ⟨Nat.le_of_ble_eq_true rfl, Nat.le_of_ble_eq_true rfl⟩ ⟨by omega, by omega⟩ dL_law_2321 (fun v9 H locs hf h => ?_)
  refine lv_iload E.1 E.2.1 dL_law_2324 (lv_at hl 1 rfl) ?_
  refine x_br hf (lv_icmp_eq (tgt := 2331) E.1 E.2.1 dL_law_2326 (by decide)) (fun hf => ?_) (fun hf => ?_)
  · refine lv_iload E.1 E.2.1 dL_law_2331 (lv_at hl 1 rfl) ?_
    refine x_brn hf (lv_if_ne (tgt := 2348) E.1 E.2.1 dL_law_2333 (by decide)) (fun hf => ?_) (fun hf => ?_)
    · refine lv_goto (tgt := 2957) E.1 E.2.1 dL_law_2348 (by decide) ?_
      exact x_wid ⟨by omega, by omega⟩ (hk _ H locs ls hf h (lv_sub hl [2, 3, 4, 5, 6] rfl))
    · refine lv_aload_n E.1 E.2.1 dL_law_2336 rfl (lv_at hl 3 rfl) ?_
      refine lv_iconst (v := 0) E.1 E.2.1 dL_law_2337 (by decide) ?_
      refine x_lald1 E h 154 rfl dL_law_2338 ?_
      refine lv_iload E.1 E.2.1 dL_law_2339 (lv_at hl 0 rfl) ?_
      refine lv_i2l E.1 E.2.1 dL_law_2341 rfl ?_
      refine W.lcmp E.1 E.2.1 dL_law_2342 ?_
      refine x_bre (lg_cmp0 _ _) hf (lv_if_eq (tgt := 2348) E.1 E.2.1 dL_law_2343 (by decide)) (fun hf => ?_) (fun hf => ?_)
      · refine lv_goto (tgt := 2957) E.1 E.2.1 dL_law_2348 (by decide) ?_
        exact x_wid ⟨by omega, by omega⟩ (hk _ H locs ls hf h (lv_sub hl [2, 3, 4, 5, 6] rfl))
      · cases hf
  · cases hf
