set_option maxHeartbeats 8000000 in
set_option maxRecDepth 100000 in
theorem w_Lsw {p : Program} {l : Launch} {e : Env} {s : State} {m : MethodId} {args : Array Value} {below : List Frame} {meth : Method} {c : Code} {D : va_G} {cy : Nat → ClassId} {s00 : State} {ad : Nat → Nat} {A : Nat → Prop} {Q : State → Prop} {b L : Nat} {sx : Nat → Int32} {rt : Option FieldType} (hX : va_X b L sx s s.heap) (hb : b < s.heap.size ∧ ¬ A b) (hT : l.stackTraces = false ∧ XDW s00) (hG : XG s00) {tE : xEnT} (hEn : XEn s00 tE) (hNc : XNc s00) {c0 m0 : Nat} (hc0 : c0 + 6 ≤ room_1.cells) (hm0 : m0 + 36 ≤ room_1.slots) {K : XS → Option Unit} {m4 : Int32} (E : XE p s m args meth c cL_law 9 RL rt D cy s00) (hk : ∀ (S1 : XS) (H : Heap) (locs : List Loc) (ls : Array Slot), K S1 = some () → XH D cy s00 shLaw ad S1 A s H locs → lv_has ls 9 [(4, .int m4), (3, .ref (ad 154)), (2, .ref (ad 155)), (1, .ref (ad 0)), (0, .ref b)] → W p l e room_1 s m args below meth c H locs (c0 + 6) (m0 + 36) Q (F0 m 2957 ls [])) (S : XS) (x : Int32) (H : Heap) (locs : List Loc) (ls : Array Slot) (hf : f_Lsw L sx K m4 S x = some ()) (h : XH D cy s00 shLaw ad S A s H locs) (hl : lv_has ls 9 [(4, .int m4), (3, .ref (ad 154)), (2, .ref (ad 155)), (1, .ref (ad 0)), (0, .ref b)]) : W p l e room_1 s m args below meth c H locs c0 m0 Q (F0 m 40 ls [.int x]) := by
  unfold f_Lsw at hf
  refine x_case hf (fun c9 hf => lv_tableIn (tgt := 300) E.1 E.2.1 dL_law_40 (by rw [c9]; decide) (by rw [c9]; decide) (by rw [c9]; rfl) (by decide) (w_Lc0 hX hb hT hG hEn hNc hc0 hm0 E hk S H locs ls hf h hl)) (fun c100 hf => ?_)
  refine x_case hf (fun c9 hf => lv_tableIn (tgt := 373) E.1 E.2.1 dL_law_40 (by rw [c9]; decide) (by rw [c9]; decide) (by rw [c9]; rfl) (by decide) (w_Lc1 hX hb hT hG hEn hNc hc0 hm0 E hk S H locs ls hf h hl)) (fun c101 hf => ?_)
  refine x_case hf (fun c9 hf => lv_tableIn (tgt := 429) E.1 E.2.1 dL_law_40 (by rw [c9]; decide) (by rw [c9]; decide) (by rw [c9]; rfl) (by decide) (w_Lc2 hX hb hT hG hEn hNc hc0 hm0 E hk S H locs ls hf h hl)) (fun c102 hf => ?_)
  refine x_case hf (fun c9 hf => lv_tableIn (tgt := 442) E.1 E.2.1 dL_law_40 (by rw [c9]; decide) (by rw [c9]; decide) (by rw [c9]; rfl) (by decide) (w_Lc3 hX hb hT hG hEn hNc hc0 hm0 E hk S H locs ls hf h hl)) (fun c103 hf => ?_)
  refine x_case hf (fun c9 hf => lv_tableIn (tgt := 498) E.1 E.2.1 dL_law_40 (by rw [c9]; decide) (by rw [c9]; decide) (by rw [c9]; rfl) (by decide) (w_Lc4 hX hb hT hG hEn hNc hc0 hm0 E hk S H locs ls hf h hl)) (fun c104 hf => ?_)
  refine x_case hf (fun c9 hf => lv_tableIn (tgt := 578) E.1 E.2.1 dL_law_40 (by rw [c9]; decide) (by rw [c9]; decide) (by rw [c9]; rfl) (by decide) (w_Lc5 hX hb hT hG hEn hNc hc0 hm0 E hk S H locs ls hf h hl)) (fun c105 hf => ?_)
  refine x_case hf (fun c9 hf => lv_tableIn (tgt := 658) E.1 E.2.1 dL_law_40 (by rw [c9]; decide) (by rw [c9]; decide) (by rw [c9]; rfl) (by decide) (w_Lc6 hX hb hT hG hEn hNc hc0 hm0 E hk S H locs ls hf h hl)) (fun c106 hf => ?_)
  refine x_case hf (fun c9 hf => lv_tableIn (tgt := 726) E.1 E.2.1 dL_law_40 (by rw [c9]; decide) (by rw [c9]; decide) (by rw [c9]; rfl) (by decide) (w_Lc7 hX hb hT hG hEn hNc hc0 hm0 E hk S H locs ls hf h hl)) (fun c107 hf => ?_)
  refine x_case hf (fun c9 hf => lv_tableIn (tgt := 782) E.1 E.2.1 dL_law_40 (by rw [c9]; decide) (by rw [c9]; decide) (by rw [c9]; rfl) (by decide) (w_Lc8 hX hb hT hG hEn hNc hc0 hm0 E hk S H locs ls hf h hl)) (fun c108 hf => ?_)
  refine x_case hf (fun c9 hf => lv_tableIn (tgt := 838) E.1 E.2.1 dL_law_40 (by rw [c9]; decide) (by rw [c9]; decide) (by rw [c9]; rfl) (by decide) (w_Lc9 hX hb hT hG hEn hNc hc0 hm0 E hk S H locs ls hf h hl)) (fun c109 hf => ?_)
  refine x_case hf (fun c9 hf => lv_tableIn (tgt := 913) E.1 E.2.1 dL_law_40 (by rw [c9]; decide) (by rw [c9]; decide) (by rw [c9]; rfl) (by decide) (w_Lc10 hX hb hT hG hEn hNc hc0 hm0 E hk S H locs ls hf h hl)) (fun c110 hf => ?_)
  refine x_case hf (fun c9 hf => lv_tableIn (tgt := 1005) E.1 E.2.1 dL_law_40 (by rw [c9]; decide) (by rw [c9]; decide) (by rw [c9]; rfl) (by decide) (w_Lc11 hX hb hT hG hEn hNc hc0 hm0 E hk S H locs ls hf h hl)) (fun c111 hf => ?_)
  refine x_case hf (fun c9 hf => lv_tableIn (tgt := 1073) E.1 E.2.1 dL_law_40 (by rw [c9]; decide) (by rw [c9]; decide) (by rw [c9]; rfl) (by decide) (w_Lc12 hX hb hT hG hEn hNc hc0 hm0 E hk S H locs ls hf h hl)) (fun c112 hf => ?_)
  refine x_case hf (fun c9 hf => lv_tableIn (tgt := 1164) E.1 E.2.1 dL_law_40 (by rw [c9]; decide) (by rw [c9]; decide) (by rw [c9]; rfl) (by decide) (w_Lc13 hX hb hT hG hEn hNc hc0 hm0 E hk S H locs ls hf h hl)) (fun c113 hf => ?_)
  refine x_case hf (fun c9 hf => lv_tableIn (tgt := 1220) E.1 E.2.1 dL_law_40 (by rw [c9]; decide) (by rw [c9]; decide) (by rw [c9]; rfl) (by decide) (w_Lc14 hX hb hT hG hEn hNc hc0 hm0 E hk S H locs ls hf h hl)) (fun c114 hf => ?_)
  refine x_case hf (fun c9 hf => lv_tableIn (tgt := 1233) E.1 E.2.1 dL_law_40 (by rw [c9]; decide) (by rw [c9]; decide) (by rw [c9]; rfl) (by decide) (w_Lc15 hX hb hT hG hEn hNc hc0 hm0 E hk S H locs ls hf h hl)) (fun c115 hf => ?_)
  refine x_case hf (fun c9 hf => lv_tableIn (tgt := 1246) E.1 E.2.1 dL_law_40 (by rw [c9]; decide) (by rw [c9]; decide) (by rw [c9]; rfl) (by decide) (w_Lc16 hX hb hT hG hEn hNc hc0 hm0 E hk S H locs ls hf h hl)) (fun c116 hf => ?_)
  refine x_case hf (fun c9 hf => lv_tableIn (tgt := 1259) E.1 E.2.1 dL_law_40 (by rw [c9]; decide) (by rw [c9]; decide) (by rw [c9]; rfl) (by decide) (w_Lc17 hX hb hT hG hEn hNc hc0 hm0 E hk S H locs ls hf h hl)) (fun c117 hf => ?_)
  refine x_case hf (fun c9 hf => lv_tableIn (tgt := 1303) E.1 E.2.1 dL_law_40 (by rw [c9]; decide) (by rw [c9]; decide) (by rw [c9]; rfl) (by decide) (w_Lc18 hX hb hT hG hEn hNc hc0 hm0 E hk S H locs ls hf h hl)) (fun c118 hf => ?_)
  refine x_case hf (fun c9 hf => lv_tableIn (tgt := 1316) E.1 E.2.1 dL_law_40 (by rw [c9]; decide) (by rw [c9]; decide) (by rw [c9]; rfl) (by decide) (w_Lc19 hX hb hT hG hEn hNc hc0 hm0 E hk S H locs ls hf h hl)) (fun c119 hf => ?_)
  refine x_case hf (fun c9 hf => lv_tableIn (tgt := 1329) E.1 E.2.1 dL_law_40 (by rw [c9]; decide) (by rw [c9]; decide) (by rw [c9]; rfl) (by decide) (w_Lc20 hX hb hT hG hEn hNc hc0 hm0 E hk S H locs ls hf h hl)) (fun c120 hf => ?_)
  refine x_case hf (fun c9 hf => lv_tableIn (tgt := 1342) E.1 E.2.1 dL_law_40 (by rw [c9]; decide) (by rw [c9]; decide) (by rw [c9]; rfl) (by decide) (w_Lc21 hX hb hT hG hEn hNc hc0 hm0 E hk S H locs ls hf h hl)) (fun c121 hf => ?_)
  refine x_case hf (fun c9 hf => lv_tableIn (tgt := 1355) E.1 E.2.1 dL_law_40 (by rw [c9]; decide) (by rw [c9]; decide) (by rw [c9]; rfl) (by decide) (w_Lc22 hX hb hT hG hEn hNc hc0 hm0 E hk S H locs ls hf h hl)) (fun c122 hf => ?_)
  refine x_case hf (fun c9 hf => lv_tableIn (tgt := 1368) E.1 E.2.1 dL_law_40 (by rw [c9]; decide) (by rw [c9]; decide) (by rw [c9]; rfl) (by decide) (w_Lc23 hX hb hT hG hEn hNc hc0 hm0 E hk S H locs ls hf h hl)) (fun c123 hf => ?_)
  refine x_case hf (fun c9 hf => lv_tableIn (tgt := 1381) E.1 E.2.1 dL_law_40 (by rw [c9]; decide) (by rw [c9]; decide) (by rw [c9]; rfl) (by decide) (w_Lc24 hX hb hT hG hEn hNc hc0 hm0 E hk S H locs ls hf h hl)) (fun c124 hf => ?_)
  refine x_case hf (fun c9 hf => lv_tableIn (tgt := 1394) E.1 E.2.1 dL_law_40 (by rw [c9]; decide) (by rw [c9]; decide) (by rw [c9]; rfl) (by decide) (w_Lc25 hX hb hT hG hEn hNc hc0 hm0 E hk S H locs ls hf h hl)) (fun c125 hf => ?_)
  refine x_case hf (fun c9 hf => lv_tableIn (tgt := 1450) E.1 E.2.1 dL_law_40 (by rw [c9]; decide) (by rw [c9]; decide) (by rw [c9]; rfl) (by decide) (w_Lc26 hX hb hT hG hEn hNc hc0 hm0 E hk S H locs ls hf h hl)) (fun c126 hf => ?_)
  refine x_case hf (fun c9 hf => lv_tableIn (tgt := 1506) E.1 E.2.1 dL_law_40 (by rw [c9]; decide) (by rw [c9]; decide) (by rw [c9]; rfl) (by decide) (w_Lc27 hX hb hT hG hEn hNc hc0 hm0 E hk S H locs ls hf h hl)) (fun c127 hf => ?_)
  refine x_case hf (fun c9 hf => lv_tableIn (tgt := 1562) E.1 E.2.1 dL_law_40 (by rw [c9]; decide) (by rw [c9]; decide) (by rw [c9]; rfl) (by decide) (w_Lc28 hX hb hT hG hEn hNc hc0 hm0 E hk S H locs ls hf h hl)) (fun c128 hf => ?_)
  refine x_case hf (fun c9 hf => lv_tableIn (tgt := 1618) E.1 E.2.1 dL_law_40 (by rw [c9]; decide) (by rw [c9]; decide) (by rw [c9]; rfl) (by decide) (w_Lc29 hX hb hT hG hEn hNc hc0 hm0 E hk S H locs ls hf h hl)) (fun c129 hf => ?_)
  refine x_case hf (fun c9 hf => lv_tableIn (tgt := 1674) E.1 E.2.1 dL_law_40 (by rw [c9]; decide) (by rw [c9]; decide) (by rw [c9]; rfl) (by decide) (w_Lc30 hX hb hT hG hEn hNc hc0 hm0 E hk S H locs ls hf h hl)) (fun c130 hf => ?_)
  refine x_case hf (fun c9 hf => lv_tableIn (tgt := 1742) E.1 E.2.1 dL_law_40 (by rw [c9]; decide) (by rw [c9]; decide) (by rw [c9]; rfl) (by decide) (w_Lc31 hX hb hT hG hEn hNc hc0 hm0 E hk S H locs ls hf h hl)) (fun c131 hf => ?_)
  refine x_case hf (fun c9 hf => lv_tableIn (tgt := 1755) E.1 E.2.1 dL_law_40 (by rw [c9]; decide) (by rw [c9]; decide) (by rw [c9]; rfl) (by decide) (w_Lc32 hX hb hT hG hEn hNc hc0 hm0 E hk S H locs ls hf h hl)) (fun c132 hf => ?_)
  refine x_case hf (fun c9 hf => lv_tableIn (tgt := 1811) E.1 E.2.1 dL_law_40 (by rw [c9]; decide) (by rw [c9]; decide) (by rw [c9]; rfl) (by decide) (w_Lc33 hX hb hT hG hEn hNc hc0 hm0 E hk S H locs ls hf h hl)) (fun c133 hf => ?_)
  refine x_case hf (fun c9 hf => lv_tableIn (tgt := 1867) E.1 E.2.1 dL_law_40 (by rw [c9]; decide) (by rw [c9]; decide) (by rw [c9]; rfl) (by decide) (w_Lc34 hX hb hT hG hEn hNc hc0 hm0 E hk S H locs ls hf h hl)) (fun c134 hf => ?_)
  refine x_case hf (fun c9 hf => lv_tableIn (tgt := 1923) E.1 E.2.1 dL_law_40 (by rw [c9]; decide) (by rw [c9]; decide) (by rw [c9]; rfl) (by decide) (w_Lc35 hX hb hT hG hEn hNc hc0 hm0 E hk S H locs ls hf h hl)) (fun c135 hf => ?_)
  refine x_case hf (fun c9 hf => lv_tableIn (tgt := 1979) E.1 E.2.1 dL_law_40 (by rw [c9]; decide) (by rw [c9]; decide) (by rw [c9]; rfl) (by decide) (w_Lc36 hX hb hT hG hEn hNc hc0 hm0 E hk S H locs ls hf h hl)) (fun c136 hf => ?_)
  refine x_case hf (fun c9 hf => lv_tableIn (tgt := 2035) E.1 E.2.1 dL_law_40 (by rw [c9]; decide) (by rw [c9]; decide) (by rw [c9]; rfl) (by decide) (w_Lc37 hX hb hT hG hEn hNc hc0 hm0 E hk S H locs ls hf h hl)) (fun c137 hf => ?_)
  refine x_case hf (fun c9 hf => lv_tableIn (tgt := 2103) E.1 E.2.1 dL_law_40 (by rw [c9]; decide) (by rw [c9]; decide) (by rw [c9]; rfl) (by decide) (w_Lc38 hX hb hT hG hEn hNc hc0 hm0 E hk S H locs ls hf h hl)) (fun c138 hf => ?_)
  refine x_case hf (fun c9 hf => lv_tableIn (tgt := 2159) E.1 E.2.1 dL_law_40 (by rw [c9]; decide) (by rw [c9]; decide) (by rw [c9]; rfl) (by decide) (w_Lc39 hX hb hT hG hEn hNc hc0 hm0 E hk S H locs ls hf h hl)) (fun c139 hf => ?_)
  refine x_case hf (fun c9 hf => lv_tableIn (tgt := 2227) E.1 E.2.1 dL_law_40 (by rw [c9]; decide) (by rw [c9]; decide) (by rw [c9]; rfl) (by decide) (w_Lc40 hX hb hT hG hEn hNc hc0 hm0 E hk S H locs ls hf h hl)) (fun c140 hf => ?_)
  refine x_case hf (fun c9 hf => lv_tableIn (tgt := 2283) E.1 E.2.1 dL_law_40 (by rw [c9]; decide) (by rw [c9]; decide) (by rw [c9]; rfl) (by decide) (w_Lc41 hX hb hT hG hEn hNc hc0 hm0 E hk S H locs ls hf h hl)) (fun c141 hf => ?_)
  refine x_case hf (fun c9 hf => lv_tableIn (tgt := 2351) E.1 E.2.1 dL_law_40 (by rw [c9]; decide) (by rw [c9]; decide) (by rw [c9]; rfl) (by decide) (w_Lc42 hX hb hT hG hEn hNc hc0 hm0 E hk S H locs ls hf h hl)) (fun c142 hf => ?_)
  refine x_case hf (fun c9 hf => lv_tableIn (tgt := 2407) E.1 E.2.1 dL_law_40 (by rw [c9]; decide) (by rw [c9]; decide) (by rw [c9]; rfl) (by decide) (w_Lc43 hX hb hT hG hEn hNc hc0 hm0 E hk S H locs ls hf h hl)) (fun c143 hf => ?_)
  refine x_case hf (fun c9 hf => lv_tableIn (tgt := 2475) E.1 E.2.1 dL_law_40 (by rw [c9]; decide) (by rw [c9]; decide) (by rw [c9]; rfl) (by decide) (w_Lc44 hX hb hT hG hEn hNc hc0 hm0 E hk S H locs ls hf h hl)) (fun c144 hf => ?_)
  refine x_case hf (fun c9 hf => lv_tableIn (tgt := 2531) E.1 E.2.1 dL_law_40 (by rw [c9]; decide) (by rw [c9]; decide) (by rw [c9]; rfl) (by decide) (w_Lc45 hX hb hT hG hEn hNc hc0 hm0 E hk S H locs ls hf h hl)) (fun c145 hf => ?_)
  refine x_case hf (fun c9 hf => lv_tableIn (tgt := 2544) E.1 E.2.1 dL_law_40 (by rw [c9]; decide) (by rw [c9]; decide) (by rw [c9]; rfl) (by decide) (w_Lc46 hX hb hT hG hEn hNc hc0 hm0 E hk S H locs ls hf h hl)) (fun c146 hf => ?_)
  refine x_case hf (fun c9 hf => lv_tableIn (tgt := 2557) E.1 E.2.1 dL_law_40 (by rw [c9]; decide) (by rw [c9]; decide) (by rw [c9]; rfl) (by decide) (w_Lc47 hX hb hT hG hEn hNc hc0 hm0 E hk S H locs ls hf h hl)) (fun c147 hf => ?_)
  refine x_case hf (fun c9 hf => lv_tableIn (tgt := 2570) E.1 E.2.1 dL_law_40 (by rw [c9]; decide) (by rw [c9]; decide) (by rw [c9]; rfl) (by decide) (w_Lc48 hX hb hT hG hEn hNc hc0 hm0 E hk S H locs ls hf h hl)) (fun c148 hf => ?_)
  refine x_case hf (fun c9 hf => lv_tableIn (tgt := 2633) E.1 E.2.1 dL_law_40 (by rw [c9]; decide) (by rw [c9]; decide) (by rw [c9]; rfl) (by decide) (w_Lc49 hX hb hT hG hEn hNc hc0 hm0 E hk S H locs ls hf h hl)) (fun c149 hf => ?_)
  refine x_case hf (fun c9 hf => lv_tableIn (tgt := 2689) E.1 E.2.1 dL_law_40 (by rw [c9]; decide) (by rw [c9]; decide) (by rw [c9]; rfl) (by decide) (w_Lc50 hX hb hT hG hEn hNc hc0 hm0 E hk S H locs ls hf h hl)) (fun c150 hf => ?_)
  refine x_case hf (fun c9 hf => lv_tableIn (tgt := 2702) E.1 E.2.1 dL_law_40 (by rw [c9]; decide) (by rw [c9]; decide) (by rw [c9]; rfl) (by decide) (w_Lc51 hX hb hT hG hEn hNc hc0 hm0 E hk S H locs ls hf h hl)) (fun c151 hf => ?_)
  refine x_case hf (fun c9 hf => lv_tableIn (tgt := 2715) E.1 E.2.1 dL_law_40 (by rw [c9]; decide) (by rw [c9]; decide) (by rw [c9]; rfl) (by decide) (w_Lc52 hX hb hT hG hEn hNc hc0 hm0 E hk S H locs ls hf h hl)) (fun c152 hf => ?_)
  refine x_case hf (fun c9 hf => lv_tableIn (tgt := 2728) E.1 E.2.1 dL_law_40 (by rw [c9]; decide) (by rw [c9]; decide) (by rw [c9]; rfl) (by decide) (w_Lc53 hX hb hT hG hEn hNc hc0 hm0 E hk S H locs ls hf h hl)) (fun c153 hf => ?_)
  refine x_case hf (fun c9 hf => lv_tableIn (tgt := 2796) E.1 E.2.1 dL_law_40 (by rw [c9]; decide) (by rw [c9]; decide) (by rw [c9]; rfl) (by decide) (w_Lc54 hX hb hT hG hEn hNc hc0 hm0 E hk S H locs ls hf h hl)) (fun c154 hf => ?_)
  refine x_case hf (fun c9 hf => lv_tableIn (tgt := 2809) E.1 E.2.1 dL_law_40 (by rw [c9]; decide) (by rw [c9]; decide) (by rw [c9]; rfl) (by decide) (w_Lc55 hX hb hT hG hEn hNc hc0 hm0 E hk S H locs ls hf h hl)) (fun c155 hf => ?_)
  refine x_case hf (fun c9 hf => lv_tableIn (tgt := 2822) E.1 E.2.1 dL_law_40 (by rw [c9]; decide) (by rw [c9]; decide) (by rw [c9]; rfl) (by decide) (w_Lc56 hX hb hT hG hEn hNc hc0 hm0 E hk S H locs ls hf h hl)) (fun c156 hf => ?_)
  refine x_case hf (fun c9 hf => lv_tableIn (tgt := 2863) E.1 E.2.1 dL_law_40 (by rw [c9]; decide) (by rw [c9]; decide) (by rw [c9]; rfl) (by decide) (w_Lc57 hX hb hT hG hEn hNc hc0 hm0 E hk S H locs ls hf h hl)) (fun c157 hf => ?_)
  refine x_case hf (fun c9 hf => lv_tableIn (tgt := 2906) E.1 E.2.1 dL_law_40 (by rw [c9]; decide) (by rw [c9]; decide) (by rw [c9]; rfl) (by decide) (w_Lc58 hX hb hT hG hEn hNc hc0 hm0 E hk S H locs ls hf h hl)) (fun c158 hf => ?_)
  refine x_case hf (fun c9 hf => lv_tableIn (tgt := 2919) E.1 E.2.1 dL_law_40 (by rw [c9]; decide) (by rw [c9]; decide) (by rw [c9]; rfl) (by decide) (w_Lc59 hX hb hT hG hEn hNc hc0 hm0 E hk S H locs ls hf h hl)) (fun c159 hf => ?_)
  refine x_case hf (fun c9 hf => lv_tableIn (tgt := 2932) E.1 E.2.1 dL_law_40 (by rw [c9]; decide) (by rw [c9]; decide) (by rw [c9]; rfl) (by decide) (w_Lc60 hX hb hT hG hEn hNc hc0 hm0 E hk S H locs ls hf h hl)) (fun c160 hf => ?_)
  refine lv_tableOut (tgt := 2957) E.1 E.2.1 dL_law_40 (x_out (fun z z1 z2 => ?_)) (by decide) (x_wid ⟨by omega, by omega⟩ (hk _ H locs ls hf h hl))
  have hz : z = 0 ∨ z = 1 ∨ z = 2 ∨ z = 3 ∨ z = 4 ∨ z = 5 ∨ z = 6 ∨ z = 7 ∨ z = 8 ∨ z = 9 ∨ z = 10 ∨ z = 11 ∨ z = 12 ∨ z = 13 ∨ z = 14 ∨ z = 15 ∨ z = 16 ∨ z = 17 ∨ z = 18 ∨ z = 19 ∨ z = 20 ∨ z = 21 ∨ z = 22 ∨ z = 23 ∨ z = 24 ∨ z = 25 ∨ z = 26 ∨ z = 27 ∨ z = 28 ∨ z = 29 ∨ z = 30 ∨ z = 31 ∨ z = 32 ∨ z = 33 ∨ z = 34 ∨ z = 35 ∨ z = 36 ∨ z = 37 ∨ z = 38 ∨ z = 39 ∨ z = 40 ∨ z = 41 ∨ z = 42 ∨ z = 43 ∨ z = 44 ∨ z = 45 ∨ z = 46 ∨ z = 47 ∨ z = 48 ∨ z = 49 ∨ z = 50 ∨ z = 51 ∨ z = 52 ∨ z = 53 ∨ z = 54 ∨ z = 55 ∨ z = 56 ∨ z = 57 ∨ z = 58 ∨ z = 59 ∨ z = 60 := by omega
  rcases hz with rfl | rfl | rfl | rfl | rfl | rfl | rfl | rfl | rfl | rfl | rfl | rfl | rfl | rfl | rfl | rfl | rfl | rfl | rfl | rfl | rfl | rfl | rfl | rfl | rfl | rfl | rfl | rfl | rfl | rfl | rfl | rfl | rfl | rfl | rfl | rfl | rfl | rfl | rfl | rfl | rfl | rfl | rfl | rfl | rfl | rfl | rfl | rfl | rfl | rfl | rfl | rfl | rfl | rfl | rfl | rfl | rfl | rfl | rfl | rfl | rfl
  · exact c100
  · exact c101
  · exact c102
  · exact c103
  · exact c104
  · exact c105
  · exact c106
  · exact c107
  · exact c108
  · exact c109
  · exact c110
  · exact c111
  · exact c112
  · exact c113
  · exact c114
  · exact c115
  · exact c116
  · exact c117
  · exact c118
  · exact c119
  · exact c120
  · exact c121
  · exact c122
  · exact c123
  · exact c124
  · exact c125
  · exact c126
  · exact c127
  · exact c128
  · exact c129
  · exact c130
  · exact c131
  · exact c132
  · exact c133
  · exact c134
  · exact c135
  · exact c136
  · exact c137
  · exact c138
  · exact c139
  · exact c140
  · exact c141
  · exact c142
  · exact c143
  · exact c144
  · exact c145
  · exact c146
  · exact c147
  · exact c148
  · exact c149
  · exact c150
  · exact c151
  · exact c152
  · exact c153
  · exact c154
  · exact c155
  · exact c156
  · exact c157
  · exact c158
  · exact c159
  · exact c160
theorem law_in {L j : Nat} (hL : L ≤ 3072) (hj : j ≤ 512) (h : ¬ Int32.ofNat L - 6 < nI (6 * j)) : 6 * j + 6 ≤ L := by
  by_cases h6 : 6 ≤ L
  · have e : Int32.ofNat L - 6 = nI (L - 6) := by
      have h1 : nI (L - 6) + nI 6 = nI L := by rw [nI_add]; congr 1; omega
      show nI L - nI 6 = nI (L - 6)
      rw [← h1, Int32.add_sub_cancel]
    rw [e, nI_ltI (by omega) (by omega)] at h
    omega
  · exfalso
    apply h
    refine Int32.lt_of_lt_of_le (b := 0) ?_ (nI_pos' (by omega))
    rcases (show L = 0 ∨ L = 1 ∨ L = 2 ∨ L = 3 ∨ L = 4 ∨ L = 5 by omega) with rfl | rfl | rfl | rfl | rfl | rfl <;> decide
set_option maxHeartbeats 4000000 in
theorem w_law_L {p : Program} {l : Launch} {e : Env} {s : State} {m : MethodId} {args : Array Value} {below : List Frame} {meth : Method} {c : Code} {D : va_G} {cy : Nat → ClassId} {s00 : State} {ad : Nat → Nat} {A : Nat → Prop} {Q : State → Prop} {b L : Nat} {sx : Nat → Int32} {rt : Option FieldType} (hX : va_X b L sx s s.heap) (hb : b < s.heap.size ∧ ¬ A b) (hT : l.stackTraces = false ∧ XDW s00) (hG : XG s00) {tE : xEnT} (hEn : XEn s00 tE) (hNc : XNc s00) {C0 M0 : Nat} (hc0 : C0 + 3078 ≤ room_1.cells) (hm0 : M0 + 18468 ≤ room_1.slots) (hL : L ≤ 3072) (E : XE p s m args meth c cL_law 9 RL rt D cy s00) (hk : ∀ (S1 : XS) (H : Heap) (locs : List Loc) (ls : Array Slot) (c1 m1 : Nat), c1 ≤ C0 + 3078 → m1 ≤ M0 + 18468 → XH D cy s00 shLaw ad S1 A s H locs → W p l e room_1 s m args below meth c H locs c1 m1 Q (F0 m 2963 ls [])) : ∀ (n j : Nat) (S : XS) (H : Heap) (locs : List Loc) (ls : Array Slot), j ≤ 512 → f_law_L L sx n (nI (6 * j)) S = some () → XH D cy s00 shLaw ad S A s H locs → lv_has ls 9 [(4, .int (nI (6 * j))), (3, .ref (ad 154)), (2, .ref (ad 155)), (1, .ref (ad 0)), (0, .ref b)] → W p l e room_1 s m args below meth c H locs (C0 + 6 * j) (M0 + 36 * j) Q (F0 m 23 ls []) := by
  intro n
  induction n with
  | zero => intro j S H locs ls hj hf; cases hf
  | succ n ih =>
    intro j S H locs ls hj hf h hl
    rw [f_law_L] at hf
    dsimp only at hf
    refine lv_iload E.1 E.2.1 dL_law_23 (lv_at hl 0 rfl) ?_
    refine lv_aload_n E.1 E.2.1 dL_law_25 rfl (lv_at hl 4 rfl) ?_
    refine va_slen E.1 E.2.1 hX hb.1 hb.2 h.2.2.1 dL_law_26 ?_
    refine lv_bipush (v := 6) E.1 E.2.1 dL_law_27 (by decide) ?_
    refine lv_isub E.1 E.2.1 dL_law_29 ?_
    by_cases hlt : Int32.ofNat L - 6 < nI (6 * j)
    · exact lv_icmp_gt (tgt := 2963) E.1 E.2.1 dL_law_30 (by decide) (fun _ => hk S H locs ls _ _ (by omega) (by omega) h) (fun h9 => absurd hlt h9)
    · rw [if_neg hlt] at hf
      refine lv_icmp_gt (tgt := 2963) E.1 E.2.1 dL_law_30 (by decide) (fun h9 => absurd h9 hlt) (fun _ => ?_)
      refine lv_aload_n E.1 E.2.1 dL_law_33 rfl (lv_at hl 4 rfl) ?_
      refine lv_iload E.1 E.2.1 dL_law_34 (lv_at hl 0 rfl) ?_
      refine x_sld hX hb E h hf dL_law_36 (fun v hf => ?_)
      refine lv_bipush (v := 63) E.1 E.2.1 dL_law_37 (by decide) ?_
      refine lv_iand E.1 E.2.1 dL_law_39 ?_
      have hj2 : 6 * j + 6 ≤ L := law_in hL hj hlt
      have e9 : nI (6 * j) + 6 = nI (6 * (j + 1)) := by rw [show (6 : Int32) = nI 6 from rfl, nI_add, Nat.mul_succ]
      rw [e9] at hf
      refine w_Lsw hX hb hT hG hEn hNc (c0 := C0 + 6 * j) (m0 := M0 + 36 * j) (by omega) (by omega) E (fun S1 H locs ls hf h hl => ?_) S _ H locs ls hf h hl
      refine lv_iinc (v := nI (6 * (j + 1))) (lv' := [(4, .int (nI (6 * (j + 1)))), (3, .ref (ad 154)), (2, .ref (ad 155)), (1, .ref (ad 0)), (0, .ref b)]) E.1 E.2.1 dL_law_2957 hl (k := 0) rfl (by rw [← e9]; rfl) (by decide) rfl (fun ls hl => ?_)
      refine lv_goto (tgt := 23) E.1 E.2.1 dL_law_2960 (by decide) ?_
      exact ih (j + 1) S1 H locs ls (by omega) hf h hl
