theorem kw147 : Cond.methodLink RX8 1 Lib.objectInit ∈ lwX := kw 147 (by decide +kernel) (by decide +kernel)
theorem kw150 : Cond.classLink RX8 7 "RooftopCats$Roof" ∈ lwX := kw 150 (by decide +kernel) (by decide +kernel)
theorem kw254 : Cond.classLink RX8 23 "RooftopCats$History" ∈ lwX := kw 254 (by decide +kernel) (by decide +kernel)
theorem kw255 : Cond.instantiable "RooftopCats$History" 3 ∈ lwX := kw 255 (by decide +kernel) (by decide +kernel)
theorem kw256 : Cond.methodLink RX8 25 yX2_init ∈ lwX := kw 256 (by decide +kernel) (by decide +kernel)
theorem kw257 : Cond.instanceMethod yX2_init ∈ lwX := kw 257 (by decide +kernel) (by decide +kernel)
theorem kw258 : Cond.code yX2_init cX2_init 2 none ∈ lwX := kw 258 (by decide +kernel) (by decide +kernel)
theorem kw274 : Cond.classLink RX8 30 "RooftopCats$Script" ∈ lwX := kw 274 (by decide +kernel) (by decide +kernel)
theorem kw275 : Cond.instantiable "RooftopCats$Script" 10 ∈ lwX := kw 275 (by decide +kernel) (by decide +kernel)
theorem kw277 : Cond.instanceMethod yX7_init ∈ lwX := kw 277 (by decide +kernel) (by decide +kernel)
theorem kw278 : Cond.code yX7_init cX7_init 1 none ∈ lwX := kw 278 (by decide +kernel) (by decide +kernel)
theorem kw348 : Cond.classLink RX8 37 "RooftopCats$Report" ∈ lwX := kw 348 (by decide +kernel) (by decide +kernel)
theorem kw349 : Cond.instantiable "RooftopCats$Report" 2 ∈ lwX := kw 349 (by decide +kernel) (by decide +kernel)
theorem kw351 : Cond.instanceMethod yX5_init ∈ lwX := kw 351 (by decide +kernel) (by decide +kernel)
theorem kw352 : Cond.code yX5_init cX5_init 1 none ∈ lwX := kw 352 (by decide +kernel) (by decide +kernel)
theorem kw1308 : Cond.methodLink RX9 1 Lib.objectInit ∈ lwX := kw 1308 (by decide +kernel) (by decide +kernel)
theorem kw1680 : Cond.arrayClass (newarray.typeOf .char) ∈ lwX := kw 1680 (by decide +kernel) (by decide +kernel)
theorem kw1310 : Cond.methodLink RX9 47 yX9_tell ∈ lwX := kw 1310 (by decide +kernel) (by decide +kernel)
theorem kw1312 : Cond.instanceMethod yX9_tell ∈ lwX := kw 1312 (by decide +kernel) (by decide +kernel)
theorem kw28 : Cond.selects RX9 yX9_tell yX9_tell ∈ lwX := kw 28 (by decide +kernel) (by decide +kernel)
theorem kw1313 : Cond.code yX9_tell cX9_tell 3 none ∈ lwX := kw 1313 (by decide +kernel) (by decide +kernel)
theorem m_X9_tell : xMem yX9_tell RX9 cX9_tell 3 none 1 := ⟨kw1312, kw28, kw125, kw1313, by decide +kernel, by decide +kernel, by decide +kernel, by decide +kernel⟩
def glX8_init (a : Nat) (ad1 ad14 ad27 ad133 ad152 : Nat → Nat) : Nat → Nat := (fun i => if i < 1 then ([a] : List Nat).getD (i - 0) 0 else if i < 14 then ad1 (i - 1) else if i < 27 then ad14 (i - 14) else if i < 133 then ad27 (i - 27) else if i < 152 then ad133 (i - 133) else ad152 (i - 152))
set_option maxHeartbeats 4000000 in
set_option maxRecDepth 100000 in
theorem eX8_init (cy : Nat → ClassId) (a : Nat) (ad1 ad14 ad27 ad133 ad152 : Nat → Nat) : (((a, .inr (6, [.ref (ad1 0), .ref (ad14 0), .int 0, .ref (ad27 0), .ref (ad133 0), .ref (ad152 0)])) : Nat × va_E) :: ((((([] ++ xw cy ad1 (fun _ _ => 0) 0 shRoof) ++ xw cy ad14 (fun _ _ => 0) 0 shRoof) ++ xw cy ad27 (fun _ _ => 0) 0 shHist) ++ xw cy ad133 (xput (fun _ _ => 0) 0 3 (-1)) 0 shScr) ++ xw cy ad152 (fun _ _ => 0) 0 shRep)) = xw cy (glX8_init a  ad1 ad14 ad27 ad133 ad152) (xput (fun _ _ => 0) 133 3 (-1)) 0 shCats := by
  have hs : shCats = [.inl (6, [some 1, some 14, none, some 27, some 133, some 152])] ++ shRoof.map (xrelF (1 + ·)) ++ shRoof.map (xrelF (14 + ·)) ++ shHist.map (xrelF (27 + ·)) ++ shScr.map (xrelF (133 + ·)) ++ shRep.map (xrelF (152 + ·)) := by decide +kernel
  have b1 : xw cy (glX8_init a  ad1 ad14 ad27 ad133 ad152) (xput (fun _ _ => 0) 133 3 (-1)) 1 (shRoof.map (xrelF (1 + ·))) = xw cy ad1 (fun _ _ => 0) 0 shRoof := by
    refine xw_block (o := 1) (n := 13) (fun i hi => ?_) (fun i hi b => ?_) shRoof 0 rfl (by decide +kernel)
    · show glX8_init a  ad1 ad14 ad27 ad133 ad152 (1 + i) = ad1 i
      unfold glX8_init
      rw [if_neg (show ¬ 1 + i < 1 by omega), if_pos (show 1 + i < 14 by omega)]
      rw [show 1 + i - 1 = i by omega]
    · simp only [xput]
      rw [if_neg (show ¬ 1 + i = 133 by omega)]
  have b14 : xw cy (glX8_init a  ad1 ad14 ad27 ad133 ad152) (xput (fun _ _ => 0) 133 3 (-1)) 14 (shRoof.map (xrelF (14 + ·))) = xw cy ad14 (fun _ _ => 0) 0 shRoof := by
    refine xw_block (o := 14) (n := 13) (fun i hi => ?_) (fun i hi b => ?_) shRoof 0 rfl (by decide +kernel)
    · show glX8_init a  ad1 ad14 ad27 ad133 ad152 (14 + i) = ad14 i
      unfold glX8_init
      rw [if_neg (show ¬ 14 + i < 1 by omega), if_neg (show ¬ 14 + i < 14 by omega), if_pos (show 14 + i < 27 by omega)]
      rw [show 14 + i - 14 = i by omega]
    · simp only [xput]
      rw [if_neg (show ¬ 14 + i = 133 by omega)]
  have b27 : xw cy (glX8_init a  ad1 ad14 ad27 ad133 ad152) (xput (fun _ _ => 0) 133 3 (-1)) 27 (shHist.map (xrelF (27 + ·))) = xw cy ad27 (fun _ _ => 0) 0 shHist := by
    refine xw_block (o := 27) (n := 106) (fun i hi => ?_) (fun i hi b => ?_) shHist 0 rfl (by decide +kernel)
    · show glX8_init a  ad1 ad14 ad27 ad133 ad152 (27 + i) = ad27 i
      unfold glX8_init
      rw [if_neg (show ¬ 27 + i < 1 by omega), if_neg (show ¬ 27 + i < 14 by omega), if_neg (show ¬ 27 + i < 27 by omega), if_pos (show 27 + i < 133 by omega)]
      rw [show 27 + i - 27 = i by omega]
    · simp only [xput]
      rw [if_neg (show ¬ 27 + i = 133 by omega)]
  have b133 : xw cy (glX8_init a  ad1 ad14 ad27 ad133 ad152) (xput (fun _ _ => 0) 133 3 (-1)) 133 (shScr.map (xrelF (133 + ·))) = xw cy ad133 (xput (fun _ _ => 0) 0 3 (-1)) 0 shScr := by
    refine xw_block (o := 133) (n := 19) (fun i hi => ?_) (fun i hi b => ?_) shScr 0 rfl (by decide +kernel)
    · show glX8_init a  ad1 ad14 ad27 ad133 ad152 (133 + i) = ad133 i
      unfold glX8_init
      rw [if_neg (show ¬ 133 + i < 1 by omega), if_neg (show ¬ 133 + i < 14 by omega), if_neg (show ¬ 133 + i < 27 by omega), if_neg (show ¬ 133 + i < 133 by omega), if_pos (show 133 + i < 152 by omega)]
      rw [show 133 + i - 133 = i by omega]
    · simp only [xput]
      by_cases h9 : i = 0
      · rw [if_pos (show 133 + i = 133 by omega), if_pos h9]
      · rw [if_neg (show ¬ 133 + i = 133 by omega), if_neg h9]
  have b152 : xw cy (glX8_init a  ad1 ad14 ad27 ad133 ad152) (xput (fun _ _ => 0) 133 3 (-1)) 152 (shRep.map (xrelF (152 + ·))) = xw cy ad152 (fun _ _ => 0) 0 shRep := by
    refine xw_block (o := 152) (n := 2) (fun i hi => ?_) (fun i hi b => ?_) shRep 0 rfl (by decide +kernel)
    · show glX8_init a  ad1 ad14 ad27 ad133 ad152 (152 + i) = ad152 i
      unfold glX8_init
      rw [if_neg (show ¬ 152 + i < 1 by omega), if_neg (show ¬ 152 + i < 14 by omega), if_neg (show ¬ 152 + i < 27 by omega), if_neg (show ¬ 152 + i < 133 by omega), if_neg (show ¬ 152 + i < 152 by omega)]
      rw [show 152 + i - 152 = i by omega]
    · simp only [xput]
      rw [if_neg (show ¬ 152 + i = 133 by omega)]
  have e9 : xw cy (glX8_init a  ad1 ad14 ad27 ad133 ad152) (xput (fun _ _ => 0) 133 3 (-1)) 0 ([.inl (6, [some 1, some 14, none, some 27, some 133, some 152])] ++ shRoof.map (xrelF (1 + ·)) ++ shRoof.map (xrelF (14 + ·)) ++ shHist.map (xrelF (27 + ·)) ++ shScr.map (xrelF (133 + ·)) ++ shRep.map (xrelF (152 + ·))) = xw cy (glX8_init a  ad1 ad14 ad27 ad133 ad152) (xput (fun _ _ => 0) 133 3 (-1)) 0 [.inl (6, [some 1, some 14, none, some 27, some 133, some 152])] ++ xw cy (glX8_init a  ad1 ad14 ad27 ad133 ad152) (xput (fun _ _ => 0) 133 3 (-1)) 1 (shRoof.map (xrelF (1 + ·))) ++ xw cy (glX8_init a  ad1 ad14 ad27 ad133 ad152) (xput (fun _ _ => 0) 133 3 (-1)) 14 (shRoof.map (xrelF (14 + ·))) ++ xw cy (glX8_init a  ad1 ad14 ad27 ad133 ad152) (xput (fun _ _ => 0) 133 3 (-1)) 27 (shHist.map (xrelF (27 + ·))) ++ xw cy (glX8_init a  ad1 ad14 ad27 ad133 ad152) (xput (fun _ _ => 0) 133 3 (-1)) 133 (shScr.map (xrelF (133 + ·))) ++ xw cy (glX8_init a  ad1 ad14 ad27 ad133 ad152) (xput (fun _ _ => 0) 133 3 (-1)) 152 (shRep.map (xrelF (152 + ·))) := by
    rw [xw_app, xw_app, xw_app, xw_app, xw_app]
    rfl
  rw [hs, e9, b1, b14, b27, b133, b152]
  rfl
set_option maxHeartbeats 8000000 in
set_option maxRecDepth 100000 in
theorem c_X8_init (l : Launch) (D : va_G) (cy : Nat → ClassId) (s00 : State) (hO : va_AO "RooftopCats$Roof" s00) (S9 : XS) (hf : f_X8_init (xput (fun _ _ => 0) 133 3 (-1)) = some S9) : XN l yX8_init cX8_init 1 4 153 2951 D cy s00 6 [.null, .null, .int 0, .null, .null, .null] shCats S9 := by
  refine XN.of (by decide) (Nat.le_of_ble_eq_true rfl) (fun a p e s m args below meth c A ls E hin hNW hB hl => ?_)
  refine lv_aload_n E.1 E.2.1 dX8_init_0 rfl (lv_at hl 0 rfl) ?_
  refine x_bobj E hl kw147 kw148 kw149 (Nat.le_of_ble_eq_true rfl) (Nat.le_of_ble_eq_true rfl) dX8_init_1 ?_
  refine lv_aload_n E.1 E.2.1 dX8_init_4 rfl (lv_at hl 0 rfl) ?_
  refine x_bnewN E hNW hB hl (c_X6_init l D cy s00) rfl xinX6 tyX6_ok (fun j hj => by rcases (show j = 0 ∨ j = 1 ∨ j = 2 ∨ j = 3 ∨ j = 4 ∨ j = 5 ∨ j = 6 ∨ j = 7 ∨ j = 8 ∨ j = 9 ∨ j = 10 ∨ j = 11 ∨ j = 12 ∨ j = 13 ∨ j = 14 ∨ j = 15 ∨ j = 16 by omega) with rfl | rfl | rfl | rfl | rfl | rfl | rfl | rfl | rfl | rfl | rfl | rfl | rfl | rfl | rfl | rfl | rfl <;> rfl) kw150 kw151 kw117 (show Cond.methodLinkNest RX8 9 yX6_init RX8 ∈ xNw by simp [xNw]) kw153 kw154 ⟨rfl, rfl⟩ (by decide +kernel) (Nat.le_of_ble_eq_true rfl) ⟨Nat.le_of_ble_eq_true rfl, Nat.le_of_ble_eq_true rfl⟩ ⟨Nat.le_of_ble_eq_true rfl, Nat.le_of_ble_eq_true rfl⟩ ⟨Nat.le_of_ble_eq_true rfl, Nat.le_of_ble_eq_true rfl⟩ dX8_init_5 dX8_init_8 dX8_init_9 (fun ad1 H locs hB => ?_)
  have hB : XB D s00 (((a, .inr (6, [.null, .null, .int 0, .null, .null, .null])) : Nat × va_E) :: ([] ++ xw cy ad1 (fun _ _ => 0) 0 shRoof)) A s H locs := hB
  refine x_bput (ty := .object "RooftopCats$Roof") (v := .ref (ad1 0)) E hin hB rfl 0 (by decide) xinX8 tyX8_ok nmX8 kw431 (by decide +kernel) rfl rfl (Nat.le_of_ble_eq_true rfl) rfl dX8_init_12 (fun H locs hB => ?_)
  have hB : XB D s00 (((a, .inr (6, [.ref (ad1 0), .null, .int 0, .null, .null, .null])) : Nat × va_E) :: ([] ++ xw cy ad1 (fun _ _ => 0) 0 shRoof)) A s H locs := hB
  refine lv_aload_n E.1 E.2.1 dX8_init_15 rfl (lv_at hl 0 rfl) ?_
  refine x_bnewN E hNW hB hl (c_X6_init l D cy s00) rfl xinX6 tyX6_ok (fun j hj => by rcases (show j = 0 ∨ j = 1 ∨ j = 2 ∨ j = 3 ∨ j = 4 ∨ j = 5 ∨ j = 6 ∨ j = 7 ∨ j = 8 ∨ j = 9 ∨ j = 10 ∨ j = 11 ∨ j = 12 ∨ j = 13 ∨ j = 14 ∨ j = 15 ∨ j = 16 by omega) with rfl | rfl | rfl | rfl | rfl | rfl | rfl | rfl | rfl | rfl | rfl | rfl | rfl | rfl | rfl | rfl | rfl <;> rfl) kw150 kw151 kw117 (show Cond.methodLinkNest RX8 9 yX6_init RX8 ∈ xNw by simp [xNw]) kw153 kw154 ⟨rfl, rfl⟩ (by decide +kernel) (Nat.le_of_ble_eq_true rfl) ⟨Nat.le_of_ble_eq_true rfl, Nat.le_of_ble_eq_true rfl⟩ ⟨Nat.le_of_ble_eq_true rfl, Nat.le_of_ble_eq_true rfl⟩ ⟨Nat.le_of_ble_eq_true rfl, Nat.le_of_ble_eq_true rfl⟩ dX8_init_16 dX8_init_19 dX8_init_20 (fun ad14 H locs hB => ?_)
  have hB : XB D s00 (((a, .inr (6, [.ref (ad1 0), .null, .int 0, .null, .null, .null])) : Nat × va_E) :: (([] ++ xw cy ad1 (fun _ _ => 0) 0 shRoof) ++ xw cy ad14 (fun _ _ => 0) 0 shRoof)) A s H locs := hB
  refine x_bput (ty := .object "RooftopCats$Roof") (v := .ref (ad14 0)) E hin hB rfl 1 (by decide) xinX8 tyX8_ok nmX8 kw432 (by decide +kernel) rfl rfl (Nat.le_of_ble_eq_true rfl) rfl dX8_init_23 (fun H locs hB => ?_)
  have hB : XB D s00 (((a, .inr (6, [.ref (ad1 0), .ref (ad14 0), .int 0, .null, .null, .null])) : Nat × va_E) :: (([] ++ xw cy ad1 (fun _ _ => 0) 0 shRoof) ++ xw cy ad14 (fun _ _ => 0) 0 shRoof)) A s H locs := hB
  refine lv_aload_n E.1 E.2.1 dX8_init_26 rfl (lv_at hl 0 rfl) ?_
  refine lv_iconst (v := 0) E.1 E.2.1 dX8_init_27 (by decide) ?_
  refine x_bput (ty := .boolean) (v := .int 0) E hin hB rfl 2 (by decide) xinX8 tyX8_ok nmX8 kw433 (by decide +kernel) (by decide) (by decide) (Nat.le_of_ble_eq_true rfl) rfl dX8_init_28 (fun H locs hB => ?_)
  have hB : XB D s00 (((a, .inr (6, [.ref (ad1 0), .ref (ad14 0), .int 0, .null, .null, .null])) : Nat × va_E) :: (([] ++ xw cy ad1 (fun _ _ => 0) 0 shRoof) ++ xw cy ad14 (fun _ _ => 0) 0 shRoof)) A s H locs := hB
  refine lv_aload_n E.1 E.2.1 dX8_init_31 rfl (lv_at hl 0 rfl) ?_
  refine x_bnew E hNW hB hl (c_X2_init l D cy s00 hO) rfl xinX2 tyX2_ok (fun j hj => by rcases (show j = 0 ∨ j = 1 ∨ j = 2 by omega) with rfl | rfl | rfl <;> rfl) kw254 kw255 kw119 kw256 kw257 kw258 ⟨rfl, rfl⟩ (by decide +kernel) (Nat.le_of_ble_eq_true rfl) ⟨Nat.le_of_ble_eq_true rfl, Nat.le_of_ble_eq_true rfl⟩ ⟨Nat.le_of_ble_eq_true rfl, Nat.le_of_ble_eq_true rfl⟩ ⟨Nat.le_of_ble_eq_true rfl, Nat.le_of_ble_eq_true rfl⟩ dX8_init_32 dX8_init_35 dX8_init_36 (fun ad27 H locs hB => ?_)
  have hB : XB D s00 (((a, .inr (6, [.ref (ad1 0), .ref (ad14 0), .int 0, .null, .null, .null])) : Nat × va_E) :: ((([] ++ xw cy ad1 (fun _ _ => 0) 0 shRoof) ++ xw cy ad14 (fun _ _ => 0) 0 shRoof) ++ xw cy ad27 (fun _ _ => 0) 0 shHist)) A s H locs := hB
  refine x_bput (ty := .object "RooftopCats$History") (v := .ref (ad27 0)) E hin hB rfl 3 (by decide) xinX8 tyX8_ok nmX8 kw434 (by decide +kernel) rfl rfl (Nat.le_of_ble_eq_true rfl) rfl dX8_init_39 (fun H locs hB => ?_)
  have hB : XB D s00 (((a, .inr (6, [.ref (ad1 0), .ref (ad14 0), .int 0, .ref (ad27 0), .null, .null])) : Nat × va_E) :: ((([] ++ xw cy ad1 (fun _ _ => 0) 0 shRoof) ++ xw cy ad14 (fun _ _ => 0) 0 shRoof) ++ xw cy ad27 (fun _ _ => 0) 0 shHist)) A s H locs := hB
  refine lv_aload_n E.1 E.2.1 dX8_init_42 rfl (lv_at hl 0 rfl) ?_
  refine x_bnewN E hNW hB hl (c_X7_init l D cy s00) rfl xinX7 tyX7_ok (fun j hj => by rcases (show j = 0 ∨ j = 1 ∨ j = 2 ∨ j = 3 ∨ j = 4 ∨ j = 5 ∨ j = 6 ∨ j = 7 ∨ j = 8 ∨ j = 9 by omega) with rfl | rfl | rfl | rfl | rfl | rfl | rfl | rfl | rfl | rfl <;> rfl) kw274 kw275 kw120 (show Cond.methodLinkNest RX8 32 yX7_init RX8 ∈ xNw by simp [xNw]) kw277 kw278 ⟨rfl, rfl⟩ (by decide +kernel) (Nat.le_of_ble_eq_true rfl) ⟨Nat.le_of_ble_eq_true rfl, Nat.le_of_ble_eq_true rfl⟩ ⟨Nat.le_of_ble_eq_true rfl, Nat.le_of_ble_eq_true rfl⟩ ⟨Nat.le_of_ble_eq_true rfl, Nat.le_of_ble_eq_true rfl⟩ dX8_init_43 dX8_init_46 dX8_init_47 (fun ad133 H locs hB => ?_)
  have hB : XB D s00 (((a, .inr (6, [.ref (ad1 0), .ref (ad14 0), .int 0, .ref (ad27 0), .null, .null])) : Nat × va_E) :: (((([] ++ xw cy ad1 (fun _ _ => 0) 0 shRoof) ++ xw cy ad14 (fun _ _ => 0) 0 shRoof) ++ xw cy ad27 (fun _ _ => 0) 0 shHist) ++ xw cy ad133 (xput (fun _ _ => 0) 0 3 (-1)) 0 shScr)) A s H locs := hB
  refine x_bput (ty := .object "RooftopCats$Script") (v := .ref (ad133 0)) E hin hB rfl 4 (by decide) xinX8 tyX8_ok nmX8 kw435 (by decide +kernel) rfl rfl (Nat.le_of_ble_eq_true rfl) rfl dX8_init_50 (fun H locs hB => ?_)
  have hB : XB D s00 (((a, .inr (6, [.ref (ad1 0), .ref (ad14 0), .int 0, .ref (ad27 0), .ref (ad133 0), .null])) : Nat × va_E) :: (((([] ++ xw cy ad1 (fun _ _ => 0) 0 shRoof) ++ xw cy ad14 (fun _ _ => 0) 0 shRoof) ++ xw cy ad27 (fun _ _ => 0) 0 shHist) ++ xw cy ad133 (xput (fun _ _ => 0) 0 3 (-1)) 0 shScr)) A s H locs := hB
  refine lv_aload_n E.1 E.2.1 dX8_init_53 rfl (lv_at hl 0 rfl) ?_
  refine x_bnewN E hNW hB hl (c_X5_init l D cy s00) rfl xinX5 tyX5_ok (fun j hj => by rcases (show j = 0 ∨ j = 1 by omega) with rfl | rfl <;> rfl) kw348 kw349 kw122 (show Cond.methodLinkNest RX8 39 yX5_init RX8 ∈ xNw by simp [xNw]) kw351 kw352 ⟨rfl, rfl⟩ (by decide +kernel) (Nat.le_of_ble_eq_true rfl) ⟨Nat.le_of_ble_eq_true rfl, Nat.le_of_ble_eq_true rfl⟩ ⟨Nat.le_of_ble_eq_true rfl, Nat.le_of_ble_eq_true rfl⟩ ⟨Nat.le_of_ble_eq_true rfl, Nat.le_of_ble_eq_true rfl⟩ dX8_init_54 dX8_init_57 dX8_init_58 (fun ad152 H locs hB => ?_)
  have hB : XB D s00 (((a, .inr (6, [.ref (ad1 0), .ref (ad14 0), .int 0, .ref (ad27 0), .ref (ad133 0), .null])) : Nat × va_E) :: ((((([] ++ xw cy ad1 (fun _ _ => 0) 0 shRoof) ++ xw cy ad14 (fun _ _ => 0) 0 shRoof) ++ xw cy ad27 (fun _ _ => 0) 0 shHist) ++ xw cy ad133 (xput (fun _ _ => 0) 0 3 (-1)) 0 shScr) ++ xw cy ad152 (fun _ _ => 0) 0 shRep)) A s H locs := hB
  refine x_bput (ty := .object "RooftopCats$Report") (v := .ref (ad152 0)) E hin hB rfl 5 (by decide) xinX8 tyX8_ok nmX8 kw436 (by decide +kernel) rfl rfl (Nat.le_of_ble_eq_true rfl) rfl dX8_init_61 (fun H locs hB => ?_)
  have hB : XB D s00 (((a, .inr (6, [.ref (ad1 0), .ref (ad14 0), .int 0, .ref (ad27 0), .ref (ad133 0), .ref (ad152 0)])) : Nat × va_E) :: ((((([] ++ xw cy ad1 (fun _ _ => 0) 0 shRoof) ++ xw cy ad14 (fun _ _ => 0) 0 shRoof) ++ xw cy ad27 (fun _ _ => 0) 0 shHist) ++ xw cy ad133 (xput (fun _ _ => 0) 0 3 (-1)) 0 shScr) ++ xw cy ad152 (fun _ _ => 0) 0 shRep)) A s H locs := hB
  have h9 : XB D s00 (xw cy (glX8_init a  ad1 ad14 ad27 ad133 ad152) (xput (fun _ _ => 0) 133 3 (-1)) 0 shCats) A s H locs := by rw [← eX8_init cy a ad1 ad14 ad27 ad133 ad152]; exact hB
  obtain ⟨ad, had, h⟩ : ∃ ad : Nat → Nat, ad 0 = a ∧ XH D cy s00 shCats ad (xput (fun _ _ => 0) 133 3 (-1)) A s H locs := ⟨_, rfl, h9⟩
  subst had
  clear h9 hB
  unfold f_X8_init at hf
  generalize (xput (fun _ _ => 0) 133 3 (-1)) = S at h hf
  refine lv_aload_n E.1 E.2.1 dX8_init_64 rfl (lv_at hl 0 rfl) ?_
  refine x_getr E h 0 0 1 rfl rfl rfl (by decide) xinX8 kw431 dX8_init_65 ?_
  refine lv_bipush (v := 6) E.1 E.2.1 dX8_init_68 (by decide) ?_
  refine x_calloi E h hl 1 1 hf (xsub_of rfl) (fun r0 Sq0 hr => c_X6_putChimney l D cy s00 _ (xs 1 S) 6 r0 Sq0 hr) m_X6_putChimney rfl rfl kw363 rfl rfl (Nat.le_of_ble_eq_true rfl) ⟨by decide, by decide⟩ ⟨Nat.le_of_ble_eq_true rfl, Nat.le_of_ble_eq_true rfl⟩ dX8_init_70 (fun v1 S2 H locs hf h => ?_)
  refine lv_pop E.1 E.2.1 dX8_init_73 rfl ?_
  refine lv_aload_n E.1 E.2.1 dX8_init_74 rfl (lv_at hl 0 rfl) ?_
  refine x_getr E h 0 0 1 rfl rfl rfl (by decide) xinX8 kw431 dX8_init_75 ?_
  refine lv_iconst (v := 3) E.1 E.2.1 dX8_init_78 (by decide) ?_
  refine x_calloi E h hl 1 1 hf (xsub_of rfl) (fun r0 Sq0 hr => c_X6_putChimney l D cy s00 _ (xs 1 S2) 3 r0 Sq0 hr) m_X6_putChimney rfl rfl kw363 rfl rfl (Nat.le_of_ble_eq_true rfl) ⟨by decide, by decide⟩ ⟨Nat.le_of_ble_eq_true rfl, Nat.le_of_ble_eq_true rfl⟩ dX8_init_79 (fun v3 S4 H locs hf h => ?_)
  refine lv_pop E.1 E.2.1 dX8_init_82 rfl ?_
  refine lv_aload_n E.1 E.2.1 dX8_init_83 rfl (lv_at hl 0 rfl) ?_
  refine x_getr E h 0 0 1 rfl rfl rfl (by decide) xinX8 kw431 dX8_init_84 ?_
  refine lv_bipush (v := 9) E.1 E.2.1 dX8_init_87 (by decide) ?_
  refine x_calloi E h hl 1 1 hf (xsub_of rfl) (fun r0 Sq0 hr => c_X6_putChimney l D cy s00 _ (xs 1 S4) 9 r0 Sq0 hr) m_X6_putChimney rfl rfl kw363 rfl rfl (Nat.le_of_ble_eq_true rfl) ⟨by decide, by decide⟩ ⟨Nat.le_of_ble_eq_true rfl, Nat.le_of_ble_eq_true rfl⟩ dX8_init_89 (fun v5 S6 H locs hf h => ?_)
  refine lv_pop E.1 E.2.1 dX8_init_92 rfl ?_
  refine lv_aload_n E.1 E.2.1 dX8_init_93 rfl (lv_at hl 0 rfl) ?_
  refine x_getr E h 0 0 1 rfl rfl rfl (by decide) xinX8 kw431 dX8_init_94 ?_
  refine lv_iconst (v := 0) E.1 E.2.1 dX8_init_97 (by decide) ?_
  refine x_calloi E h hl 1 1 hf (xsub_of rfl) (fun r0 Sq0 hr => c_X6_putChimney l D cy s00 _ (xs 1 S6) 0 r0 Sq0 hr) m_X6_putChimney rfl rfl kw363 rfl rfl (Nat.le_of_ble_eq_true rfl) ⟨by decide, by decide⟩ ⟨Nat.le_of_ble_eq_true rfl, Nat.le_of_ble_eq_true rfl⟩ dX8_init_98 (fun v7 S8 H locs hf h => ?_)
  refine lv_pop E.1 E.2.1 dX8_init_101 rfl ?_
  refine lv_aload_n E.1 E.2.1 dX8_init_102 rfl (lv_at hl 0 rfl) ?_
  refine x_getr E h 0 0 1 rfl rfl rfl (by decide) xinX8 kw431 dX8_init_103 ?_
  refine lv_iconst (v := 4) E.1 E.2.1 dX8_init_106 (by decide) ?_
  refine x_calloi E h hl 1 1 hf (xsub_of rfl) (fun r0 Sq0 hr => c_X6_putChimney l D cy s00 _ (xs 1 S8) 4 r0 Sq0 hr) m_X6_putChimney rfl rfl kw363 rfl rfl (Nat.le_of_ble_eq_true rfl) ⟨by decide, by decide⟩ ⟨Nat.le_of_ble_eq_true rfl, Nat.le_of_ble_eq_true rfl⟩ dX8_init_107 (fun v9 S10 H locs hf h => ?_)
  refine lv_pop E.1 E.2.1 dX8_init_110 rfl ?_
  refine lv_aload_n E.1 E.2.1 dX8_init_111 rfl (lv_at hl 0 rfl) ?_
  refine x_getr E h 0 0 1 rfl rfl rfl (by decide) xinX8 kw431 dX8_init_112 ?_
  refine lv_iconst (v := 0) E.1 E.2.1 dX8_init_115 (by decide) ?_
  refine lv_iconst (v := 1) E.1 E.2.1 dX8_init_116 (by decide) ?_
  refine lv_iconst (v := 5) E.1 E.2.1 dX8_init_117 (by decide) ?_
  refine x_calloi E h hl 1 1 hf (xsub_of rfl) (fun r0 Sq0 hr => c_X6_putGutter l D cy s00 _ (xs 1 S10) 0 1 5 r0 Sq0 hr) m_X6_putGutter rfl rfl kw367 rfl rfl (Nat.le_of_ble_eq_true rfl) ⟨by decide, by decide⟩ ⟨Nat.le_of_ble_eq_true rfl, Nat.le_of_ble_eq_true rfl⟩ dX8_init_118 (fun v11 S12 H locs hf h => ?_)
  refine lv_pop E.1 E.2.1 dX8_init_121 rfl ?_
  refine lv_aload_n E.1 E.2.1 dX8_init_122 rfl (lv_at hl 0 rfl) ?_
  refine x_getr E h 0 0 1 rfl rfl rfl (by decide) xinX8 kw431 dX8_init_123 ?_
  refine lv_iconst (v := 1) E.1 E.2.1 dX8_init_126 (by decide) ?_
  refine lv_iconst (v := 2) E.1 E.2.1 dX8_init_127 (by decide) ?_
  refine lv_iconst (v := 3) E.1 E.2.1 dX8_init_128 (by decide) ?_
  refine x_calloi E h hl 1 1 hf (xsub_of rfl) (fun r0 Sq0 hr => c_X6_putGutter l D cy s00 _ (xs 1 S12) 1 2 3 r0 Sq0 hr) m_X6_putGutter rfl rfl kw367 rfl rfl (Nat.le_of_ble_eq_true rfl) ⟨by decide, by decide⟩ ⟨Nat.le_of_ble_eq_true rfl, Nat.le_of_ble_eq_true rfl⟩ dX8_init_129 (fun v13 S14 H locs hf h => ?_)
  refine lv_pop E.1 E.2.1 dX8_init_132 rfl ?_
  refine lv_aload_n E.1 E.2.1 dX8_init_133 rfl (lv_at hl 0 rfl) ?_
  refine x_getr E h 0 0 1 rfl rfl rfl (by decide) xinX8 kw431 dX8_init_134 ?_
  refine lv_iconst (v := 2) E.1 E.2.1 dX8_init_137 (by decide) ?_
  refine lv_iconst (v := 3) E.1 E.2.1 dX8_init_138 (by decide) ?_
  refine lv_bipush (v := 7) E.1 E.2.1 dX8_init_139 (by decide) ?_
  refine x_calloi E h hl 1 1 hf (xsub_of rfl) (fun r0 Sq0 hr => c_X6_putGutter l D cy s00 _ (xs 1 S14) 2 3 7 r0 Sq0 hr) m_X6_putGutter rfl rfl kw367 rfl rfl (Nat.le_of_ble_eq_true rfl) ⟨by decide, by decide⟩ ⟨Nat.le_of_ble_eq_true rfl, Nat.le_of_ble_eq_true rfl⟩ dX8_init_141 (fun v15 S16 H locs hf h => ?_)
  refine lv_pop E.1 E.2.1 dX8_init_144 rfl ?_
  refine lv_aload_n E.1 E.2.1 dX8_init_145 rfl (lv_at hl 0 rfl) ?_
  refine x_getr E h 0 0 1 rfl rfl rfl (by decide) xinX8 kw431 dX8_init_146 ?_
  refine lv_iconst (v := 0) E.1 E.2.1 dX8_init_149 (by decide) ?_
  refine lv_iconst (v := 3) E.1 E.2.1 dX8_init_150 (by decide) ?_
  refine lv_iconst (v := 2) E.1 E.2.1 dX8_init_151 (by decide) ?_
  refine x_calloi E h hl 1 1 hf (xsub_of rfl) (fun r0 Sq0 hr => c_X6_putGutter l D cy s00 _ (xs 1 S16) 0 3 2 r0 Sq0 hr) m_X6_putGutter rfl rfl kw367 rfl rfl (Nat.le_of_ble_eq_true rfl) ⟨by decide, by decide⟩ ⟨Nat.le_of_ble_eq_true rfl, Nat.le_of_ble_eq_true rfl⟩ dX8_init_152 (fun v17 S18 H locs hf h => ?_)
  refine lv_pop E.1 E.2.1 dX8_init_155 rfl ?_
  refine lv_aload_n E.1 E.2.1 dX8_init_156 rfl (lv_at hl 0 rfl) ?_
  refine x_getr E h 0 0 1 rfl rfl rfl (by decide) xinX8 kw431 dX8_init_157 ?_
  refine lv_iconst (v := 3) E.1 E.2.1 dX8_init_160 (by decide) ?_
  refine lv_iconst (v := 4) E.1 E.2.1 dX8_init_161 (by decide) ?_
  refine lv_bipush (v := 9) E.1 E.2.1 dX8_init_162 (by decide) ?_
  refine x_calloi E h hl 1 1 hf (xsub_of rfl) (fun r0 Sq0 hr => c_X6_putGutter l D cy s00 _ (xs 1 S18) 3 4 9 r0 Sq0 hr) m_X6_putGutter rfl rfl kw367 rfl rfl (Nat.le_of_ble_eq_true rfl) ⟨by decide, by decide⟩ ⟨Nat.le_of_ble_eq_true rfl, Nat.le_of_ble_eq_true rfl⟩ dX8_init_164 (fun v19 S20 H locs hf h => ?_)
  refine lv_pop E.1 E.2.1 dX8_init_167 rfl ?_
  refine lv_aload_n E.1 E.2.1 dX8_init_168 rfl (lv_at hl 0 rfl) ?_
  refine x_getr E h 0 0 1 rfl rfl rfl (by decide) xinX8 kw431 dX8_init_169 ?_
  refine lv_iconst (v := 0) E.1 E.2.1 dX8_init_172 (by decide) ?_
  refine lv_iconst (v := 4) E.1 E.2.1 dX8_init_173 (by decide) ?_
  refine lv_iconst (v := 5) E.1 E.2.1 dX8_init_174 (by decide) ?_
  refine x_calloi E h hl 1 1 hf (xsub_of rfl) (fun r0 Sq0 hr => c_X6_putCat l D cy s00 _ (xs 1 S20) 0 4 5 r0 Sq0 hr) m_X6_putCat rfl rfl kw371 rfl rfl (Nat.le_of_ble_eq_true rfl) ⟨by decide, by decide⟩ ⟨Nat.le_of_ble_eq_true rfl, Nat.le_of_ble_eq_true rfl⟩ dX8_init_175 (fun v21 S22 H locs hf h => ?_)
  refine lv_pop E.1 E.2.1 dX8_init_178 rfl ?_
  refine lv_aload_n E.1 E.2.1 dX8_init_179 rfl (lv_at hl 0 rfl) ?_
  refine x_getr E h 0 0 1 rfl rfl rfl (by decide) xinX8 kw431 dX8_init_180 ?_
  refine lv_iconst (v := 2) E.1 E.2.1 dX8_init_183 (by decide) ?_
  refine lv_iconst (v := 3) E.1 E.2.1 dX8_init_184 (by decide) ?_
  refine lv_bipush (v := 6) E.1 E.2.1 dX8_init_185 (by decide) ?_
  refine x_calloi E h hl 1 1 hf (xsub_of rfl) (fun r0 Sq0 hr => c_X6_putCat l D cy s00 _ (xs 1 S22) 2 3 6 r0 Sq0 hr) m_X6_putCat rfl rfl kw371 rfl rfl (Nat.le_of_ble_eq_true rfl) ⟨by decide, by decide⟩ ⟨Nat.le_of_ble_eq_true rfl, Nat.le_of_ble_eq_true rfl⟩ dX8_init_187 (fun v23 S24 H locs hf h => ?_)
  refine lv_pop E.1 E.2.1 dX8_init_190 rfl ?_
  refine lv_aload_n E.1 E.2.1 dX8_init_191 rfl (lv_at hl 0 rfl) ?_
  refine x_getr E h 0 0 1 rfl rfl rfl (by decide) xinX8 kw431 dX8_init_192 ?_
  refine lv_iconst (v := 4) E.1 E.2.1 dX8_init_195 (by decide) ?_
  refine lv_bipush (v := 6) E.1 E.2.1 dX8_init_196 (by decide) ?_
  refine lv_iconst (v := 3) E.1 E.2.1 dX8_init_198 (by decide) ?_
  refine x_calloi E h hl 1 1 hf (xsub_of rfl) (fun r0 Sq0 hr => c_X6_putCat l D cy s00 _ (xs 1 S24) 4 6 3 r0 Sq0 hr) m_X6_putCat rfl rfl kw371 rfl rfl (Nat.le_of_ble_eq_true rfl) ⟨by decide, by decide⟩ ⟨Nat.le_of_ble_eq_true rfl, Nat.le_of_ble_eq_true rfl⟩ dX8_init_199 (fun v25 S26 H locs hf h => ?_)
  refine lv_pop E.1 E.2.1 dX8_init_202 rfl ?_
  refine lv_aload_n E.1 E.2.1 dX8_init_203 rfl (lv_at hl 0 rfl) ?_
  refine x_getr E h 0 0 1 rfl rfl rfl (by decide) xinX8 kw431 dX8_init_204 ?_
  refine lv_iconst (v := 0) E.1 E.2.1 dX8_init_207 (by decide) ?_
  refine x_calloi E h hl 1 1 hf (xsub_of rfl) (fun r0 Sq0 hr => c_X6_takeSeat l D cy s00 _ (xs 1 S26) 0 r0 Sq0 hr) m_X6_takeSeat rfl rfl kw375 rfl rfl (Nat.le_of_ble_eq_true rfl) ⟨by decide, by decide⟩ ⟨Nat.le_of_ble_eq_true rfl, Nat.le_of_ble_eq_true rfl⟩ dX8_init_208 (fun v27 S28 H locs hf h => ?_)
  refine lv_pop E.1 E.2.1 dX8_init_211 rfl ?_
  refine lv_aload_n E.1 E.2.1 dX8_init_212 rfl (lv_at hl 0 rfl) ?_
  refine x_getr E h 0 0 1 rfl rfl rfl (by decide) xinX8 kw431 dX8_init_213 ?_
  refine lv_iconst (v := 1) E.1 E.2.1 dX8_init_216 (by decide) ?_
  refine x_calloi E h hl 1 1 hf (xsub_of rfl) (fun r0 Sq0 hr => c_X6_takeSeat l D cy s00 _ (xs 1 S28) 1 r0 Sq0 hr) m_X6_takeSeat rfl rfl kw375 rfl rfl (Nat.le_of_ble_eq_true rfl) ⟨by decide, by decide⟩ ⟨Nat.le_of_ble_eq_true rfl, Nat.le_of_ble_eq_true rfl⟩ dX8_init_217 (fun v29 S30 H locs hf h => ?_)
  refine lv_pop E.1 E.2.1 dX8_init_220 rfl ?_
  refine lv_aload_n E.1 E.2.1 dX8_init_221 rfl (lv_at hl 0 rfl) ?_
  refine x_getr E h 0 0 1 rfl rfl rfl (by decide) xinX8 kw431 dX8_init_222 ?_
  refine lv_iconst (v := 2) E.1 E.2.1 dX8_init_225 (by decide) ?_
  refine lv_iconst (v := 1) E.1 E.2.1 dX8_init_226 (by decide) ?_
  refine lv_iconst (v := 2) E.1 E.2.1 dX8_init_227 (by decide) ?_
  refine lv_bipush (v := 6) E.1 E.2.1 dX8_init_228 (by decide) ?_
  refine x_calloi E h hl 1 1 hf (xsub_of rfl) (fun r0 Sq0 hr => c_X6_agreeTruce l D cy s00 _ (xs 1 S30) 2 1 2 6 r0 Sq0 hr) m_X6_agreeTruce rfl rfl kw389 rfl rfl (Nat.le_of_ble_eq_true rfl) ⟨by decide, by decide⟩ ⟨Nat.le_of_ble_eq_true rfl, Nat.le_of_ble_eq_true rfl⟩ dX8_init_230 (fun v31 S32 H locs hf h => ?_)
  refine lv_pop E.1 E.2.1 dX8_init_233 rfl ?_
  refine lv_aload_n E.1 E.2.1 dX8_init_234 rfl (lv_at hl 0 rfl) ?_
  refine x_getr E h 0 0 1 rfl rfl rfl (by decide) xinX8 kw431 dX8_init_235 ?_
  refine lv_iconst (v := 3) E.1 E.2.1 dX8_init_238 (by decide) ?_
  refine x_calloi E h hl 1 1 hf (xsub_of rfl) (fun r0 Sq0 hr => c_X6_spendNights l D cy s00 _ (xs 1 S32) 3 r0 Sq0 hr) m_X6_spendNights rfl rfl kw393 rfl rfl (Nat.le_of_ble_eq_true rfl) ⟨by decide, by decide⟩ ⟨Nat.le_of_ble_eq_true rfl, Nat.le_of_ble_eq_true rfl⟩ dX8_init_239 (fun v33 S34 H locs hf h => ?_)
  refine lv_pop E.1 E.2.1 dX8_init_242 rfl ?_
  exact x_bretH E h hf ⟨Nat.le_of_ble_eq_true rfl, Nat.le_of_ble_eq_true rfl⟩ dX8_init_243
set_option maxHeartbeats 8000000 in
set_option maxRecDepth 100000 in
theorem c_X9_init (l : Launch) (D : va_G) (cy : Nat → ClassId) (s00 : State) (hG : XG s00) (S9 : XS) (hf : f_X9_init (xput (fun _ _ => 0) 0 13 (-1)) = some S9) : XN l yX9_init cX9_init 1 19 10 3526 D cy s00 7 [.null, .null, .null, .null, .null, .int 0, .int 0, .null, .null, .null, .int 0, .int 0, .int 0, .int 0, .null, .int 0, .int 0, .int 0, .int 0, .int 0, .int 0, .int 0, .null] shMod S9 := by
  refine XN.of (by decide) (Nat.le_of_ble_eq_true rfl) (fun a p e s m args below meth c A ls E hin hNW hB hl => ?_)
  refine lv_aload_n E.1 E.2.1 dX9_init_0 rfl (lv_at hl 0 rfl) ?_
  refine x_bobj E hl kw1308 kw148 kw149 (Nat.le_of_ble_eq_true rfl) (Nat.le_of_ble_eq_true rfl) dX9_init_1 ?_
  refine lv_aload_n E.1 E.2.1 dX9_init_4 rfl (lv_at hl 0 rfl) ?_
  refine lv_sipush (v := 186) E.1 E.2.1 dX9_init_5 (by decide) ?_
  refine x_bnewa (atype := .int) (ty := .int) (N' := 186) (f := .inl (fun _ => 0)) E hB 0 rfl rfl (fun _ _ h9 => h9) kw181 (fun _ => rfl) (by decide) rfl (Nat.le_of_ble_eq_true rfl) ⟨Nat.le_of_ble_eq_true rfl, Nat.le_of_ble_eq_true rfl⟩ dX9_init_8 (fun q1 H locs hB => ?_)
  have hB : XB D s00 (((a, .inr (7, [.null, .null, .null, .null, .null, .int 0, .int 0, .null, .null, .null, .int 0, .int 0, .int 0, .int 0, .null, .int 0, .int 0, .int 0, .int 0, .int 0, .int 0, .int 0, .null])) : Nat × va_E) :: ([] ++ [(q1, .inl (cy 0, 186, .inl (fun _ => 0)))])) A s H locs := hB
  refine x_bput (ty := .array .int) (v := .ref q1) E hin hB rfl 0 (by decide) xinX9 tyX9_ok nmX9 kw1610 (by decide +kernel) rfl rfl (Nat.le_of_ble_eq_true rfl) rfl dX9_init_10 (fun H locs hB => ?_)
  have hB : XB D s00 (((a, .inr (7, [.ref q1, .null, .null, .null, .null, .int 0, .int 0, .null, .null, .null, .int 0, .int 0, .int 0, .int 0, .null, .int 0, .int 0, .int 0, .int 0, .int 0, .int 0, .int 0, .null])) : Nat × va_E) :: ([] ++ [(q1, .inl (cy 0, 186, .inl (fun _ => 0)))])) A s H locs := hB
  refine lv_aload_n E.1 E.2.1 dX9_init_13 rfl (lv_at hl 0 rfl) ?_
  refine lv_sipush (v := 186) E.1 E.2.1 dX9_init_14 (by decide) ?_
  refine x_bnewa (atype := .int) (ty := .int) (N' := 186) (f := .inl (fun _ => 0)) E hB 0 rfl rfl (fun _ _ h9 => h9) kw181 (fun _ => rfl) (by decide) rfl (Nat.le_of_ble_eq_true rfl) ⟨Nat.le_of_ble_eq_true rfl, Nat.le_of_ble_eq_true rfl⟩ dX9_init_17 (fun q2 H locs hB => ?_)
  have hB : XB D s00 (((a, .inr (7, [.ref q1, .null, .null, .null, .null, .int 0, .int 0, .null, .null, .null, .int 0, .int 0, .int 0, .int 0, .null, .int 0, .int 0, .int 0, .int 0, .int 0, .int 0, .int 0, .null])) : Nat × va_E) :: (([] ++ [(q1, .inl (cy 0, 186, .inl (fun _ => 0)))]) ++ [(q2, .inl (cy 0, 186, .inl (fun _ => 0)))])) A s H locs := hB
  refine x_bput (ty := .array .int) (v := .ref q2) E hin hB rfl 1 (by decide) xinX9 tyX9_ok nmX9 kw1611 (by decide +kernel) rfl rfl (Nat.le_of_ble_eq_true rfl) rfl dX9_init_19 (fun H locs hB => ?_)
  have hB : XB D s00 (((a, .inr (7, [.ref q1, .ref q2, .null, .null, .null, .int 0, .int 0, .null, .null, .null, .int 0, .int 0, .int 0, .int 0, .null, .int 0, .int 0, .int 0, .int 0, .int 0, .int 0, .int 0, .null])) : Nat × va_E) :: (([] ++ [(q1, .inl (cy 0, 186, .inl (fun _ => 0)))]) ++ [(q2, .inl (cy 0, 186, .inl (fun _ => 0)))])) A s H locs := hB
  refine lv_aload_n E.1 E.2.1 dX9_init_22 rfl (lv_at hl 0 rfl) ?_
  refine lv_sipush (v := 186) E.1 E.2.1 dX9_init_23 (by decide) ?_
  refine x_bnewa (atype := .int) (ty := .int) (N' := 186) (f := .inl (fun _ => 0)) E hB 0 rfl rfl (fun _ _ h9 => h9) kw181 (fun _ => rfl) (by decide) rfl (Nat.le_of_ble_eq_true rfl) ⟨Nat.le_of_ble_eq_true rfl, Nat.le_of_ble_eq_true rfl⟩ dX9_init_26 (fun q3 H locs hB => ?_)
  have hB : XB D s00 (((a, .inr (7, [.ref q1, .ref q2, .null, .null, .null, .int 0, .int 0, .null, .null, .null, .int 0, .int 0, .int 0, .int 0, .null, .int 0, .int 0, .int 0, .int 0, .int 0, .int 0, .int 0, .null])) : Nat × va_E) :: ((([] ++ [(q1, .inl (cy 0, 186, .inl (fun _ => 0)))]) ++ [(q2, .inl (cy 0, 186, .inl (fun _ => 0)))]) ++ [(q3, .inl (cy 0, 186, .inl (fun _ => 0)))])) A s H locs := hB
  refine x_bput (ty := .array .int) (v := .ref q3) E hin hB rfl 2 (by decide) xinX9 tyX9_ok nmX9 kw1612 (by decide +kernel) rfl rfl (Nat.le_of_ble_eq_true rfl) rfl dX9_init_28 (fun H locs hB => ?_)
  have hB : XB D s00 (((a, .inr (7, [.ref q1, .ref q2, .ref q3, .null, .null, .int 0, .int 0, .null, .null, .null, .int 0, .int 0, .int 0, .int 0, .null, .int 0, .int 0, .int 0, .int 0, .int 0, .int 0, .int 0, .null])) : Nat × va_E) :: ((([] ++ [(q1, .inl (cy 0, 186, .inl (fun _ => 0)))]) ++ [(q2, .inl (cy 0, 186, .inl (fun _ => 0)))]) ++ [(q3, .inl (cy 0, 186, .inl (fun _ => 0)))])) A s H locs := hB
  refine lv_aload_n E.1 E.2.1 dX9_init_31 rfl (lv_at hl 0 rfl) ?_
  refine lv_sipush (v := 1488) E.1 E.2.1 dX9_init_32 (by decide) ?_
  refine x_bnewa (atype := .int) (ty := .int) (N' := 1488) (f := .inl (fun _ => 0)) E hB 0 rfl rfl (fun _ _ h9 => h9) kw181 (fun _ => rfl) (by decide) rfl (Nat.le_of_ble_eq_true rfl) ⟨Nat.le_of_ble_eq_true rfl, Nat.le_of_ble_eq_true rfl⟩ dX9_init_35 (fun q4 H locs hB => ?_)
  have hB : XB D s00 (((a, .inr (7, [.ref q1, .ref q2, .ref q3, .null, .null, .int 0, .int 0, .null, .null, .null, .int 0, .int 0, .int 0, .int 0, .null, .int 0, .int 0, .int 0, .int 0, .int 0, .int 0, .int 0, .null])) : Nat × va_E) :: (((([] ++ [(q1, .inl (cy 0, 186, .inl (fun _ => 0)))]) ++ [(q2, .inl (cy 0, 186, .inl (fun _ => 0)))]) ++ [(q3, .inl (cy 0, 186, .inl (fun _ => 0)))]) ++ [(q4, .inl (cy 0, 1488, .inl (fun _ => 0)))])) A s H locs := hB
  refine x_bput (ty := .array .int) (v := .ref q4) E hin hB rfl 3 (by decide) xinX9 tyX9_ok nmX9 kw1613 (by decide +kernel) rfl rfl (Nat.le_of_ble_eq_true rfl) rfl dX9_init_37 (fun H locs hB => ?_)
  have hB : XB D s00 (((a, .inr (7, [.ref q1, .ref q2, .ref q3, .ref q4, .null, .int 0, .int 0, .null, .null, .null, .int 0, .int 0, .int 0, .int 0, .null, .int 0, .int 0, .int 0, .int 0, .int 0, .int 0, .int 0, .null])) : Nat × va_E) :: (((([] ++ [(q1, .inl (cy 0, 186, .inl (fun _ => 0)))]) ++ [(q2, .inl (cy 0, 186, .inl (fun _ => 0)))]) ++ [(q3, .inl (cy 0, 186, .inl (fun _ => 0)))]) ++ [(q4, .inl (cy 0, 1488, .inl (fun _ => 0)))])) A s H locs := hB
  refine lv_aload_n E.1 E.2.1 dX9_init_40 rfl (lv_at hl 0 rfl) ?_
  refine lv_sipush (v := 186) E.1 E.2.1 dX9_init_41 (by decide) ?_
  refine x_bnewa (atype := .int) (ty := .int) (N' := 186) (f := .inl (fun _ => 0)) E hB 0 rfl rfl (fun _ _ h9 => h9) kw181 (fun _ => rfl) (by decide) rfl (Nat.le_of_ble_eq_true rfl) ⟨Nat.le_of_ble_eq_true rfl, Nat.le_of_ble_eq_true rfl⟩ dX9_init_44 (fun q5 H locs hB => ?_)
  have hB : XB D s00 (((a, .inr (7, [.ref q1, .ref q2, .ref q3, .ref q4, .null, .int 0, .int 0, .null, .null, .null, .int 0, .int 0, .int 0, .int 0, .null, .int 0, .int 0, .int 0, .int 0, .int 0, .int 0, .int 0, .null])) : Nat × va_E) :: ((((([] ++ [(q1, .inl (cy 0, 186, .inl (fun _ => 0)))]) ++ [(q2, .inl (cy 0, 186, .inl (fun _ => 0)))]) ++ [(q3, .inl (cy 0, 186, .inl (fun _ => 0)))]) ++ [(q4, .inl (cy 0, 1488, .inl (fun _ => 0)))]) ++ [(q5, .inl (cy 0, 186, .inl (fun _ => 0)))])) A s H locs := hB
  refine x_bput (ty := .array .int) (v := .ref q5) E hin hB rfl 4 (by decide) xinX9 tyX9_ok nmX9 kw1614 (by decide +kernel) rfl rfl (Nat.le_of_ble_eq_true rfl) rfl dX9_init_46 (fun H locs hB => ?_)
  have hB : XB D s00 (((a, .inr (7, [.ref q1, .ref q2, .ref q3, .ref q4, .ref q5, .int 0, .int 0, .null, .null, .null, .int 0, .int 0, .int 0, .int 0, .null, .int 0, .int 0, .int 0, .int 0, .int 0, .int 0, .int 0, .null])) : Nat × va_E) :: ((((([] ++ [(q1, .inl (cy 0, 186, .inl (fun _ => 0)))]) ++ [(q2, .inl (cy 0, 186, .inl (fun _ => 0)))]) ++ [(q3, .inl (cy 0, 186, .inl (fun _ => 0)))]) ++ [(q4, .inl (cy 0, 1488, .inl (fun _ => 0)))]) ++ [(q5, .inl (cy 0, 186, .inl (fun _ => 0)))])) A s H locs := hB
  refine lv_aload_n E.1 E.2.1 dX9_init_49 rfl (lv_at hl 0 rfl) ?_
  refine lv_sipush (v := 600) E.1 E.2.1 dX9_init_50 (by decide) ?_
  refine x_bnewa (atype := .int) (ty := .int) (N' := 600) (f := .inl (fun _ => 0)) E hB 0 rfl rfl (fun _ _ h9 => h9) kw181 (fun _ => rfl) (by decide) rfl (Nat.le_of_ble_eq_true rfl) ⟨Nat.le_of_ble_eq_true rfl, Nat.le_of_ble_eq_true rfl⟩ dX9_init_53 (fun q6 H locs hB => ?_)
  have hB : XB D s00 (((a, .inr (7, [.ref q1, .ref q2, .ref q3, .ref q4, .ref q5, .int 0, .int 0, .null, .null, .null, .int 0, .int 0, .int 0, .int 0, .null, .int 0, .int 0, .int 0, .int 0, .int 0, .int 0, .int 0, .null])) : Nat × va_E) :: (((((([] ++ [(q1, .inl (cy 0, 186, .inl (fun _ => 0)))]) ++ [(q2, .inl (cy 0, 186, .inl (fun _ => 0)))]) ++ [(q3, .inl (cy 0, 186, .inl (fun _ => 0)))]) ++ [(q4, .inl (cy 0, 1488, .inl (fun _ => 0)))]) ++ [(q5, .inl (cy 0, 186, .inl (fun _ => 0)))]) ++ [(q6, .inl (cy 0, 600, .inl (fun _ => 0)))])) A s H locs := hB
  refine x_bput (ty := .array .int) (v := .ref q6) E hin hB rfl 7 (by decide) xinX9 tyX9_ok nmX9 kw1617 (by decide +kernel) rfl rfl (Nat.le_of_ble_eq_true rfl) rfl dX9_init_55 (fun H locs hB => ?_)
  have hB : XB D s00 (((a, .inr (7, [.ref q1, .ref q2, .ref q3, .ref q4, .ref q5, .int 0, .int 0, .ref q6, .null, .null, .int 0, .int 0, .int 0, .int 0, .null, .int 0, .int 0, .int 0, .int 0, .int 0, .int 0, .int 0, .null])) : Nat × va_E) :: (((((([] ++ [(q1, .inl (cy 0, 186, .inl (fun _ => 0)))]) ++ [(q2, .inl (cy 0, 186, .inl (fun _ => 0)))]) ++ [(q3, .inl (cy 0, 186, .inl (fun _ => 0)))]) ++ [(q4, .inl (cy 0, 1488, .inl (fun _ => 0)))]) ++ [(q5, .inl (cy 0, 186, .inl (fun _ => 0)))]) ++ [(q6, .inl (cy 0, 600, .inl (fun _ => 0)))])) A s H locs := hB
  refine lv_aload_n E.1 E.2.1 dX9_init_58 rfl (lv_at hl 0 rfl) ?_
  refine lv_sipush (v := 600) E.1 E.2.1 dX9_init_59 (by decide) ?_
  refine x_bnewa (atype := .int) (ty := .int) (N' := 600) (f := .inl (fun _ => 0)) E hB 0 rfl rfl (fun _ _ h9 => h9) kw181 (fun _ => rfl) (by decide) rfl (Nat.le_of_ble_eq_true rfl) ⟨Nat.le_of_ble_eq_true rfl, Nat.le_of_ble_eq_true rfl⟩ dX9_init_62 (fun q7 H locs hB => ?_)
  have hB : XB D s00 (((a, .inr (7, [.ref q1, .ref q2, .ref q3, .ref q4, .ref q5, .int 0, .int 0, .ref q6, .null, .null, .int 0, .int 0, .int 0, .int 0, .null, .int 0, .int 0, .int 0, .int 0, .int 0, .int 0, .int 0, .null])) : Nat × va_E) :: ((((((([] ++ [(q1, .inl (cy 0, 186, .inl (fun _ => 0)))]) ++ [(q2, .inl (cy 0, 186, .inl (fun _ => 0)))]) ++ [(q3, .inl (cy 0, 186, .inl (fun _ => 0)))]) ++ [(q4, .inl (cy 0, 1488, .inl (fun _ => 0)))]) ++ [(q5, .inl (cy 0, 186, .inl (fun _ => 0)))]) ++ [(q6, .inl (cy 0, 600, .inl (fun _ => 0)))]) ++ [(q7, .inl (cy 0, 600, .inl (fun _ => 0)))])) A s H locs := hB
  refine x_bput (ty := .array .int) (v := .ref q7) E hin hB rfl 8 (by decide) xinX9 tyX9_ok nmX9 kw1618 (by decide +kernel) rfl rfl (Nat.le_of_ble_eq_true rfl) rfl dX9_init_64 (fun H locs hB => ?_)
  have hB : XB D s00 (((a, .inr (7, [.ref q1, .ref q2, .ref q3, .ref q4, .ref q5, .int 0, .int 0, .ref q6, .ref q7, .null, .int 0, .int 0, .int 0, .int 0, .null, .int 0, .int 0, .int 0, .int 0, .int 0, .int 0, .int 0, .null])) : Nat × va_E) :: ((((((([] ++ [(q1, .inl (cy 0, 186, .inl (fun _ => 0)))]) ++ [(q2, .inl (cy 0, 186, .inl (fun _ => 0)))]) ++ [(q3, .inl (cy 0, 186, .inl (fun _ => 0)))]) ++ [(q4, .inl (cy 0, 1488, .inl (fun _ => 0)))]) ++ [(q5, .inl (cy 0, 186, .inl (fun _ => 0)))]) ++ [(q6, .inl (cy 0, 600, .inl (fun _ => 0)))]) ++ [(q7, .inl (cy 0, 600, .inl (fun _ => 0)))])) A s H locs := hB
  refine lv_aload_n E.1 E.2.1 dX9_init_67 rfl (lv_at hl 0 rfl) ?_
  refine lv_bipush (v := 10) E.1 E.2.1 dX9_init_68 (by decide) ?_
  refine x_bnewa (atype := .int) (ty := .int) (N' := 10) (f := .inl (fun _ => 0)) E hB 0 rfl rfl (fun _ _ h9 => h9) kw181 (fun _ => rfl) (by decide) rfl (Nat.le_of_ble_eq_true rfl) ⟨Nat.le_of_ble_eq_true rfl, Nat.le_of_ble_eq_true rfl⟩ dX9_init_70 (fun q8 H locs hB => ?_)
  have hB : XB D s00 (((a, .inr (7, [.ref q1, .ref q2, .ref q3, .ref q4, .ref q5, .int 0, .int 0, .ref q6, .ref q7, .null, .int 0, .int 0, .int 0, .int 0, .null, .int 0, .int 0, .int 0, .int 0, .int 0, .int 0, .int 0, .null])) : Nat × va_E) :: (((((((([] ++ [(q1, .inl (cy 0, 186, .inl (fun _ => 0)))]) ++ [(q2, .inl (cy 0, 186, .inl (fun _ => 0)))]) ++ [(q3, .inl (cy 0, 186, .inl (fun _ => 0)))]) ++ [(q4, .inl (cy 0, 1488, .inl (fun _ => 0)))]) ++ [(q5, .inl (cy 0, 186, .inl (fun _ => 0)))]) ++ [(q6, .inl (cy 0, 600, .inl (fun _ => 0)))]) ++ [(q7, .inl (cy 0, 600, .inl (fun _ => 0)))]) ++ [(q8, .inl (cy 0, 10, .inl (fun _ => 0)))])) A s H locs := hB
  refine x_bput (ty := .array .int) (v := .ref q8) E hin hB rfl 9 (by decide) xinX9 tyX9_ok nmX9 kw1619 (by decide +kernel) rfl rfl (Nat.le_of_ble_eq_true rfl) rfl dX9_init_72 (fun H locs hB => ?_)
  have hB : XB D s00 (((a, .inr (7, [.ref q1, .ref q2, .ref q3, .ref q4, .ref q5, .int 0, .int 0, .ref q6, .ref q7, .ref q8, .int 0, .int 0, .int 0, .int 0, .null, .int 0, .int 0, .int 0, .int 0, .int 0, .int 0, .int 0, .null])) : Nat × va_E) :: (((((((([] ++ [(q1, .inl (cy 0, 186, .inl (fun _ => 0)))]) ++ [(q2, .inl (cy 0, 186, .inl (fun _ => 0)))]) ++ [(q3, .inl (cy 0, 186, .inl (fun _ => 0)))]) ++ [(q4, .inl (cy 0, 1488, .inl (fun _ => 0)))]) ++ [(q5, .inl (cy 0, 186, .inl (fun _ => 0)))]) ++ [(q6, .inl (cy 0, 600, .inl (fun _ => 0)))]) ++ [(q7, .inl (cy 0, 600, .inl (fun _ => 0)))]) ++ [(q8, .inl (cy 0, 10, .inl (fun _ => 0)))])) A s H locs := hB
  refine lv_aload_n E.1 E.2.1 dX9_init_75 rfl (lv_at hl 0 rfl) ?_
  refine lv_iconst (v := (-1)) E.1 E.2.1 dX9_init_76 (by decide) ?_
  refine x_bput (ty := .int) (v := .int (-1)) E hin hB rfl 13 (by decide) xinX9 tyX9_ok nmX9 kw1623 (by decide +kernel) (by decide) (by decide) (Nat.le_of_ble_eq_true rfl) rfl dX9_init_77 (fun H locs hB => ?_)
  have hB : XB D s00 (((a, .inr (7, [.ref q1, .ref q2, .ref q3, .ref q4, .ref q5, .int 0, .int 0, .ref q6, .ref q7, .ref q8, .int 0, .int 0, .int 0, .int (-1), .null, .int 0, .int 0, .int 0, .int 0, .int 0, .int 0, .int 0, .null])) : Nat × va_E) :: (((((((([] ++ [(q1, .inl (cy 0, 186, .inl (fun _ => 0)))]) ++ [(q2, .inl (cy 0, 186, .inl (fun _ => 0)))]) ++ [(q3, .inl (cy 0, 186, .inl (fun _ => 0)))]) ++ [(q4, .inl (cy 0, 1488, .inl (fun _ => 0)))]) ++ [(q5, .inl (cy 0, 186, .inl (fun _ => 0)))]) ++ [(q6, .inl (cy 0, 600, .inl (fun _ => 0)))]) ++ [(q7, .inl (cy 0, 600, .inl (fun _ => 0)))]) ++ [(q8, .inl (cy 0, 10, .inl (fun _ => 0)))])) A s H locs := hB
  refine lv_aload_n E.1 E.2.1 dX9_init_80 rfl (lv_at hl 0 rfl) ?_
  refine lv_bipush (v := 80) E.1 E.2.1 dX9_init_81 (by decide) ?_
  refine x_bnewa (atype := .char) (ty := .char) (N' := 80) (f := .inl (fun _ => 0)) E hB 2 rfl rfl (fun _ _ h9 => h9) kw1680 (fun _ => rfl) (by decide) rfl (Nat.le_of_ble_eq_true rfl) ⟨Nat.le_of_ble_eq_true rfl, Nat.le_of_ble_eq_true rfl⟩ dX9_init_83 (fun q9 H locs hB => ?_)
  have hB : XB D s00 (((a, .inr (7, [.ref q1, .ref q2, .ref q3, .ref q4, .ref q5, .int 0, .int 0, .ref q6, .ref q7, .ref q8, .int 0, .int 0, .int 0, .int (-1), .null, .int 0, .int 0, .int 0, .int 0, .int 0, .int 0, .int 0, .null])) : Nat × va_E) :: ((((((((([] ++ [(q1, .inl (cy 0, 186, .inl (fun _ => 0)))]) ++ [(q2, .inl (cy 0, 186, .inl (fun _ => 0)))]) ++ [(q3, .inl (cy 0, 186, .inl (fun _ => 0)))]) ++ [(q4, .inl (cy 0, 1488, .inl (fun _ => 0)))]) ++ [(q5, .inl (cy 0, 186, .inl (fun _ => 0)))]) ++ [(q6, .inl (cy 0, 600, .inl (fun _ => 0)))]) ++ [(q7, .inl (cy 0, 600, .inl (fun _ => 0)))]) ++ [(q8, .inl (cy 0, 10, .inl (fun _ => 0)))]) ++ [(q9, .inl (cy 2, 80, .inl (fun _ => 0)))])) A s H locs := hB
  refine x_bput (ty := .array .char) (v := .ref q9) E hin hB rfl 14 (by decide) xinX9 tyX9_ok nmX9 kw1624 (by decide +kernel) rfl rfl (Nat.le_of_ble_eq_true rfl) rfl dX9_init_85 (fun H locs hB => ?_)
  have hB : XB D s00 (((a, .inr (7, [.ref q1, .ref q2, .ref q3, .ref q4, .ref q5, .int 0, .int 0, .ref q6, .ref q7, .ref q8, .int 0, .int 0, .int 0, .int (-1), .ref q9, .int 0, .int 0, .int 0, .int 0, .int 0, .int 0, .int 0, .null])) : Nat × va_E) :: ((((((((([] ++ [(q1, .inl (cy 0, 186, .inl (fun _ => 0)))]) ++ [(q2, .inl (cy 0, 186, .inl (fun _ => 0)))]) ++ [(q3, .inl (cy 0, 186, .inl (fun _ => 0)))]) ++ [(q4, .inl (cy 0, 1488, .inl (fun _ => 0)))]) ++ [(q5, .inl (cy 0, 186, .inl (fun _ => 0)))]) ++ [(q6, .inl (cy 0, 600, .inl (fun _ => 0)))]) ++ [(q7, .inl (cy 0, 600, .inl (fun _ => 0)))]) ++ [(q8, .inl (cy 0, 10, .inl (fun _ => 0)))]) ++ [(q9, .inl (cy 2, 80, .inl (fun _ => 0)))])) A s H locs := hB
  refine lv_aload_n E.1 E.2.1 dX9_init_88 rfl (lv_at hl 0 rfl) ?_
  refine lv_iconst (v := 4) E.1 E.2.1 dX9_init_89 (by decide) ?_
  refine x_bnewa (atype := .int) (ty := .int) (N' := 4) (f := .inl (fun _ => 0)) E hB 0 rfl rfl (fun _ _ h9 => h9) kw181 (fun _ => rfl) (by decide) rfl (Nat.le_of_ble_eq_true rfl) ⟨Nat.le_of_ble_eq_true rfl, Nat.le_of_ble_eq_true rfl⟩ dX9_init_90 (fun q10 H locs hB => ?_)
  have hB : XB D s00 (((a, .inr (7, [.ref q1, .ref q2, .ref q3, .ref q4, .ref q5, .int 0, .int 0, .ref q6, .ref q7, .ref q8, .int 0, .int 0, .int 0, .int (-1), .ref q9, .int 0, .int 0, .int 0, .int 0, .int 0, .int 0, .int 0, .null])) : Nat × va_E) :: (((((((((([] ++ [(q1, .inl (cy 0, 186, .inl (fun _ => 0)))]) ++ [(q2, .inl (cy 0, 186, .inl (fun _ => 0)))]) ++ [(q3, .inl (cy 0, 186, .inl (fun _ => 0)))]) ++ [(q4, .inl (cy 0, 1488, .inl (fun _ => 0)))]) ++ [(q5, .inl (cy 0, 186, .inl (fun _ => 0)))]) ++ [(q6, .inl (cy 0, 600, .inl (fun _ => 0)))]) ++ [(q7, .inl (cy 0, 600, .inl (fun _ => 0)))]) ++ [(q8, .inl (cy 0, 10, .inl (fun _ => 0)))]) ++ [(q9, .inl (cy 2, 80, .inl (fun _ => 0)))]) ++ [(q10, .inl (cy 0, 4, .inl (fun _ => 0)))])) A s H locs := hB
  refine x_bput (ty := .array .int) (v := .ref q10) E hin hB rfl 22 (by decide) xinX9 tyX9_ok nmX9 kw1632 (by decide +kernel) rfl rfl (Nat.le_of_ble_eq_true rfl) rfl dX9_init_92 (fun H locs hB => ?_)
  have hB : XB D s00 (((a, .inr (7, [.ref q1, .ref q2, .ref q3, .ref q4, .ref q5, .int 0, .int 0, .ref q6, .ref q7, .ref q8, .int 0, .int 0, .int 0, .int (-1), .ref q9, .int 0, .int 0, .int 0, .int 0, .int 0, .int 0, .int 0, .ref q10])) : Nat × va_E) :: (((((((((([] ++ [(q1, .inl (cy 0, 186, .inl (fun _ => 0)))]) ++ [(q2, .inl (cy 0, 186, .inl (fun _ => 0)))]) ++ [(q3, .inl (cy 0, 186, .inl (fun _ => 0)))]) ++ [(q4, .inl (cy 0, 1488, .inl (fun _ => 0)))]) ++ [(q5, .inl (cy 0, 186, .inl (fun _ => 0)))]) ++ [(q6, .inl (cy 0, 600, .inl (fun _ => 0)))]) ++ [(q7, .inl (cy 0, 600, .inl (fun _ => 0)))]) ++ [(q8, .inl (cy 0, 10, .inl (fun _ => 0)))]) ++ [(q9, .inl (cy 2, 80, .inl (fun _ => 0)))]) ++ [(q10, .inl (cy 0, 4, .inl (fun _ => 0)))])) A s H locs := hB
  have h9 : XB D s00 (xw cy (fun i => ([a, q1, q2, q3, q4, q5, q6, q7, q8, q9, q10] : List Nat).getD (i - 0) 0) (xput (fun _ _ => 0) 0 13 (-1)) 0 shMod) A s H locs := hB
  obtain ⟨ad, had, h⟩ : ∃ ad : Nat → Nat, ad 0 = a ∧ XH D cy s00 shMod ad (xput (fun _ _ => 0) 0 13 (-1)) A s H locs := ⟨_, rfl, h9⟩
  subst had
  clear h9 hB
  unfold f_X9_init at hf
  generalize (xput (fun _ _ => 0) 0 13 (-1)) = S at h hf
  refine lv_aload_n E.1 E.2.1 dX9_init_95 rfl (lv_at hl 0 rfl) ?_
  refine x_ldcS hG E 9 (byt := lb9) rfl dX9_init_96 (fun aK1 aV1 g1 => ?_)
  refine x_callv E h hl 0 hf (fun r0 hr => c_X9_tell l D cy s00 _ hG g1 (by decide) S  r0 hr) m_X9_tell rfl rfl kw1310 rfl rfl (Nat.le_of_ble_eq_true rfl) ⟨by decide, by decide⟩ ⟨Nat.le_of_ble_eq_true rfl, Nat.le_of_ble_eq_true rfl⟩ dX9_init_98 (fun S2 H locs hf h => ?_)
  refine lv_aload_n E.1 E.2.1 dX9_init_101 rfl (lv_at hl 0 rfl) ?_
  refine x_ldcS hG E 10 (byt := lb10) rfl dX9_init_102 (fun aK3 aV3 g3 => ?_)
  refine x_callv E h hl 0 hf (fun r0 hr => c_X9_tell l D cy s00 _ hG g3 (by decide) S2  r0 hr) m_X9_tell rfl rfl kw1310 rfl rfl (Nat.le_of_ble_eq_true rfl) ⟨by decide, by decide⟩ ⟨Nat.le_of_ble_eq_true rfl, Nat.le_of_ble_eq_true rfl⟩ dX9_init_104 (fun S4 H locs hf h => ?_)
  refine lv_aload_n E.1 E.2.1 dX9_init_107 rfl (lv_at hl 0 rfl) ?_
  refine x_calli E h hl 0 hf (fun r0 Sq0 hr => c_X9_parses l D cy s00 _ hG S4  r0 Sq0 hr) m_X9_parses rfl rfl kw1317 rfl rfl (Nat.le_of_ble_eq_true rfl) ⟨by decide, by decide⟩ ⟨Nat.le_of_ble_eq_true rfl, Nat.le_of_ble_eq_true rfl⟩ dX9_init_108 (fun v5 S6 H locs hf h => ?_)
  refine lv_pop E.1 E.2.1 dX9_init_111 rfl ?_
  refine lv_aload_n E.1 E.2.1 dX9_init_112 rfl (lv_at hl 0 rfl) ?_
  refine lv_iconst (v := 0) E.1 E.2.1 dX9_init_113 (by decide) ?_
  refine x_put (ty := .int) E h 0 16 hf rfl rfl rfl (by decide) xinX9 tyX9_ok nmX9 kw1626 rfl (by decide +kernel) rfl rfl dX9_init_114 (fun S7 H locs hf h => ?_)
  exact x_bretH E h hf ⟨Nat.le_of_ble_eq_true rfl, Nat.le_of_ble_eq_true rfl⟩ dX9_init_117
