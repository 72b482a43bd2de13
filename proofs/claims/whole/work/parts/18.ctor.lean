theorem kw161 : Cond.methodLink RX3 3 Lib.objectInit ∈ lwX := kw 161 (by decide +kernel) (by decide +kernel)
theorem kw148 : Cond.instanceMethod Lib.objectInit ∈ lwX := kw 148 (by decide +kernel) (by decide +kernel)
theorem kw149 : Cond.code Lib.objectInit ⟨#[0xb1]⟩ 1 none ∈ lwX := kw 149 (by decide +kernel) (by decide +kernel)
theorem kw181 : Cond.arrayClass (newarray.typeOf .int) ∈ lwX := kw 181 (by decide +kernel) (by decide +kernel)
theorem kw155 : Cond.methodLink RX6 3 Lib.objectInit ∈ lwX := kw 155 (by decide +kernel) (by decide +kernel)
theorem kw156 : Cond.classLink RX6 61 "RooftopCats$Kitten" ∈ lwX := kw 156 (by decide +kernel) (by decide +kernel)
theorem kw157 : Cond.instantiable "RooftopCats$Kitten" 4 ∈ lwX := kw 157 (by decide +kernel) (by decide +kernel)
theorem kw159 : Cond.instanceMethod yX3_init ∈ lwX := kw 159 (by decide +kernel) (by decide +kernel)
theorem kw160 : Cond.code yX3_init cX3_init 1 none ∈ lwX := kw 160 (by decide +kernel) (by decide +kernel)
theorem kw285 : Cond.methodLink RX4 3 Lib.objectInit ∈ lwX := kw 285 (by decide +kernel) (by decide +kernel)
theorem kw310 : Cond.arrayClass (newarray.typeOf .byte) ∈ lwX := kw 310 (by decide +kernel) (by decide +kernel)
theorem kw353 : Cond.methodLink RX5 3 Lib.objectInit ∈ lwX := kw 353 (by decide +kernel) (by decide +kernel)
theorem kw279 : Cond.methodLink RX7 3 Lib.objectInit ∈ lwX := kw 279 (by decide +kernel) (by decide +kernel)
theorem kw280 : Cond.classLink RX7 9 "RooftopCats$Reader" ∈ lwX := kw 280 (by decide +kernel) (by decide +kernel)
theorem kw281 : Cond.instantiable "RooftopCats$Reader" 6 ∈ lwX := kw 281 (by decide +kernel) (by decide +kernel)
theorem kw283 : Cond.instanceMethod yX4_init ∈ lwX := kw 283 (by decide +kernel) (by decide +kernel)
theorem kw284 : Cond.code yX4_init cX4_init 1 none ∈ lwX := kw 284 (by decide +kernel) (by decide +kernel)
theorem kw311 : Cond.classLink RX7 18 "RooftopCats$Roof" ∈ lwX := kw 311 (by decide +kernel) (by decide +kernel)
theorem kw151 : Cond.instantiable "RooftopCats$Roof" 17 ∈ lwX := kw 151 (by decide +kernel) (by decide +kernel)
theorem kw153 : Cond.instanceMethod yX6_init ∈ lwX := kw 153 (by decide +kernel) (by decide +kernel)
theorem kw154 : Cond.code yX6_init cX6_init 1 none ∈ lwX := kw 154 (by decide +kernel) (by decide +kernel)
theorem kw259 : Cond.methodLink RX2 3 Lib.objectInit ∈ lwX := kw 259 (by decide +kernel) (by decide +kernel)
theorem kw260 : Cond.classLink RX2 9 "RooftopCats$Roof" ∈ lwX := kw 260 (by decide +kernel) (by decide +kernel)
set_option maxHeartbeats 4000000 in
set_option maxRecDepth 100000 in
theorem c_X3_init (l : Launch) (D : va_G) (cy : Nat → ClassId) (s00 : State) : XN l yX3_init cX3_init 1 1 1 8 D cy s00 1 [.int 0, .int 0, .int 0, .null] shKit (fun _ _ => 0) := by
  refine XN.of (by decide) (Nat.le_of_ble_eq_true rfl) (fun a p e s m args below meth c A ls E hin hNW hB hl => ?_)
  refine lv_aload_n E.1 E.2.1 dX3_init_0 rfl (lv_at hl 0 rfl) ?_
  refine x_bobj E hl kw161 kw148 kw149 (Nat.le_of_ble_eq_true rfl) (Nat.le_of_ble_eq_true rfl) dX3_init_1 ?_
  refine lv_aload_n E.1 E.2.1 dX3_init_4 rfl (lv_at hl 0 rfl) ?_
  refine lv_iconst (v := 0) E.1 E.2.1 dX3_init_5 (by decide) ?_
  refine x_bput (ty := .boolean) (v := .int 0) E hin hB rfl 0 (by decide) xinX3 tyX3_ok nmX3 kw162 (by decide +kernel) (by decide) (by decide) (Nat.le_of_ble_eq_true rfl) rfl dX3_init_6 (fun H locs hB => ?_)
  have hB : XB D s00 (((a, .inr (1, [.int 0, .int 0, .int 0, .null])) : Nat × va_E) :: []) A s H locs := hB
  refine lv_aload_n E.1 E.2.1 dX3_init_9 rfl (lv_at hl 0 rfl) ?_
  refine lv_iconst (v := 0) E.1 E.2.1 dX3_init_10 (by decide) ?_
  refine x_bput (ty := .int) (v := .int 0) E hin hB rfl 1 (by decide) xinX3 tyX3_ok nmX3 kw165 (by decide +kernel) (by decide) (by decide) (Nat.le_of_ble_eq_true rfl) rfl dX3_init_11 (fun H locs hB => ?_)
  have hB : XB D s00 (((a, .inr (1, [.int 0, .int 0, .int 0, .null])) : Nat × va_E) :: []) A s H locs := hB
  refine lv_aload_n E.1 E.2.1 dX3_init_14 rfl (lv_at hl 0 rfl) ?_
  refine lv_iconst (v := 0) E.1 E.2.1 dX3_init_15 (by decide) ?_
  refine x_bput (ty := .int) (v := .int 0) E hin hB rfl 2 (by decide) xinX3 tyX3_ok nmX3 kw167 (by decide +kernel) (by decide) (by decide) (Nat.le_of_ble_eq_true rfl) rfl dX3_init_16 (fun H locs hB => ?_)
  have hB : XB D s00 (((a, .inr (1, [.int 0, .int 0, .int 0, .null])) : Nat × va_E) :: []) A s H locs := hB
  refine lv_aload_n E.1 E.2.1 dX3_init_19 rfl (lv_at hl 0 rfl) ?_
  refine lv_bipush (v := 8) E.1 E.2.1 dX3_init_20 (by decide) ?_
  refine x_bnewa (atype := .int) (ty := .int) (N' := 8) (f := .inl (fun _ => 0)) E hB 0 rfl rfl (fun _ _ h9 => h9) kw181 (fun _ => rfl) (by decide) rfl (Nat.le_of_ble_eq_true rfl) ⟨Nat.le_of_ble_eq_true rfl, Nat.le_of_ble_eq_true rfl⟩ dX3_init_22 (fun q1 H locs hB => ?_)
  have hB : XB D s00 (((a, .inr (1, [.int 0, .int 0, .int 0, .null])) : Nat × va_E) :: ([] ++ [(q1, .inl (cy 0, 8, .inl (fun _ => 0)))])) A s H locs := hB
  refine x_bput (ty := .array .int) (v := .ref q1) E hin hB rfl 3 (by decide) xinX3 tyX3_ok nmX3 kw169 (by decide +kernel) rfl rfl (Nat.le_of_ble_eq_true rfl) rfl dX3_init_24 (fun H locs hB => ?_)
  have hB : XB D s00 (((a, .inr (1, [.int 0, .int 0, .int 0, .ref q1])) : Nat × va_E) :: ([] ++ [(q1, .inl (cy 0, 8, .inl (fun _ => 0)))])) A s H locs := hB
  exact x_bret (ad := (fun i => ([a, q1] : List Nat).getD (i - 0) 0)) (S0 := (fun _ _ => 0)) E hB (rfl) rfl ⟨Nat.le_of_ble_eq_true rfl, Nat.le_of_ble_eq_true rfl⟩ dX3_init_27
set_option maxHeartbeats 4000000 in
set_option maxRecDepth 100000 in
theorem c_X6_init (l : Launch) (D : va_G) (cy : Nat → ClassId) (s00 : State) : XN l yX6_init cX6_init 1 2 12 188 D cy s00 4 [.int 0, .null, .null, .int 0, .null, .null, .null, .int 0, .null, .null, .null, .null, .null, .int 0, .int 0, .int 0, .null] shRoof (fun _ _ => 0) := by
  refine XN.of (by decide) (Nat.le_of_ble_eq_true rfl) (fun a p e s m args below meth c A ls E hin hNW hB hl => ?_)
  refine lv_aload_n E.1 E.2.1 dX6_init_0 rfl (lv_at hl 0 rfl) ?_
  refine x_bobj E hl kw155 kw148 kw149 (Nat.le_of_ble_eq_true rfl) (Nat.le_of_ble_eq_true rfl) dX6_init_1 ?_
  refine lv_aload_n E.1 E.2.1 dX6_init_4 rfl (lv_at hl 0 rfl) ?_
  refine lv_iconst (v := 0) E.1 E.2.1 dX6_init_5 (by decide) ?_
  refine x_bput (ty := .int) (v := .int 0) E hin hB rfl 0 (by decide) xinX6 tyX6_ok nmX6 kw182 (by decide +kernel) (by decide) (by decide) (Nat.le_of_ble_eq_true rfl) rfl dX6_init_6 (fun H locs hB => ?_)
  have hB : XB D s00 (((a, .inr (4, [.int 0, .null, .null, .int 0, .null, .null, .null, .int 0, .null, .null, .null, .null, .null, .int 0, .int 0, .int 0, .null])) : Nat × va_E) :: []) A s H locs := hB
  refine lv_aload_n E.1 E.2.1 dX6_init_9 rfl (lv_at hl 0 rfl) ?_
  refine lv_bipush (v := 10) E.1 E.2.1 dX6_init_10 (by decide) ?_
  refine x_bnewa (atype := .int) (ty := .int) (N' := 10) (f := .inl (fun _ => 0)) E hB 0 rfl rfl (fun _ _ h9 => h9) kw181 (fun _ => rfl) (by decide) rfl (Nat.le_of_ble_eq_true rfl) ⟨Nat.le_of_ble_eq_true rfl, Nat.le_of_ble_eq_true rfl⟩ dX6_init_12 (fun q1 H locs hB => ?_)
  have hB : XB D s00 (((a, .inr (4, [.int 0, .null, .null, .int 0, .null, .null, .null, .int 0, .null, .null, .null, .null, .null, .int 0, .int 0, .int 0, .null])) : Nat × va_E) :: ([] ++ [(q1, .inl (cy 0, 10, .inl (fun _ => 0)))])) A s H locs := hB
  refine x_bput (ty := .array .int) (v := .ref q1) E hin hB rfl 1 (by decide) xinX6 tyX6_ok nmX6 kw186 (by decide +kernel) rfl rfl (Nat.le_of_ble_eq_true rfl) rfl dX6_init_14 (fun H locs hB => ?_)
  have hB : XB D s00 (((a, .inr (4, [.int 0, .ref q1, .null, .int 0, .null, .null, .null, .int 0, .null, .null, .null, .null, .null, .int 0, .int 0, .int 0, .null])) : Nat × va_E) :: ([] ++ [(q1, .inl (cy 0, 10, .inl (fun _ => 0)))])) A s H locs := hB
  refine lv_aload_n E.1 E.2.1 dX6_init_17 rfl (lv_at hl 0 rfl) ?_
  refine lv_bipush (v := 10) E.1 E.2.1 dX6_init_18 (by decide) ?_
  refine x_bnewa (atype := .int) (ty := .int) (N' := 10) (f := .inl (fun _ => 0)) E hB 0 rfl rfl (fun _ _ h9 => h9) kw181 (fun _ => rfl) (by decide) rfl (Nat.le_of_ble_eq_true rfl) ⟨Nat.le_of_ble_eq_true rfl, Nat.le_of_ble_eq_true rfl⟩ dX6_init_20 (fun q2 H locs hB => ?_)
  have hB : XB D s00 (((a, .inr (4, [.int 0, .ref q1, .null, .int 0, .null, .null, .null, .int 0, .null, .null, .null, .null, .null, .int 0, .int 0, .int 0, .null])) : Nat × va_E) :: (([] ++ [(q1, .inl (cy 0, 10, .inl (fun _ => 0)))]) ++ [(q2, .inl (cy 0, 10, .inl (fun _ => 0)))])) A s H locs := hB
  refine x_bput (ty := .array .int) (v := .ref q2) E hin hB rfl 2 (by decide) xinX6 tyX6_ok nmX6 kw189 (by decide +kernel) rfl rfl (Nat.le_of_ble_eq_true rfl) rfl dX6_init_22 (fun H locs hB => ?_)
  have hB : XB D s00 (((a, .inr (4, [.int 0, .ref q1, .ref q2, .int 0, .null, .null, .null, .int 0, .null, .null, .null, .null, .null, .int 0, .int 0, .int 0, .null])) : Nat × va_E) :: (([] ++ [(q1, .inl (cy 0, 10, .inl (fun _ => 0)))]) ++ [(q2, .inl (cy 0, 10, .inl (fun _ => 0)))])) A s H locs := hB
  refine lv_aload_n E.1 E.2.1 dX6_init_25 rfl (lv_at hl 0 rfl) ?_
  refine lv_iconst (v := 0) E.1 E.2.1 dX6_init_26 (by decide) ?_
  refine x_bput (ty := .int) (v := .int 0) E hin hB rfl 3 (by decide) xinX6 tyX6_ok nmX6 kw193 (by decide +kernel) (by decide) (by decide) (Nat.le_of_ble_eq_true rfl) rfl dX6_init_27 (fun H locs hB => ?_)
  have hB : XB D s00 (((a, .inr (4, [.int 0, .ref q1, .ref q2, .int 0, .null, .null, .null, .int 0, .null, .null, .null, .null, .null, .int 0, .int 0, .int 0, .null])) : Nat × va_E) :: (([] ++ [(q1, .inl (cy 0, 10, .inl (fun _ => 0)))]) ++ [(q2, .inl (cy 0, 10, .inl (fun _ => 0)))])) A s H locs := hB
  refine lv_aload_n E.1 E.2.1 dX6_init_30 rfl (lv_at hl 0 rfl) ?_
  refine lv_bipush (v := 20) E.1 E.2.1 dX6_init_31 (by decide) ?_
  refine x_bnewa (atype := .int) (ty := .int) (N' := 20) (f := .inl (fun _ => 0)) E hB 0 rfl rfl (fun _ _ h9 => h9) kw181 (fun _ => rfl) (by decide) rfl (Nat.le_of_ble_eq_true rfl) ⟨Nat.le_of_ble_eq_true rfl, Nat.le_of_ble_eq_true rfl⟩ dX6_init_33 (fun q3 H locs hB => ?_)
  have hB : XB D s00 (((a, .inr (4, [.int 0, .ref q1, .ref q2, .int 0, .null, .null, .null, .int 0, .null, .null, .null, .null, .null, .int 0, .int 0, .int 0, .null])) : Nat × va_E) :: ((([] ++ [(q1, .inl (cy 0, 10, .inl (fun _ => 0)))]) ++ [(q2, .inl (cy 0, 10, .inl (fun _ => 0)))]) ++ [(q3, .inl (cy 0, 20, .inl (fun _ => 0)))])) A s H locs := hB
  refine x_bput (ty := .array .int) (v := .ref q3) E hin hB rfl 4 (by decide) xinX6 tyX6_ok nmX6 kw196 (by decide +kernel) rfl rfl (Nat.le_of_ble_eq_true rfl) rfl dX6_init_35 (fun H locs hB => ?_)
  have hB : XB D s00 (((a, .inr (4, [.int 0, .ref q1, .ref q2, .int 0, .ref q3, .null, .null, .int 0, .null, .null, .null, .null, .null, .int 0, .int 0, .int 0, .null])) : Nat × va_E) :: ((([] ++ [(q1, .inl (cy 0, 10, .inl (fun _ => 0)))]) ++ [(q2, .inl (cy 0, 10, .inl (fun _ => 0)))]) ++ [(q3, .inl (cy 0, 20, .inl (fun _ => 0)))])) A s H locs := hB
  refine lv_aload_n E.1 E.2.1 dX6_init_38 rfl (lv_at hl 0 rfl) ?_
  refine lv_bipush (v := 20) E.1 E.2.1 dX6_init_39 (by decide) ?_
  refine x_bnewa (atype := .int) (ty := .int) (N' := 20) (f := .inl (fun _ => 0)) E hB 0 rfl rfl (fun _ _ h9 => h9) kw181 (fun _ => rfl) (by decide) rfl (Nat.le_of_ble_eq_true rfl) ⟨Nat.le_of_ble_eq_true rfl, Nat.le_of_ble_eq_true rfl⟩ dX6_init_41 (fun q4 H locs hB => ?_)
  have hB : XB D s00 (((a, .inr (4, [.int 0, .ref q1, .ref q2, .int 0, .ref q3, .null, .null, .int 0, .null, .null, .null, .null, .null, .int 0, .int 0, .int 0, .null])) : Nat × va_E) :: (((([] ++ [(q1, .inl (cy 0, 10, .inl (fun _ => 0)))]) ++ [(q2, .inl (cy 0, 10, .inl (fun _ => 0)))]) ++ [(q3, .inl (cy 0, 20, .inl (fun _ => 0)))]) ++ [(q4, .inl (cy 0, 20, .inl (fun _ => 0)))])) A s H locs := hB
  refine x_bput (ty := .array .int) (v := .ref q4) E hin hB rfl 5 (by decide) xinX6 tyX6_ok nmX6 kw198 (by decide +kernel) rfl rfl (Nat.le_of_ble_eq_true rfl) rfl dX6_init_43 (fun H locs hB => ?_)
  have hB : XB D s00 (((a, .inr (4, [.int 0, .ref q1, .ref q2, .int 0, .ref q3, .ref q4, .null, .int 0, .null, .null, .null, .null, .null, .int 0, .int 0, .int 0, .null])) : Nat × va_E) :: (((([] ++ [(q1, .inl (cy 0, 10, .inl (fun _ => 0)))]) ++ [(q2, .inl (cy 0, 10, .inl (fun _ => 0)))]) ++ [(q3, .inl (cy 0, 20, .inl (fun _ => 0)))]) ++ [(q4, .inl (cy 0, 20, .inl (fun _ => 0)))])) A s H locs := hB
  refine lv_aload_n E.1 E.2.1 dX6_init_46 rfl (lv_at hl 0 rfl) ?_
  refine lv_bipush (v := 20) E.1 E.2.1 dX6_init_47 (by decide) ?_
  refine x_bnewa (atype := .int) (ty := .int) (N' := 20) (f := .inl (fun _ => 0)) E hB 0 rfl rfl (fun _ _ h9 => h9) kw181 (fun _ => rfl) (by decide) rfl (Nat.le_of_ble_eq_true rfl) ⟨Nat.le_of_ble_eq_true rfl, Nat.le_of_ble_eq_true rfl⟩ dX6_init_49 (fun q5 H locs hB => ?_)
  have hB : XB D s00 (((a, .inr (4, [.int 0, .ref q1, .ref q2, .int 0, .ref q3, .ref q4, .null, .int 0, .null, .null, .null, .null, .null, .int 0, .int 0, .int 0, .null])) : Nat × va_E) :: ((((([] ++ [(q1, .inl (cy 0, 10, .inl (fun _ => 0)))]) ++ [(q2, .inl (cy 0, 10, .inl (fun _ => 0)))]) ++ [(q3, .inl (cy 0, 20, .inl (fun _ => 0)))]) ++ [(q4, .inl (cy 0, 20, .inl (fun _ => 0)))]) ++ [(q5, .inl (cy 0, 20, .inl (fun _ => 0)))])) A s H locs := hB
  refine x_bput (ty := .array .int) (v := .ref q5) E hin hB rfl 6 (by decide) xinX6 tyX6_ok nmX6 kw200 (by decide +kernel) rfl rfl (Nat.le_of_ble_eq_true rfl) rfl dX6_init_51 (fun H locs hB => ?_)
  have hB : XB D s00 (((a, .inr (4, [.int 0, .ref q1, .ref q2, .int 0, .ref q3, .ref q4, .ref q5, .int 0, .null, .null, .null, .null, .null, .int 0, .int 0, .int 0, .null])) : Nat × va_E) :: ((((([] ++ [(q1, .inl (cy 0, 10, .inl (fun _ => 0)))]) ++ [(q2, .inl (cy 0, 10, .inl (fun _ => 0)))]) ++ [(q3, .inl (cy 0, 20, .inl (fun _ => 0)))]) ++ [(q4, .inl (cy 0, 20, .inl (fun _ => 0)))]) ++ [(q5, .inl (cy 0, 20, .inl (fun _ => 0)))])) A s H locs := hB
  refine lv_aload_n E.1 E.2.1 dX6_init_54 rfl (lv_at hl 0 rfl) ?_
  refine lv_iconst (v := 0) E.1 E.2.1 dX6_init_55 (by decide) ?_
  refine x_bput (ty := .int) (v := .int 0) E hin hB rfl 7 (by decide) xinX6 tyX6_ok nmX6 kw202 (by decide +kernel) (by decide) (by decide) (Nat.le_of_ble_eq_true rfl) rfl dX6_init_56 (fun H locs hB => ?_)
  have hB : XB D s00 (((a, .inr (4, [.int 0, .ref q1, .ref q2, .int 0, .ref q3, .ref q4, .ref q5, .int 0, .null, .null, .null, .null, .null, .int 0, .int 0, .int 0, .null])) : Nat × va_E) :: ((((([] ++ [(q1, .inl (cy 0, 10, .inl (fun _ => 0)))]) ++ [(q2, .inl (cy 0, 10, .inl (fun _ => 0)))]) ++ [(q3, .inl (cy 0, 20, .inl (fun _ => 0)))]) ++ [(q4, .inl (cy 0, 20, .inl (fun _ => 0)))]) ++ [(q5, .inl (cy 0, 20, .inl (fun _ => 0)))])) A s H locs := hB
  refine lv_aload_n E.1 E.2.1 dX6_init_59 rfl (lv_at hl 0 rfl) ?_
  refine lv_bipush (v := 8) E.1 E.2.1 dX6_init_60 (by decide) ?_
  refine x_bnewa (atype := .int) (ty := .int) (N' := 8) (f := .inl (fun _ => 0)) E hB 0 rfl rfl (fun _ _ h9 => h9) kw181 (fun _ => rfl) (by decide) rfl (Nat.le_of_ble_eq_true rfl) ⟨Nat.le_of_ble_eq_true rfl, Nat.le_of_ble_eq_true rfl⟩ dX6_init_62 (fun q6 H locs hB => ?_)
  have hB : XB D s00 (((a, .inr (4, [.int 0, .ref q1, .ref q2, .int 0, .ref q3, .ref q4, .ref q5, .int 0, .null, .null, .null, .null, .null, .int 0, .int 0, .int 0, .null])) : Nat × va_E) :: (((((([] ++ [(q1, .inl (cy 0, 10, .inl (fun _ => 0)))]) ++ [(q2, .inl (cy 0, 10, .inl (fun _ => 0)))]) ++ [(q3, .inl (cy 0, 20, .inl (fun _ => 0)))]) ++ [(q4, .inl (cy 0, 20, .inl (fun _ => 0)))]) ++ [(q5, .inl (cy 0, 20, .inl (fun _ => 0)))]) ++ [(q6, .inl (cy 0, 8, .inl (fun _ => 0)))])) A s H locs := hB
  refine x_bput (ty := .array .int) (v := .ref q6) E hin hB rfl 8 (by decide) xinX6 tyX6_ok nmX6 kw204 (by decide +kernel) rfl rfl (Nat.le_of_ble_eq_true rfl) rfl dX6_init_64 (fun H locs hB => ?_)
  have hB : XB D s00 (((a, .inr (4, [.int 0, .ref q1, .ref q2, .int 0, .ref q3, .ref q4, .ref q5, .int 0, .ref q6, .null, .null, .null, .null, .int 0, .int 0, .int 0, .null])) : Nat × va_E) :: (((((([] ++ [(q1, .inl (cy 0, 10, .inl (fun _ => 0)))]) ++ [(q2, .inl (cy 0, 10, .inl (fun _ => 0)))]) ++ [(q3, .inl (cy 0, 20, .inl (fun _ => 0)))]) ++ [(q4, .inl (cy 0, 20, .inl (fun _ => 0)))]) ++ [(q5, .inl (cy 0, 20, .inl (fun _ => 0)))]) ++ [(q6, .inl (cy 0, 8, .inl (fun _ => 0)))])) A s H locs := hB
  refine lv_aload_n E.1 E.2.1 dX6_init_67 rfl (lv_at hl 0 rfl) ?_
  refine lv_bipush (v := 8) E.1 E.2.1 dX6_init_68 (by decide) ?_
  refine x_bnewa (atype := .int) (ty := .int) (N' := 8) (f := .inl (fun _ => 0)) E hB 0 rfl rfl (fun _ _ h9 => h9) kw181 (fun _ => rfl) (by decide) rfl (Nat.le_of_ble_eq_true rfl) ⟨Nat.le_of_ble_eq_true rfl, Nat.le_of_ble_eq_true rfl⟩ dX6_init_70 (fun q7 H locs hB => ?_)
  have hB : XB D s00 (((a, .inr (4, [.int 0, .ref q1, .ref q2, .int 0, .ref q3, .ref q4, .ref q5, .int 0, .ref q6, .null, .null, .null, .null, .int 0, .int 0, .int 0, .null])) : Nat × va_E) :: ((((((([] ++ [(q1, .inl (cy 0, 10, .inl (fun _ => 0)))]) ++ [(q2, .inl (cy 0, 10, .inl (fun _ => 0)))]) ++ [(q3, .inl (cy 0, 20, .inl (fun _ => 0)))]) ++ [(q4, .inl (cy 0, 20, .inl (fun _ => 0)))]) ++ [(q5, .inl (cy 0, 20, .inl (fun _ => 0)))]) ++ [(q6, .inl (cy 0, 8, .inl (fun _ => 0)))]) ++ [(q7, .inl (cy 0, 8, .inl (fun _ => 0)))])) A s H locs := hB
  refine x_bput (ty := .array .int) (v := .ref q7) E hin hB rfl 9 (by decide) xinX6 tyX6_ok nmX6 kw206 (by decide +kernel) rfl rfl (Nat.le_of_ble_eq_true rfl) rfl dX6_init_72 (fun H locs hB => ?_)
  have hB : XB D s00 (((a, .inr (4, [.int 0, .ref q1, .ref q2, .int 0, .ref q3, .ref q4, .ref q5, .int 0, .ref q6, .ref q7, .null, .null, .null, .int 0, .int 0, .int 0, .null])) : Nat × va_E) :: ((((((([] ++ [(q1, .inl (cy 0, 10, .inl (fun _ => 0)))]) ++ [(q2, .inl (cy 0, 10, .inl (fun _ => 0)))]) ++ [(q3, .inl (cy 0, 20, .inl (fun _ => 0)))]) ++ [(q4, .inl (cy 0, 20, .inl (fun _ => 0)))]) ++ [(q5, .inl (cy 0, 20, .inl (fun _ => 0)))]) ++ [(q6, .inl (cy 0, 8, .inl (fun _ => 0)))]) ++ [(q7, .inl (cy 0, 8, .inl (fun _ => 0)))])) A s H locs := hB
  refine lv_aload_n E.1 E.2.1 dX6_init_75 rfl (lv_at hl 0 rfl) ?_
  refine lv_bipush (v := 8) E.1 E.2.1 dX6_init_76 (by decide) ?_
  refine x_bnewa (atype := .int) (ty := .int) (N' := 8) (f := .inl (fun _ => 0)) E hB 0 rfl rfl (fun _ _ h9 => h9) kw181 (fun _ => rfl) (by decide) rfl (Nat.le_of_ble_eq_true rfl) ⟨Nat.le_of_ble_eq_true rfl, Nat.le_of_ble_eq_true rfl⟩ dX6_init_78 (fun q8 H locs hB => ?_)
  have hB : XB D s00 (((a, .inr (4, [.int 0, .ref q1, .ref q2, .int 0, .ref q3, .ref q4, .ref q5, .int 0, .ref q6, .ref q7, .null, .null, .null, .int 0, .int 0, .int 0, .null])) : Nat × va_E) :: (((((((([] ++ [(q1, .inl (cy 0, 10, .inl (fun _ => 0)))]) ++ [(q2, .inl (cy 0, 10, .inl (fun _ => 0)))]) ++ [(q3, .inl (cy 0, 20, .inl (fun _ => 0)))]) ++ [(q4, .inl (cy 0, 20, .inl (fun _ => 0)))]) ++ [(q5, .inl (cy 0, 20, .inl (fun _ => 0)))]) ++ [(q6, .inl (cy 0, 8, .inl (fun _ => 0)))]) ++ [(q7, .inl (cy 0, 8, .inl (fun _ => 0)))]) ++ [(q8, .inl (cy 0, 8, .inl (fun _ => 0)))])) A s H locs := hB
  refine x_bput (ty := .array .int) (v := .ref q8) E hin hB rfl 10 (by decide) xinX6 tyX6_ok nmX6 kw207 (by decide +kernel) rfl rfl (Nat.le_of_ble_eq_true rfl) rfl dX6_init_80 (fun H locs hB => ?_)
  have hB : XB D s00 (((a, .inr (4, [.int 0, .ref q1, .ref q2, .int 0, .ref q3, .ref q4, .ref q5, .int 0, .ref q6, .ref q7, .ref q8, .null, .null, .int 0, .int 0, .int 0, .null])) : Nat × va_E) :: (((((((([] ++ [(q1, .inl (cy 0, 10, .inl (fun _ => 0)))]) ++ [(q2, .inl (cy 0, 10, .inl (fun _ => 0)))]) ++ [(q3, .inl (cy 0, 20, .inl (fun _ => 0)))]) ++ [(q4, .inl (cy 0, 20, .inl (fun _ => 0)))]) ++ [(q5, .inl (cy 0, 20, .inl (fun _ => 0)))]) ++ [(q6, .inl (cy 0, 8, .inl (fun _ => 0)))]) ++ [(q7, .inl (cy 0, 8, .inl (fun _ => 0)))]) ++ [(q8, .inl (cy 0, 8, .inl (fun _ => 0)))])) A s H locs := hB
  refine lv_aload_n E.1 E.2.1 dX6_init_83 rfl (lv_at hl 0 rfl) ?_
  refine lv_bipush (v := 8) E.1 E.2.1 dX6_init_84 (by decide) ?_
  refine x_bnewa (atype := .int) (ty := .int) (N' := 8) (f := .inl (fun _ => 0)) E hB 0 rfl rfl (fun _ _ h9 => h9) kw181 (fun _ => rfl) (by decide) rfl (Nat.le_of_ble_eq_true rfl) ⟨Nat.le_of_ble_eq_true rfl, Nat.le_of_ble_eq_true rfl⟩ dX6_init_86 (fun q9 H locs hB => ?_)
  have hB : XB D s00 (((a, .inr (4, [.int 0, .ref q1, .ref q2, .int 0, .ref q3, .ref q4, .ref q5, .int 0, .ref q6, .ref q7, .ref q8, .null, .null, .int 0, .int 0, .int 0, .null])) : Nat × va_E) :: ((((((((([] ++ [(q1, .inl (cy 0, 10, .inl (fun _ => 0)))]) ++ [(q2, .inl (cy 0, 10, .inl (fun _ => 0)))]) ++ [(q3, .inl (cy 0, 20, .inl (fun _ => 0)))]) ++ [(q4, .inl (cy 0, 20, .inl (fun _ => 0)))]) ++ [(q5, .inl (cy 0, 20, .inl (fun _ => 0)))]) ++ [(q6, .inl (cy 0, 8, .inl (fun _ => 0)))]) ++ [(q7, .inl (cy 0, 8, .inl (fun _ => 0)))]) ++ [(q8, .inl (cy 0, 8, .inl (fun _ => 0)))]) ++ [(q9, .inl (cy 0, 8, .inl (fun _ => 0)))])) A s H locs := hB
  refine x_bput (ty := .array .int) (v := .ref q9) E hin hB rfl 11 (by decide) xinX6 tyX6_ok nmX6 kw209 (by decide +kernel) rfl rfl (Nat.le_of_ble_eq_true rfl) rfl dX6_init_88 (fun H locs hB => ?_)
  have hB : XB D s00 (((a, .inr (4, [.int 0, .ref q1, .ref q2, .int 0, .ref q3, .ref q4, .ref q5, .int 0, .ref q6, .ref q7, .ref q8, .ref q9, .null, .int 0, .int 0, .int 0, .null])) : Nat × va_E) :: ((((((((([] ++ [(q1, .inl (cy 0, 10, .inl (fun _ => 0)))]) ++ [(q2, .inl (cy 0, 10, .inl (fun _ => 0)))]) ++ [(q3, .inl (cy 0, 20, .inl (fun _ => 0)))]) ++ [(q4, .inl (cy 0, 20, .inl (fun _ => 0)))]) ++ [(q5, .inl (cy 0, 20, .inl (fun _ => 0)))]) ++ [(q6, .inl (cy 0, 8, .inl (fun _ => 0)))]) ++ [(q7, .inl (cy 0, 8, .inl (fun _ => 0)))]) ++ [(q8, .inl (cy 0, 8, .inl (fun _ => 0)))]) ++ [(q9, .inl (cy 0, 8, .inl (fun _ => 0)))])) A s H locs := hB
  refine lv_aload_n E.1 E.2.1 dX6_init_91 rfl (lv_at hl 0 rfl) ?_
  refine lv_bipush (v := 64) E.1 E.2.1 dX6_init_92 (by decide) ?_
  refine x_bnewa (atype := .int) (ty := .int) (N' := 64) (f := .inl (fun _ => 0)) E hB 0 rfl rfl (fun _ _ h9 => h9) kw181 (fun _ => rfl) (by decide) rfl (Nat.le_of_ble_eq_true rfl) ⟨Nat.le_of_ble_eq_true rfl, Nat.le_of_ble_eq_true rfl⟩ dX6_init_94 (fun q10 H locs hB => ?_)
  have hB : XB D s00 (((a, .inr (4, [.int 0, .ref q1, .ref q2, .int 0, .ref q3, .ref q4, .ref q5, .int 0, .ref q6, .ref q7, .ref q8, .ref q9, .null, .int 0, .int 0, .int 0, .null])) : Nat × va_E) :: (((((((((([] ++ [(q1, .inl (cy 0, 10, .inl (fun _ => 0)))]) ++ [(q2, .inl (cy 0, 10, .inl (fun _ => 0)))]) ++ [(q3, .inl (cy 0, 20, .inl (fun _ => 0)))]) ++ [(q4, .inl (cy 0, 20, .inl (fun _ => 0)))]) ++ [(q5, .inl (cy 0, 20, .inl (fun _ => 0)))]) ++ [(q6, .inl (cy 0, 8, .inl (fun _ => 0)))]) ++ [(q7, .inl (cy 0, 8, .inl (fun _ => 0)))]) ++ [(q8, .inl (cy 0, 8, .inl (fun _ => 0)))]) ++ [(q9, .inl (cy 0, 8, .inl (fun _ => 0)))]) ++ [(q10, .inl (cy 0, 64, .inl (fun _ => 0)))])) A s H locs := hB
  refine x_bput (ty := .array .int) (v := .ref q10) E hin hB rfl 12 (by decide) xinX6 tyX6_ok nmX6 kw211 (by decide +kernel) rfl rfl (Nat.le_of_ble_eq_true rfl) rfl dX6_init_96 (fun H locs hB => ?_)
  have hB : XB D s00 (((a, .inr (4, [.int 0, .ref q1, .ref q2, .int 0, .ref q3, .ref q4, .ref q5, .int 0, .ref q6, .ref q7, .ref q8, .ref q9, .ref q10, .int 0, .int 0, .int 0, .null])) : Nat × va_E) :: (((((((((([] ++ [(q1, .inl (cy 0, 10, .inl (fun _ => 0)))]) ++ [(q2, .inl (cy 0, 10, .inl (fun _ => 0)))]) ++ [(q3, .inl (cy 0, 20, .inl (fun _ => 0)))]) ++ [(q4, .inl (cy 0, 20, .inl (fun _ => 0)))]) ++ [(q5, .inl (cy 0, 20, .inl (fun _ => 0)))]) ++ [(q6, .inl (cy 0, 8, .inl (fun _ => 0)))]) ++ [(q7, .inl (cy 0, 8, .inl (fun _ => 0)))]) ++ [(q8, .inl (cy 0, 8, .inl (fun _ => 0)))]) ++ [(q9, .inl (cy 0, 8, .inl (fun _ => 0)))]) ++ [(q10, .inl (cy 0, 64, .inl (fun _ => 0)))])) A s H locs := hB
  refine lv_aload_n E.1 E.2.1 dX6_init_99 rfl (lv_at hl 0 rfl) ?_
  refine lv_iconst (v := 0) E.1 E.2.1 dX6_init_100 (by decide) ?_
  refine x_bput (ty := .int) (v := .int 0) E hin hB rfl 13 (by decide) xinX6 tyX6_ok nmX6 kw212 (by decide +kernel) (by decide) (by decide) (Nat.le_of_ble_eq_true rfl) rfl dX6_init_101 (fun H locs hB => ?_)
  have hB : XB D s00 (((a, .inr (4, [.int 0, .ref q1, .ref q2, .int 0, .ref q3, .ref q4, .ref q5, .int 0, .ref q6, .ref q7, .ref q8, .ref q9, .ref q10, .int 0, .int 0, .int 0, .null])) : Nat × va_E) :: (((((((((([] ++ [(q1, .inl (cy 0, 10, .inl (fun _ => 0)))]) ++ [(q2, .inl (cy 0, 10, .inl (fun _ => 0)))]) ++ [(q3, .inl (cy 0, 20, .inl (fun _ => 0)))]) ++ [(q4, .inl (cy 0, 20, .inl (fun _ => 0)))]) ++ [(q5, .inl (cy 0, 20, .inl (fun _ => 0)))]) ++ [(q6, .inl (cy 0, 8, .inl (fun _ => 0)))]) ++ [(q7, .inl (cy 0, 8, .inl (fun _ => 0)))]) ++ [(q8, .inl (cy 0, 8, .inl (fun _ => 0)))]) ++ [(q9, .inl (cy 0, 8, .inl (fun _ => 0)))]) ++ [(q10, .inl (cy 0, 64, .inl (fun _ => 0)))])) A s H locs := hB
  refine lv_aload_n E.1 E.2.1 dX6_init_104 rfl (lv_at hl 0 rfl) ?_
  refine lv_iconst (v := 0) E.1 E.2.1 dX6_init_105 (by decide) ?_
  refine x_bput (ty := .int) (v := .int 0) E hin hB rfl 14 (by decide) xinX6 tyX6_ok nmX6 kw214 (by decide +kernel) (by decide) (by decide) (Nat.le_of_ble_eq_true rfl) rfl dX6_init_106 (fun H locs hB => ?_)
  have hB : XB D s00 (((a, .inr (4, [.int 0, .ref q1, .ref q2, .int 0, .ref q3, .ref q4, .ref q5, .int 0, .ref q6, .ref q7, .ref q8, .ref q9, .ref q10, .int 0, .int 0, .int 0, .null])) : Nat × va_E) :: (((((((((([] ++ [(q1, .inl (cy 0, 10, .inl (fun _ => 0)))]) ++ [(q2, .inl (cy 0, 10, .inl (fun _ => 0)))]) ++ [(q3, .inl (cy 0, 20, .inl (fun _ => 0)))]) ++ [(q4, .inl (cy 0, 20, .inl (fun _ => 0)))]) ++ [(q5, .inl (cy 0, 20, .inl (fun _ => 0)))]) ++ [(q6, .inl (cy 0, 8, .inl (fun _ => 0)))]) ++ [(q7, .inl (cy 0, 8, .inl (fun _ => 0)))]) ++ [(q8, .inl (cy 0, 8, .inl (fun _ => 0)))]) ++ [(q9, .inl (cy 0, 8, .inl (fun _ => 0)))]) ++ [(q10, .inl (cy 0, 64, .inl (fun _ => 0)))])) A s H locs := hB
  refine lv_aload_n E.1 E.2.1 dX6_init_109 rfl (lv_at hl 0 rfl) ?_
  refine lv_iconst (v := 0) E.1 E.2.1 dX6_init_110 (by decide) ?_
  refine x_bput (ty := .int) (v := .int 0) E hin hB rfl 15 (by decide) xinX6 tyX6_ok nmX6 kw215 (by decide +kernel) (by decide) (by decide) (Nat.le_of_ble_eq_true rfl) rfl dX6_init_111 (fun H locs hB => ?_)
  have hB : XB D s00 (((a, .inr (4, [.int 0, .ref q1, .ref q2, .int 0, .ref q3, .ref q4, .ref q5, .int 0, .ref q6, .ref q7, .ref q8, .ref q9, .ref q10, .int 0, .int 0, .int 0, .null])) : Nat × va_E) :: (((((((((([] ++ [(q1, .inl (cy 0, 10, .inl (fun _ => 0)))]) ++ [(q2, .inl (cy 0, 10, .inl (fun _ => 0)))]) ++ [(q3, .inl (cy 0, 20, .inl (fun _ => 0)))]) ++ [(q4, .inl (cy 0, 20, .inl (fun _ => 0)))]) ++ [(q5, .inl (cy 0, 20, .inl (fun _ => 0)))]) ++ [(q6, .inl (cy 0, 8, .inl (fun _ => 0)))]) ++ [(q7, .inl (cy 0, 8, .inl (fun _ => 0)))]) ++ [(q8, .inl (cy 0, 8, .inl (fun _ => 0)))]) ++ [(q9, .inl (cy 0, 8, .inl (fun _ => 0)))]) ++ [(q10, .inl (cy 0, 64, .inl (fun _ => 0)))])) A s H locs := hB
  refine lv_aload_n E.1 E.2.1 dX6_init_114 rfl (lv_at hl 0 rfl) ?_
  refine x_bnewN E hNW hB hl (c_X3_init l D cy s00) rfl xinX3 tyX3_ok (fun j hj => by rcases (show j = 0 ∨ j = 1 ∨ j = 2 ∨ j = 3 by omega) with rfl | rfl | rfl | rfl <;> rfl) kw156 kw157 kw118 (show Cond.methodLinkNest RX6 63 yX3_init RX8 ∈ xNw by simp [xNw]) kw159 kw160 ⟨rfl, rfl⟩ (by decide +kernel) (Nat.le_of_ble_eq_true rfl) ⟨Nat.le_of_ble_eq_true rfl, Nat.le_of_ble_eq_true rfl⟩ ⟨Nat.le_of_ble_eq_true rfl, Nat.le_of_ble_eq_true rfl⟩ ⟨Nat.le_of_ble_eq_true rfl, Nat.le_of_ble_eq_true rfl⟩ dX6_init_115 dX6_init_118 dX6_init_119 (fun ad11 H locs hB => ?_)
  have hB : XB D s00 (((a, .inr (4, [.int 0, .ref q1, .ref q2, .int 0, .ref q3, .ref q4, .ref q5, .int 0, .ref q6, .ref q7, .ref q8, .ref q9, .ref q10, .int 0, .int 0, .int 0, .null])) : Nat × va_E) :: ((((((((((([] ++ [(q1, .inl (cy 0, 10, .inl (fun _ => 0)))]) ++ [(q2, .inl (cy 0, 10, .inl (fun _ => 0)))]) ++ [(q3, .inl (cy 0, 20, .inl (fun _ => 0)))]) ++ [(q4, .inl (cy 0, 20, .inl (fun _ => 0)))]) ++ [(q5, .inl (cy 0, 20, .inl (fun _ => 0)))]) ++ [(q6, .inl (cy 0, 8, .inl (fun _ => 0)))]) ++ [(q7, .inl (cy 0, 8, .inl (fun _ => 0)))]) ++ [(q8, .inl (cy 0, 8, .inl (fun _ => 0)))]) ++ [(q9, .inl (cy 0, 8, .inl (fun _ => 0)))]) ++ [(q10, .inl (cy 0, 64, .inl (fun _ => 0)))]) ++ xw cy ad11 (fun _ _ => 0) 0 shKit)) A s H locs := hB
  refine x_bput (ty := .object "RooftopCats$Kitten") (v := .ref (ad11 0)) E hin hB rfl 16 (by decide) xinX6 tyX6_ok nmX6 kw216 (by decide +kernel) rfl rfl (Nat.le_of_ble_eq_true rfl) rfl dX6_init_122 (fun H locs hB => ?_)
  have hB : XB D s00 (((a, .inr (4, [.int 0, .ref q1, .ref q2, .int 0, .ref q3, .ref q4, .ref q5, .int 0, .ref q6, .ref q7, .ref q8, .ref q9, .ref q10, .int 0, .int 0, .int 0, .ref (ad11 0)])) : Nat × va_E) :: ((((((((((([] ++ [(q1, .inl (cy 0, 10, .inl (fun _ => 0)))]) ++ [(q2, .inl (cy 0, 10, .inl (fun _ => 0)))]) ++ [(q3, .inl (cy 0, 20, .inl (fun _ => 0)))]) ++ [(q4, .inl (cy 0, 20, .inl (fun _ => 0)))]) ++ [(q5, .inl (cy 0, 20, .inl (fun _ => 0)))]) ++ [(q6, .inl (cy 0, 8, .inl (fun _ => 0)))]) ++ [(q7, .inl (cy 0, 8, .inl (fun _ => 0)))]) ++ [(q8, .inl (cy 0, 8, .inl (fun _ => 0)))]) ++ [(q9, .inl (cy 0, 8, .inl (fun _ => 0)))]) ++ [(q10, .inl (cy 0, 64, .inl (fun _ => 0)))]) ++ xw cy ad11 (fun _ _ => 0) 0 shKit)) A s H locs := hB
  exact x_bret (ad := (fun i => if i < 11 then ([a, q1, q2, q3, q4, q5, q6, q7, q8, q9, q10] : List Nat).getD (i - 0) 0 else ad11 (i - 11))) (S0 := (fun _ _ => 0)) E hB (rfl) rfl ⟨Nat.le_of_ble_eq_true rfl, Nat.le_of_ble_eq_true rfl⟩ dX6_init_125
set_option maxHeartbeats 4000000 in
set_option maxRecDepth 100000 in
theorem c_X4_init (l : Launch) (D : va_G) (cy : Nat → ClassId) (s00 : State) : XN l yX4_init cX4_init 1 1 1 600 D cy s00 2 [.null, .int 0, .int 0, .int 0, .int 0, .int 0] shRead (fun _ _ => 0) := by
  refine XN.of (by decide) (Nat.le_of_ble_eq_true rfl) (fun a p e s m args below meth c A ls E hin hNW hB hl => ?_)
  refine lv_aload_n E.1 E.2.1 dX4_init_0 rfl (lv_at hl 0 rfl) ?_
  refine x_bobj E hl kw285 kw148 kw149 (Nat.le_of_ble_eq_true rfl) (Nat.le_of_ble_eq_true rfl) dX4_init_1 ?_
  refine lv_aload_n E.1 E.2.1 dX4_init_4 rfl (lv_at hl 0 rfl) ?_
  refine lv_sipush (v := 600) E.1 E.2.1 dX4_init_5 (by decide) ?_
  refine x_bnewa (atype := .byte) (ty := .byte) (N' := 600) (f := .inl (fun _ => 0)) E hB 1 rfl rfl (fun _ _ h9 => h9) kw310 (fun _ => rfl) (by decide) rfl (Nat.le_of_ble_eq_true rfl) ⟨Nat.le_of_ble_eq_true rfl, Nat.le_of_ble_eq_true rfl⟩ dX4_init_8 (fun q1 H locs hB => ?_)
  have hB : XB D s00 (((a, .inr (2, [.null, .int 0, .int 0, .int 0, .int 0, .int 0])) : Nat × va_E) :: ([] ++ [(q1, .inl (cy 1, 600, .inl (fun _ => 0)))])) A s H locs := hB
  refine x_bput (ty := .array .byte) (v := .ref q1) E hin hB rfl 0 (by decide) xinX4 tyX4_ok nmX4 kw286 (by decide +kernel) rfl rfl (Nat.le_of_ble_eq_true rfl) rfl dX4_init_10 (fun H locs hB => ?_)
  have hB : XB D s00 (((a, .inr (2, [.ref q1, .int 0, .int 0, .int 0, .int 0, .int 0])) : Nat × va_E) :: ([] ++ [(q1, .inl (cy 1, 600, .inl (fun _ => 0)))])) A s H locs := hB
  refine lv_aload_n E.1 E.2.1 dX4_init_13 rfl (lv_at hl 0 rfl) ?_
  refine lv_iconst (v := 0) E.1 E.2.1 dX4_init_14 (by decide) ?_
  refine x_bput (ty := .int) (v := .int 0) E hin hB rfl 1 (by decide) xinX4 tyX4_ok nmX4 kw287 (by decide +kernel) (by decide) (by decide) (Nat.le_of_ble_eq_true rfl) rfl dX4_init_15 (fun H locs hB => ?_)
  have hB : XB D s00 (((a, .inr (2, [.ref q1, .int 0, .int 0, .int 0, .int 0, .int 0])) : Nat × va_E) :: ([] ++ [(q1, .inl (cy 1, 600, .inl (fun _ => 0)))])) A s H locs := hB
  refine lv_aload_n E.1 E.2.1 dX4_init_18 rfl (lv_at hl 0 rfl) ?_
  refine lv_iconst (v := 0) E.1 E.2.1 dX4_init_19 (by decide) ?_
  refine x_bput (ty := .int) (v := .int 0) E hin hB rfl 2 (by decide) xinX4 tyX4_ok nmX4 kw289 (by decide +kernel) (by decide) (by decide) (Nat.le_of_ble_eq_true rfl) rfl dX4_init_20 (fun H locs hB => ?_)
  have hB : XB D s00 (((a, .inr (2, [.ref q1, .int 0, .int 0, .int 0, .int 0, .int 0])) : Nat × va_E) :: ([] ++ [(q1, .inl (cy 1, 600, .inl (fun _ => 0)))])) A s H locs := hB
  refine lv_aload_n E.1 E.2.1 dX4_init_23 rfl (lv_at hl 0 rfl) ?_
  refine lv_iconst (v := 0) E.1 E.2.1 dX4_init_24 (by decide) ?_
  refine x_bput (ty := .int) (v := .int 0) E hin hB rfl 3 (by decide) xinX4 tyX4_ok nmX4 kw291 (by decide +kernel) (by decide) (by decide) (Nat.le_of_ble_eq_true rfl) rfl dX4_init_25 (fun H locs hB => ?_)
  have hB : XB D s00 (((a, .inr (2, [.ref q1, .int 0, .int 0, .int 0, .int 0, .int 0])) : Nat × va_E) :: ([] ++ [(q1, .inl (cy 1, 600, .inl (fun _ => 0)))])) A s H locs := hB
  refine lv_aload_n E.1 E.2.1 dX4_init_28 rfl (lv_at hl 0 rfl) ?_
  refine lv_iconst (v := 0) E.1 E.2.1 dX4_init_29 (by decide) ?_
  refine x_bput (ty := .int) (v := .int 0) E hin hB rfl 4 (by decide) xinX4 tyX4_ok nmX4 kw293 (by decide +kernel) (by decide) (by decide) (Nat.le_of_ble_eq_true rfl) rfl dX4_init_30 (fun H locs hB => ?_)
  have hB : XB D s00 (((a, .inr (2, [.ref q1, .int 0, .int 0, .int 0, .int 0, .int 0])) : Nat × va_E) :: ([] ++ [(q1, .inl (cy 1, 600, .inl (fun _ => 0)))])) A s H locs := hB
  refine lv_aload_n E.1 E.2.1 dX4_init_33 rfl (lv_at hl 0 rfl) ?_
  refine lv_iconst (v := 0) E.1 E.2.1 dX4_init_34 (by decide) ?_
  refine x_bput (ty := .int) (v := .int 0) E hin hB rfl 5 (by decide) xinX4 tyX4_ok nmX4 kw295 (by decide +kernel) (by decide) (by decide) (Nat.le_of_ble_eq_true rfl) rfl dX4_init_35 (fun H locs hB => ?_)
  have hB : XB D s00 (((a, .inr (2, [.ref q1, .int 0, .int 0, .int 0, .int 0, .int 0])) : Nat × va_E) :: ([] ++ [(q1, .inl (cy 1, 600, .inl (fun _ => 0)))])) A s H locs := hB
  exact x_bret (ad := (fun i => ([a, q1] : List Nat).getD (i - 0) 0)) (S0 := (fun _ _ => 0)) E hB (rfl) rfl ⟨Nat.le_of_ble_eq_true rfl, Nat.le_of_ble_eq_true rfl⟩ dX4_init_38
set_option maxHeartbeats 4000000 in
set_option maxRecDepth 100000 in
theorem c_X5_init (l : Launch) (D : va_G) (cy : Nat → ClassId) (s00 : State) : XN l yX5_init cX5_init 1 1 1 59 D cy s00 3 [.null, .int 0] shRep (fun _ _ => 0) := by
  refine XN.of (by decide) (Nat.le_of_ble_eq_true rfl) (fun a p e s m args below meth c A ls E hin hNW hB hl => ?_)
  refine lv_aload_n E.1 E.2.1 dX5_init_0 rfl (lv_at hl 0 rfl) ?_
  refine x_bobj E hl kw353 kw148 kw149 (Nat.le_of_ble_eq_true rfl) (Nat.le_of_ble_eq_true rfl) dX5_init_1 ?_
  refine lv_aload_n E.1 E.2.1 dX5_init_4 rfl (lv_at hl 0 rfl) ?_
  refine lv_bipush (v := 59) E.1 E.2.1 dX5_init_5 (by decide) ?_
  refine x_bnewa (atype := .byte) (ty := .byte) (N' := 59) (f := .inl (fun _ => 0)) E hB 1 rfl rfl (fun _ _ h9 => h9) kw310 (fun _ => rfl) (by decide) rfl (Nat.le_of_ble_eq_true rfl) ⟨Nat.le_of_ble_eq_true rfl, Nat.le_of_ble_eq_true rfl⟩ dX5_init_7 (fun q1 H locs hB => ?_)
  have hB : XB D s00 (((a, .inr (3, [.null, .int 0])) : Nat × va_E) :: ([] ++ [(q1, .inl (cy 1, 59, .inl (fun _ => 0)))])) A s H locs := hB
  refine x_bput (ty := .array .byte) (v := .ref q1) E hin hB rfl 0 (by decide) xinX5 tyX5_ok nmX5 kw354 (by decide +kernel) rfl rfl (Nat.le_of_ble_eq_true rfl) rfl dX5_init_9 (fun H locs hB => ?_)
  have hB : XB D s00 (((a, .inr (3, [.ref q1, .int 0])) : Nat × va_E) :: ([] ++ [(q1, .inl (cy 1, 59, .inl (fun _ => 0)))])) A s H locs := hB
  refine lv_aload_n E.1 E.2.1 dX5_init_12 rfl (lv_at hl 0 rfl) ?_
  refine lv_iconst (v := 0) E.1 E.2.1 dX5_init_13 (by decide) ?_
  refine x_bput (ty := .int) (v := .int 0) E hin hB rfl 1 (by decide) xinX5 tyX5_ok nmX5 kw356 (by decide +kernel) (by decide) (by decide) (Nat.le_of_ble_eq_true rfl) rfl dX5_init_14 (fun H locs hB => ?_)
  have hB : XB D s00 (((a, .inr (3, [.ref q1, .int 0])) : Nat × va_E) :: ([] ++ [(q1, .inl (cy 1, 59, .inl (fun _ => 0)))])) A s H locs := hB
  exact x_bret (ad := (fun i => ([a, q1] : List Nat).getD (i - 0) 0)) (S0 := (fun _ _ => 0)) E hB (rfl) rfl ⟨Nat.le_of_ble_eq_true rfl, Nat.le_of_ble_eq_true rfl⟩ dX5_init_17
set_option maxHeartbeats 4000000 in
set_option maxRecDepth 100000 in
theorem c_X7_init (l : Launch) (D : va_G) (cy : Nat → ClassId) (s00 : State) : XN l yX7_init cX7_init 1 3 18 819 D cy s00 5 [.null, .null, .int 0, .int 0, .null, .int 0, .int 0, .int 0, .null, .null] shScr (xput (fun _ _ => 0) 0 3 (-1)) := by
  refine XN.of (by decide) (Nat.le_of_ble_eq_true rfl) (fun a p e s m args below meth c A ls E hin hNW hB hl => ?_)
  refine lv_aload_n E.1 E.2.1 dX7_init_0 rfl (lv_at hl 0 rfl) ?_
  refine x_bobj E hl kw279 kw148 kw149 (Nat.le_of_ble_eq_true rfl) (Nat.le_of_ble_eq_true rfl) dX7_init_1 ?_
  refine lv_aload_n E.1 E.2.1 dX7_init_4 rfl (lv_at hl 0 rfl) ?_
  refine x_bnewN E hNW hB hl (c_X4_init l D cy s00) rfl xinX4 tyX4_ok (fun j hj => by rcases (show j = 0 ∨ j = 1 ∨ j = 2 ∨ j = 3 ∨ j = 4 ∨ j = 5 by omega) with rfl | rfl | rfl | rfl | rfl | rfl <;> rfl) kw280 kw281 kw121 (show Cond.methodLinkNest RX7 11 yX4_init RX8 ∈ xNw by simp [xNw]) kw283 kw284 ⟨rfl, rfl⟩ (by decide +kernel) (Nat.le_of_ble_eq_true rfl) ⟨Nat.le_of_ble_eq_true rfl, Nat.le_of_ble_eq_true rfl⟩ ⟨Nat.le_of_ble_eq_true rfl, Nat.le_of_ble_eq_true rfl⟩ ⟨Nat.le_of_ble_eq_true rfl, Nat.le_of_ble_eq_true rfl⟩ dX7_init_5 dX7_init_8 dX7_init_9 (fun ad1 H locs hB => ?_)
  have hB : XB D s00 (((a, .inr (5, [.null, .null, .int 0, .int 0, .null, .int 0, .int 0, .int 0, .null, .null])) : Nat × va_E) :: ([] ++ xw cy ad1 (fun _ _ => 0) 0 shRead)) A s H locs := hB
  refine x_bput (ty := .object "RooftopCats$Reader") (v := .ref (ad1 0)) E hin hB rfl 0 (by decide) xinX7 tyX7_ok nmX7 kw313 (by decide +kernel) rfl rfl (Nat.le_of_ble_eq_true rfl) rfl dX7_init_12 (fun H locs hB => ?_)
  have hB : XB D s00 (((a, .inr (5, [.ref (ad1 0), .null, .int 0, .int 0, .null, .int 0, .int 0, .int 0, .null, .null])) : Nat × va_E) :: ([] ++ xw cy ad1 (fun _ _ => 0) 0 shRead)) A s H locs := hB
  refine lv_aload_n E.1 E.2.1 dX7_init_15 rfl (lv_at hl 0 rfl) ?_
  refine x_bnewN E hNW hB hl (c_X6_init l D cy s00) rfl xinX6 tyX6_ok (fun j hj => by rcases (show j = 0 ∨ j = 1 ∨ j = 2 ∨ j = 3 ∨ j = 4 ∨ j = 5 ∨ j = 6 ∨ j = 7 ∨ j = 8 ∨ j = 9 ∨ j = 10 ∨ j = 11 ∨ j = 12 ∨ j = 13 ∨ j = 14 ∨ j = 15 ∨ j = 16 by omega) with rfl | rfl | rfl | rfl | rfl | rfl | rfl | rfl | rfl | rfl | rfl | rfl | rfl | rfl | rfl | rfl | rfl <;> rfl) kw311 kw151 kw117 (show Cond.methodLinkNest RX7 20 yX6_init RX8 ∈ xNw by simp [xNw]) kw153 kw154 ⟨rfl, rfl⟩ (by decide +kernel) (Nat.le_of_ble_eq_true rfl) ⟨Nat.le_of_ble_eq_true rfl, Nat.le_of_ble_eq_true rfl⟩ ⟨Nat.le_of_ble_eq_true rfl, Nat.le_of_ble_eq_true rfl⟩ ⟨Nat.le_of_ble_eq_true rfl, Nat.le_of_ble_eq_true rfl⟩ dX7_init_16 dX7_init_19 dX7_init_20 (fun ad3 H locs hB => ?_)
  have hB : XB D s00 (((a, .inr (5, [.ref (ad1 0), .null, .int 0, .int 0, .null, .int 0, .int 0, .int 0, .null, .null])) : Nat × va_E) :: (([] ++ xw cy ad1 (fun _ _ => 0) 0 shRead) ++ xw cy ad3 (fun _ _ => 0) 0 shRoof)) A s H locs := hB
  refine x_bput (ty := .object "RooftopCats$Roof") (v := .ref (ad3 0)) E hin hB rfl 1 (by decide) xinX7 tyX7_ok nmX7 kw315 (by decide +kernel) rfl rfl (Nat.le_of_ble_eq_true rfl) rfl dX7_init_23 (fun H locs hB => ?_)
  have hB : XB D s00 (((a, .inr (5, [.ref (ad1 0), .ref (ad3 0), .int 0, .int 0, .null, .int 0, .int 0, .int 0, .null, .null])) : Nat × va_E) :: (([] ++ xw cy ad1 (fun _ _ => 0) 0 shRead) ++ xw cy ad3 (fun _ _ => 0) 0 shRoof)) A s H locs := hB
  refine lv_aload_n E.1 E.2.1 dX7_init_26 rfl (lv_at hl 0 rfl) ?_
  refine lv_iconst (v := 0) E.1 E.2.1 dX7_init_27 (by decide) ?_
  refine x_bput (ty := .int) (v := .int 0) E hin hB rfl 2 (by decide) xinX7 tyX7_ok nmX7 kw317 (by decide +kernel) (by decide) (by decide) (Nat.le_of_ble_eq_true rfl) rfl dX7_init_28 (fun H locs hB => ?_)
  have hB : XB D s00 (((a, .inr (5, [.ref (ad1 0), .ref (ad3 0), .int 0, .int 0, .null, .int 0, .int 0, .int 0, .null, .null])) : Nat × va_E) :: (([] ++ xw cy ad1 (fun _ _ => 0) 0 shRead) ++ xw cy ad3 (fun _ _ => 0) 0 shRoof)) A s H locs := hB
  refine lv_aload_n E.1 E.2.1 dX7_init_31 rfl (lv_at hl 0 rfl) ?_
  refine lv_iconst (v := (-1)) E.1 E.2.1 dX7_init_32 (by decide) ?_
  refine x_bput (ty := .int) (v := .int (-1)) E hin hB rfl 3 (by decide) xinX7 tyX7_ok nmX7 kw319 (by decide +kernel) (by decide) (by decide) (Nat.le_of_ble_eq_true rfl) rfl dX7_init_33 (fun H locs hB => ?_)
  have hB : XB D s00 (((a, .inr (5, [.ref (ad1 0), .ref (ad3 0), .int 0, .int (-1), .null, .int 0, .int 0, .int 0, .null, .null])) : Nat × va_E) :: (([] ++ xw cy ad1 (fun _ _ => 0) 0 shRead) ++ xw cy ad3 (fun _ _ => 0) 0 shRoof)) A s H locs := hB
  refine lv_aload_n E.1 E.2.1 dX7_init_36 rfl (lv_at hl 0 rfl) ?_
  refine lv_iconst (v := 4) E.1 E.2.1 dX7_init_37 (by decide) ?_
  refine x_bnewa (atype := .int) (ty := .int) (N' := 4) (f := .inl (fun _ => 0)) E hB 0 rfl rfl (fun _ _ h9 => h9) kw181 (fun _ => rfl) (by decide) rfl (Nat.le_of_ble_eq_true rfl) ⟨Nat.le_of_ble_eq_true rfl, Nat.le_of_ble_eq_true rfl⟩ dX7_init_38 (fun q16 H locs hB => ?_)
  have hB : XB D s00 (((a, .inr (5, [.ref (ad1 0), .ref (ad3 0), .int 0, .int (-1), .null, .int 0, .int 0, .int 0, .null, .null])) : Nat × va_E) :: ((([] ++ xw cy ad1 (fun _ _ => 0) 0 shRead) ++ xw cy ad3 (fun _ _ => 0) 0 shRoof) ++ [(q16, .inl (cy 0, 4, .inl (fun _ => 0)))])) A s H locs := hB
  refine x_bput (ty := .array .int) (v := .ref q16) E hin hB rfl 4 (by decide) xinX7 tyX7_ok nmX7 kw321 (by decide +kernel) rfl rfl (Nat.le_of_ble_eq_true rfl) rfl dX7_init_40 (fun H locs hB => ?_)
  have hB : XB D s00 (((a, .inr (5, [.ref (ad1 0), .ref (ad3 0), .int 0, .int (-1), .ref q16, .int 0, .int 0, .int 0, .null, .null])) : Nat × va_E) :: ((([] ++ xw cy ad1 (fun _ _ => 0) 0 shRead) ++ xw cy ad3 (fun _ _ => 0) 0 shRoof) ++ [(q16, .inl (cy 0, 4, .inl (fun _ => 0)))])) A s H locs := hB
  refine lv_aload_n E.1 E.2.1 dX7_init_43 rfl (lv_at hl 0 rfl) ?_
  refine lv_iconst (v := 0) E.1 E.2.1 dX7_init_44 (by decide) ?_
  refine x_bput (ty := .boolean) (v := .int 0) E hin hB rfl 5 (by decide) xinX7 tyX7_ok nmX7 kw322 (by decide +kernel) (by decide) (by decide) (Nat.le_of_ble_eq_true rfl) rfl dX7_init_45 (fun H locs hB => ?_)
  have hB : XB D s00 (((a, .inr (5, [.ref (ad1 0), .ref (ad3 0), .int 0, .int (-1), .ref q16, .int 0, .int 0, .int 0, .null, .null])) : Nat × va_E) :: ((([] ++ xw cy ad1 (fun _ _ => 0) 0 shRead) ++ xw cy ad3 (fun _ _ => 0) 0 shRoof) ++ [(q16, .inl (cy 0, 4, .inl (fun _ => 0)))])) A s H locs := hB
  refine lv_aload_n E.1 E.2.1 dX7_init_48 rfl (lv_at hl 0 rfl) ?_
  refine lv_iconst (v := 0) E.1 E.2.1 dX7_init_49 (by decide) ?_
  refine x_bput (ty := .int) (v := .int 0) E hin hB rfl 6 (by decide) xinX7 tyX7_ok nmX7 kw323 (by decide +kernel) (by decide) (by decide) (Nat.le_of_ble_eq_true rfl) rfl dX7_init_50 (fun H locs hB => ?_)
  have hB : XB D s00 (((a, .inr (5, [.ref (ad1 0), .ref (ad3 0), .int 0, .int (-1), .ref q16, .int 0, .int 0, .int 0, .null, .null])) : Nat × va_E) :: ((([] ++ xw cy ad1 (fun _ _ => 0) 0 shRead) ++ xw cy ad3 (fun _ _ => 0) 0 shRoof) ++ [(q16, .inl (cy 0, 4, .inl (fun _ => 0)))])) A s H locs := hB
  refine lv_aload_n E.1 E.2.1 dX7_init_53 rfl (lv_at hl 0 rfl) ?_
  refine lv_iconst (v := 0) E.1 E.2.1 dX7_init_54 (by decide) ?_
  refine x_bput (ty := .int) (v := .int 0) E hin hB rfl 7 (by decide) xinX7 tyX7_ok nmX7 kw324 (by decide +kernel) (by decide) (by decide) (Nat.le_of_ble_eq_true rfl) rfl dX7_init_55 (fun H locs hB => ?_)
  have hB : XB D s00 (((a, .inr (5, [.ref (ad1 0), .ref (ad3 0), .int 0, .int (-1), .ref q16, .int 0, .int 0, .int 0, .null, .null])) : Nat × va_E) :: ((([] ++ xw cy ad1 (fun _ _ => 0) 0 shRead) ++ xw cy ad3 (fun _ _ => 0) 0 shRoof) ++ [(q16, .inl (cy 0, 4, .inl (fun _ => 0)))])) A s H locs := hB
  refine lv_aload_n E.1 E.2.1 dX7_init_58 rfl (lv_at hl 0 rfl) ?_
  refine lv_iconst (v := 2) E.1 E.2.1 dX7_init_59 (by decide) ?_
  refine x_bnewa (atype := .int) (ty := .int) (N' := 2) (f := .inl (fun _ => 0)) E hB 0 rfl rfl (fun _ _ h9 => h9) kw181 (fun _ => rfl) (by decide) rfl (Nat.le_of_ble_eq_true rfl) ⟨Nat.le_of_ble_eq_true rfl, Nat.le_of_ble_eq_true rfl⟩ dX7_init_60 (fun q17 H locs hB => ?_)
  have hB : XB D s00 (((a, .inr (5, [.ref (ad1 0), .ref (ad3 0), .int 0, .int (-1), .ref q16, .int 0, .int 0, .int 0, .null, .null])) : Nat × va_E) :: (((([] ++ xw cy ad1 (fun _ _ => 0) 0 shRead) ++ xw cy ad3 (fun _ _ => 0) 0 shRoof) ++ [(q16, .inl (cy 0, 4, .inl (fun _ => 0)))]) ++ [(q17, .inl (cy 0, 2, .inl (fun _ => 0)))])) A s H locs := hB
  refine x_bput (ty := .array .int) (v := .ref q17) E hin hB rfl 8 (by decide) xinX7 tyX7_ok nmX7 kw325 (by decide +kernel) rfl rfl (Nat.le_of_ble_eq_true rfl) rfl dX7_init_62 (fun H locs hB => ?_)
  have hB : XB D s00 (((a, .inr (5, [.ref (ad1 0), .ref (ad3 0), .int 0, .int (-1), .ref q16, .int 0, .int 0, .int 0, .ref q17, .null])) : Nat × va_E) :: (((([] ++ xw cy ad1 (fun _ _ => 0) 0 shRead) ++ xw cy ad3 (fun _ _ => 0) 0 shRoof) ++ [(q16, .inl (cy 0, 4, .inl (fun _ => 0)))]) ++ [(q17, .inl (cy 0, 2, .inl (fun _ => 0)))])) A s H locs := hB
  refine lv_aload_n E.1 E.2.1 dX7_init_65 rfl (lv_at hl 0 rfl) ?_
  refine lv_iconst (v := 2) E.1 E.2.1 dX7_init_66 (by decide) ?_
  refine x_bnewa (atype := .int) (ty := .int) (N' := 2) (f := .inl (fun _ => 0)) E hB 0 rfl rfl (fun _ _ h9 => h9) kw181 (fun _ => rfl) (by decide) rfl (Nat.le_of_ble_eq_true rfl) ⟨Nat.le_of_ble_eq_true rfl, Nat.le_of_ble_eq_true rfl⟩ dX7_init_67 (fun q18 H locs hB => ?_)
  have hB : XB D s00 (((a, .inr (5, [.ref (ad1 0), .ref (ad3 0), .int 0, .int (-1), .ref q16, .int 0, .int 0, .int 0, .ref q17, .null])) : Nat × va_E) :: ((((([] ++ xw cy ad1 (fun _ _ => 0) 0 shRead) ++ xw cy ad3 (fun _ _ => 0) 0 shRoof) ++ [(q16, .inl (cy 0, 4, .inl (fun _ => 0)))]) ++ [(q17, .inl (cy 0, 2, .inl (fun _ => 0)))]) ++ [(q18, .inl (cy 0, 2, .inl (fun _ => 0)))])) A s H locs := hB
  refine x_bput (ty := .array .int) (v := .ref q18) E hin hB rfl 9 (by decide) xinX7 tyX7_ok nmX7 kw326 (by decide +kernel) rfl rfl (Nat.le_of_ble_eq_true rfl) rfl dX7_init_69 (fun H locs hB => ?_)
  have hB : XB D s00 (((a, .inr (5, [.ref (ad1 0), .ref (ad3 0), .int 0, .int (-1), .ref q16, .int 0, .int 0, .int 0, .ref q17, .ref q18])) : Nat × va_E) :: ((((([] ++ xw cy ad1 (fun _ _ => 0) 0 shRead) ++ xw cy ad3 (fun _ _ => 0) 0 shRoof) ++ [(q16, .inl (cy 0, 4, .inl (fun _ => 0)))]) ++ [(q17, .inl (cy 0, 2, .inl (fun _ => 0)))]) ++ [(q18, .inl (cy 0, 2, .inl (fun _ => 0)))])) A s H locs := hB
  exact x_bret (ad := (fun i => if i < 1 then ([a] : List Nat).getD (i - 0) 0 else if i < 3 then ad1 (i - 1) else if i < 16 then ad3 (i - 3) else ([q16, q17, q18] : List Nat).getD (i - 16) 0)) (S0 := (xput (fun _ _ => 0) 0 3 (-1))) E hB (rfl) rfl ⟨Nat.le_of_ble_eq_true rfl, Nat.le_of_ble_eq_true rfl⟩ dX7_init_72
def glX2_init (a q1 : Nat) (ad2 ad15 ad28 ad41 ad54 ad67 ad80 ad93 : Nat → Nat) : Nat → Nat := (fun i => if i < 2 then ([a, q1] : List Nat).getD (i - 0) 0 else if i < 15 then ad2 (i - 2) else if i < 28 then ad15 (i - 15) else if i < 41 then ad28 (i - 28) else if i < 54 then ad41 (i - 41) else if i < 67 then ad54 (i - 54) else if i < 80 then ad67 (i - 67) else if i < 93 then ad80 (i - 80) else ad93 (i - 93))
set_option maxHeartbeats 4000000 in
set_option maxRecDepth 100000 in
theorem eX2_init (cy : Nat → ClassId) (a q1 : Nat) (ad2 ad15 ad28 ad41 ad54 ad67 ad80 ad93 : Nat → Nat) : (((a, .inr (0, [.ref q1, .int 0, .int 0])) : Nat × va_E) :: (q1, .inl (cy 4, 8, .inr (.inr (.inr (.inr (fun i => ([(ad2 0), (ad15 0), (ad28 0), (ad41 0), (ad54 0), (ad67 0), (ad80 0), (ad93 0)] : List Nat)[i]?)))))) :: (((((((([] ++ xw cy ad2 (fun _ _ => 0) 0 shRoof) ++ xw cy ad15 (fun _ _ => 0) 0 shRoof) ++ xw cy ad28 (fun _ _ => 0) 0 shRoof) ++ xw cy ad41 (fun _ _ => 0) 0 shRoof) ++ xw cy ad54 (fun _ _ => 0) 0 shRoof) ++ xw cy ad67 (fun _ _ => 0) 0 shRoof) ++ xw cy ad80 (fun _ _ => 0) 0 shRoof) ++ xw cy ad93 (fun _ _ => 0) 0 shRoof)) = xw cy (glX2_init a q1 ad2 ad15 ad28 ad41 ad54 ad67 ad80 ad93) (fun _ _ => 0) 0 shHist := by
  have hs : shHist = [.inl (0, [some 1, none, none]), .inr (.inr [2, 15, 28, 41, 54, 67, 80, 93])] ++ shRoof.map (xrelF (2 + ·)) ++ shRoof.map (xrelF (15 + ·)) ++ shRoof.map (xrelF (28 + ·)) ++ shRoof.map (xrelF (41 + ·)) ++ shRoof.map (xrelF (54 + ·)) ++ shRoof.map (xrelF (67 + ·)) ++ shRoof.map (xrelF (80 + ·)) ++ shRoof.map (xrelF (93 + ·)) := by decide +kernel
  have b2 : xw cy (glX2_init a q1 ad2 ad15 ad28 ad41 ad54 ad67 ad80 ad93) (fun _ _ => 0) 2 (shRoof.map (xrelF (2 + ·))) = xw cy ad2 (fun _ _ => 0) 0 shRoof := by
    refine xw_block (o := 2) (n := 13) (fun i hi => ?_) (fun i hi b => ?_) shRoof 0 rfl (by decide +kernel)
    · show glX2_init a q1 ad2 ad15 ad28 ad41 ad54 ad67 ad80 ad93 (2 + i) = ad2 i
      unfold glX2_init
      rw [if_neg (show ¬ 2 + i < 2 by omega), if_pos (show 2 + i < 15 by omega)]
      rw [show 2 + i - 2 = i by omega]
    · rfl
  have b15 : xw cy (glX2_init a q1 ad2 ad15 ad28 ad41 ad54 ad67 ad80 ad93) (fun _ _ => 0) 15 (shRoof.map (xrelF (15 + ·))) = xw cy ad15 (fun _ _ => 0) 0 shRoof := by
    refine xw_block (o := 15) (n := 13) (fun i hi => ?_) (fun i hi b => ?_) shRoof 0 rfl (by decide +kernel)
    · show glX2_init a q1 ad2 ad15 ad28 ad41 ad54 ad67 ad80 ad93 (15 + i) = ad15 i
      unfold glX2_init
      rw [if_neg (show ¬ 15 + i < 2 by omega), if_neg (show ¬ 15 + i < 15 by omega), if_pos (show 15 + i < 28 by omega)]
      rw [show 15 + i - 15 = i by omega]
    · rfl
  have b28 : xw cy (glX2_init a q1 ad2 ad15 ad28 ad41 ad54 ad67 ad80 ad93) (fun _ _ => 0) 28 (shRoof.map (xrelF (28 + ·))) = xw cy ad28 (fun _ _ => 0) 0 shRoof := by
    refine xw_block (o := 28) (n := 13) (fun i hi => ?_) (fun i hi b => ?_) shRoof 0 rfl (by decide +kernel)
    · show glX2_init a q1 ad2 ad15 ad28 ad41 ad54 ad67 ad80 ad93 (28 + i) = ad28 i
      unfold glX2_init
      rw [if_neg (show ¬ 28 + i < 2 by omega), if_neg (show ¬ 28 + i < 15 by omega), if_neg (show ¬ 28 + i < 28 by omega), if_pos (show 28 + i < 41 by omega)]
      rw [show 28 + i - 28 = i by omega]
    · rfl
  have b41 : xw cy (glX2_init a q1 ad2 ad15 ad28 ad41 ad54 ad67 ad80 ad93) (fun _ _ => 0) 41 (shRoof.map (xrelF (41 + ·))) = xw cy ad41 (fun _ _ => 0) 0 shRoof := by
    refine xw_block (o := 41) (n := 13) (fun i hi => ?_) (fun i hi b => ?_) shRoof 0 rfl (by decide +kernel)
    · show glX2_init a q1 ad2 ad15 ad28 ad41 ad54 ad67 ad80 ad93 (41 + i) = ad41 i
      unfold glX2_init
      rw [if_neg (show ¬ 41 + i < 2 by omega), if_neg (show ¬ 41 + i < 15 by omega), if_neg (show ¬ 41 + i < 28 by omega), if_neg (show ¬ 41 + i < 41 by omega), if_pos (show 41 + i < 54 by omega)]
      rw [show 41 + i - 41 = i by omega]
    · rfl
  have b54 : xw cy (glX2_init a q1 ad2 ad15 ad28 ad41 ad54 ad67 ad80 ad93) (fun _ _ => 0) 54 (shRoof.map (xrelF (54 + ·))) = xw cy ad54 (fun _ _ => 0) 0 shRoof := by
    refine xw_block (o := 54) (n := 13) (fun i hi => ?_) (fun i hi b => ?_) shRoof 0 rfl (by decide +kernel)
    · show glX2_init a q1 ad2 ad15 ad28 ad41 ad54 ad67 ad80 ad93 (54 + i) = ad54 i
      unfold glX2_init
      rw [if_neg (show ¬ 54 + i < 2 by omega), if_neg (show ¬ 54 + i < 15 by omega), if_neg (show ¬ 54 + i < 28 by omega), if_neg (show ¬ 54 + i < 41 by omega), if_neg (show ¬ 54 + i < 54 by omega), if_pos (show 54 + i < 67 by omega)]
      rw [show 54 + i - 54 = i by omega]
    · rfl
  have b67 : xw cy (glX2_init a q1 ad2 ad15 ad28 ad41 ad54 ad67 ad80 ad93) (fun _ _ => 0) 67 (shRoof.map (xrelF (67 + ·))) = xw cy ad67 (fun _ _ => 0) 0 shRoof := by
    refine xw_block (o := 67) (n := 13) (fun i hi => ?_) (fun i hi b => ?_) shRoof 0 rfl (by decide +kernel)
    · show glX2_init a q1 ad2 ad15 ad28 ad41 ad54 ad67 ad80 ad93 (67 + i) = ad67 i
      unfold glX2_init
      rw [if_neg (show ¬ 67 + i < 2 by omega), if_neg (show ¬ 67 + i < 15 by omega), if_neg (show ¬ 67 + i < 28 by omega), if_neg (show ¬ 67 + i < 41 by omega), if_neg (show ¬ 67 + i < 54 by omega), if_neg (show ¬ 67 + i < 67 by omega), if_pos (show 67 + i < 80 by omega)]
      rw [show 67 + i - 67 = i by omega]
    · rfl
  have b80 : xw cy (glX2_init a q1 ad2 ad15 ad28 ad41 ad54 ad67 ad80 ad93) (fun _ _ => 0) 80 (shRoof.map (xrelF (80 + ·))) = xw cy ad80 (fun _ _ => 0) 0 shRoof := by
    refine xw_block (o := 80) (n := 13) (fun i hi => ?_) (fun i hi b => ?_) shRoof 0 rfl (by decide +kernel)
    · show glX2_init a q1 ad2 ad15 ad28 ad41 ad54 ad67 ad80 ad93 (80 + i) = ad80 i
      unfold glX2_init
      rw [if_neg (show ¬ 80 + i < 2 by omega), if_neg (show ¬ 80 + i < 15 by omega), if_neg (show ¬ 80 + i < 28 by omega), if_neg (show ¬ 80 + i < 41 by omega), if_neg (show ¬ 80 + i < 54 by omega), if_neg (show ¬ 80 + i < 67 by omega), if_neg (show ¬ 80 + i < 80 by omega), if_pos (show 80 + i < 93 by omega)]
      rw [show 80 + i - 80 = i by omega]
    · rfl
  have b93 : xw cy (glX2_init a q1 ad2 ad15 ad28 ad41 ad54 ad67 ad80 ad93) (fun _ _ => 0) 93 (shRoof.map (xrelF (93 + ·))) = xw cy ad93 (fun _ _ => 0) 0 shRoof := by
    refine xw_block (o := 93) (n := 13) (fun i hi => ?_) (fun i hi b => ?_) shRoof 0 rfl (by decide +kernel)
    · show glX2_init a q1 ad2 ad15 ad28 ad41 ad54 ad67 ad80 ad93 (93 + i) = ad93 i
      unfold glX2_init
      rw [if_neg (show ¬ 93 + i < 2 by omega), if_neg (show ¬ 93 + i < 15 by omega), if_neg (show ¬ 93 + i < 28 by omega), if_neg (show ¬ 93 + i < 41 by omega), if_neg (show ¬ 93 + i < 54 by omega), if_neg (show ¬ 93 + i < 67 by omega), if_neg (show ¬ 93 + i < 80 by omega), if_neg (show ¬ 93 + i < 93 by omega)]
      rw [show 93 + i - 93 = i by omega]
    · rfl
  have e9 : xw cy (glX2_init a q1 ad2 ad15 ad28 ad41 ad54 ad67 ad80 ad93) (fun _ _ => 0) 0 ([.inl (0, [some 1, none, none]), .inr (.inr [2, 15, 28, 41, 54, 67, 80, 93])] ++ shRoof.map (xrelF (2 + ·)) ++ shRoof.map (xrelF (15 + ·)) ++ shRoof.map (xrelF (28 + ·)) ++ shRoof.map (xrelF (41 + ·)) ++ shRoof.map (xrelF (54 + ·)) ++ shRoof.map (xrelF (67 + ·)) ++ shRoof.map (xrelF (80 + ·)) ++ shRoof.map (xrelF (93 + ·))) = xw cy (glX2_init a q1 ad2 ad15 ad28 ad41 ad54 ad67 ad80 ad93) (fun _ _ => 0) 0 [.inl (0, [some 1, none, none]), .inr (.inr [2, 15, 28, 41, 54, 67, 80, 93])] ++ xw cy (glX2_init a q1 ad2 ad15 ad28 ad41 ad54 ad67 ad80 ad93) (fun _ _ => 0) 2 (shRoof.map (xrelF (2 + ·))) ++ xw cy (glX2_init a q1 ad2 ad15 ad28 ad41 ad54 ad67 ad80 ad93) (fun _ _ => 0) 15 (shRoof.map (xrelF (15 + ·))) ++ xw cy (glX2_init a q1 ad2 ad15 ad28 ad41 ad54 ad67 ad80 ad93) (fun _ _ => 0) 28 (shRoof.map (xrelF (28 + ·))) ++ xw cy (glX2_init a q1 ad2 ad15 ad28 ad41 ad54 ad67 ad80 ad93) (fun _ _ => 0) 41 (shRoof.map (xrelF (41 + ·))) ++ xw cy (glX2_init a q1 ad2 ad15 ad28 ad41 ad54 ad67 ad80 ad93) (fun _ _ => 0) 54 (shRoof.map (xrelF (54 + ·))) ++ xw cy (glX2_init a q1 ad2 ad15 ad28 ad41 ad54 ad67 ad80 ad93) (fun _ _ => 0) 67 (shRoof.map (xrelF (67 + ·))) ++ xw cy (glX2_init a q1 ad2 ad15 ad28 ad41 ad54 ad67 ad80 ad93) (fun _ _ => 0) 80 (shRoof.map (xrelF (80 + ·))) ++ xw cy (glX2_init a q1 ad2 ad15 ad28 ad41 ad54 ad67 ad80 ad93) (fun _ _ => 0) 93 (shRoof.map (xrelF (93 + ·))) := by
    rw [xw_app, xw_app, xw_app, xw_app, xw_app, xw_app, xw_app, xw_app]
    rfl
  rw [hs, e9, b2, b15, b28, b41, b54, b67, b80, b93]
  have e8 : (fun i : Nat => ([(ad2 0), (ad15 0), (ad28 0), (ad41 0), (ad54 0), (ad67 0), (ad80 0), (ad93 0)] : List Nat)[i]?) = fun i : Nat => (([2, 15, 28, 41, 54, 67, 80, 93] : List Nat)[i]?).map (glX2_init a q1 ad2 ad15 ad28 ad41 ad54 ad67 ad80 ad93) := by
    funext i
    rw [← List.getElem?_map]
    rfl
  rw [e8]
  rfl
set_option maxHeartbeats 4000000 in
set_option maxRecDepth 100000 in
theorem c_X2_init (l : Launch) (D : va_G) (cy : Nat → ClassId) (s00 : State) (hO : va_AO "RooftopCats$Roof" s00) : XN l yX2_init cX2_init 2 3 105 1648 D cy s00 0 [.null, .int 0, .int 0] shHist (fun _ _ => 0) := by
  refine XN.of (by decide) (Nat.le_of_ble_eq_true rfl) (fun a p e s m args below meth c A ls E hin hNW hB hl => ?_)
  have hO : ∀ (s : State) {p : Program} {m : MethodId} {args : Array Value} {meth : Method} {c : Code} {cc : ByteArray} {nL : Nat} {own : String} {ret : Option FieldType}, XE p s m args meth c cc nL own ret D cy s00 → va_AO "RooftopCats$Roof" s := fun s _ _ _ _ _ _ _ _ _ E => va_AO.moved E.2.2.2.2.2.2.2.2.1 hO
  refine lv_aload_n E.1 E.2.1 dX2_init_0 rfl (lv_at hl 0 rfl) ?_
  refine x_bobj E hl kw259 kw148 kw149 (Nat.le_of_ble_eq_true rfl) (Nat.le_of_ble_eq_true rfl) dX2_init_1 ?_
  refine lv_aload_n E.1 E.2.1 dX2_init_4 rfl (lv_at hl 0 rfl) ?_
  refine lv_bipush (v := 8) E.1 E.2.1 dX2_init_5 (by decide) ?_
  refine x_bnewq (N' := 8) (hO s E) E hB kw260 (by decide) rfl (Nat.le_of_ble_eq_true rfl) ⟨Nat.le_of_ble_eq_true rfl, Nat.le_of_ble_eq_true rfl⟩ dX2_init_7 (fun q1 H locs hB => ?_)
  have hB : XB D s00 (((a, .inr (0, [.null, .int 0, .int 0])) : Nat × va_E) :: (q1, .inl (cy 4, 8, .inr (.inr (.inr (.inr (fun i => ([] : List Nat)[i]?)))))) :: []) A s H locs := hB
  refine x_bput (ty := .array (.object "RooftopCats$Roof")) (v := .ref q1) E hin hB rfl 0 (by decide) xinX2 tyX2_ok nmX2 kw263 (by decide +kernel) rfl rfl (Nat.le_of_ble_eq_true rfl) rfl dX2_init_10 (fun H locs hB => ?_)
  have hB : XB D s00 (((a, .inr (0, [.ref q1, .int 0, .int 0])) : Nat × va_E) :: (q1, .inl (cy 4, 8, .inr (.inr (.inr (.inr (fun i => ([] : List Nat)[i]?)))))) :: []) A s H locs := hB
  refine lv_aload_n E.1 E.2.1 dX2_init_13 rfl (lv_at hl 0 rfl) ?_
  refine lv_iconst (v := 0) E.1 E.2.1 dX2_init_14 (by decide) ?_
  refine x_bput (ty := .int) (v := .int 0) E hin hB rfl 1 (by decide) xinX2 tyX2_ok nmX2 kw264 (by decide +kernel) (by decide) (by decide) (Nat.le_of_ble_eq_true rfl) rfl dX2_init_15 (fun H locs hB => ?_)
  have hB : XB D s00 (((a, .inr (0, [.ref q1, .int 0, .int 0])) : Nat × va_E) :: (q1, .inl (cy 4, 8, .inr (.inr (.inr (.inr (fun i => ([] : List Nat)[i]?)))))) :: []) A s H locs := hB
  refine lv_aload_n E.1 E.2.1 dX2_init_18 rfl (lv_at hl 0 rfl) ?_
  refine lv_iconst (v := 0) E.1 E.2.1 dX2_init_19 (by decide) ?_
  refine x_bput (ty := .int) (v := .int 0) E hin hB rfl 2 (by decide) xinX2 tyX2_ok nmX2 kw265 (by decide +kernel) (by decide) (by decide) (Nat.le_of_ble_eq_true rfl) rfl dX2_init_20 (fun H locs hB => ?_)
  have hB : XB D s00 (((a, .inr (0, [.ref q1, .int 0, .int 0])) : Nat × va_E) :: (q1, .inl (cy 4, 8, .inr (.inr (.inr (.inr (fun i => ([] : List Nat)[i]?)))))) :: []) A s H locs := hB
  refine lv_iconst (v := 0) E.1 E.2.1 dX2_init_23 (by decide) ?_
  refine lv_istore_n (lv' := [(1, .int 0), (0, .ref a)]) E.1 E.2.1 dX2_init_24 rfl hl (by decide) rfl (fun ls hl => ?_)
  refine lv_iload_n E.1 E.2.1 dX2_init_25 rfl (lv_at hl 0 rfl) ?_
  refine lv_bipush (v := 8) E.1 E.2.1 dX2_init_26 (by decide) ?_
  refine lv_icmp_ge (tgt := 50) E.1 E.2.1 dX2_init_28 (by decide) (fun c9 => absurd c9 (by decide)) (fun _ => ?_)
  refine lv_aload_n E.1 E.2.1 dX2_init_31 rfl (lv_at hl 1 rfl) ?_
  refine x_bget (v := .ref q1) E hB rfl 0 (by decide) xinX2 kw263 rfl dX2_init_32 ?_
  refine lv_iload_n E.1 E.2.1 dX2_init_35 rfl (lv_at hl 0 rfl) ?_
  refine x_bnewN E hNW hB hl (c_X6_init l D cy s00) rfl xinX6 tyX6_ok (fun j hj => by rcases (show j = 0 ∨ j = 1 ∨ j = 2 ∨ j = 3 ∨ j = 4 ∨ j = 5 ∨ j = 6 ∨ j = 7 ∨ j = 8 ∨ j = 9 ∨ j = 10 ∨ j = 11 ∨ j = 12 ∨ j = 13 ∨ j = 14 ∨ j = 15 ∨ j = 16 by omega) with rfl | rfl | rfl | rfl | rfl | rfl | rfl | rfl | rfl | rfl | rfl | rfl | rfl | rfl | rfl | rfl | rfl <;> rfl) kw260 kw151 kw117 (show Cond.methodLinkNest RX2 24 yX6_init RX8 ∈ xNw by simp [xNw]) kw153 kw154 ⟨rfl, rfl⟩ (by decide +kernel) (Nat.le_of_ble_eq_true rfl) ⟨Nat.le_of_ble_eq_true rfl, Nat.le_of_ble_eq_true rfl⟩ ⟨Nat.le_of_ble_eq_true rfl, Nat.le_of_ble_eq_true rfl⟩ ⟨Nat.le_of_ble_eq_true rfl, Nat.le_of_ble_eq_true rfl⟩ dX2_init_36 dX2_init_39 dX2_init_40 (fun ad2 H locs hB => ?_)
  have hB : XB D s00 (((a, .inr (0, [.ref q1, .int 0, .int 0])) : Nat × va_E) :: (q1, .inl (cy 4, 8, .inr (.inr (.inr (.inr (fun i => ([] : List Nat)[i]?)))))) :: ([] ++ xw cy ad2 (fun _ _ => 0) 0 shRoof)) A s H locs := hB
  refine x_bastq (qk := 2) E hB rfl rfl (show ¬ ((0 : Int32) < 0 ∨ 8 ≤ (0 : Int32).toNatClampNeg) by decide) dX2_init_43 (fun H locs hB => ?_)
  have hB : XB D s00 (((a, .inr (0, [.ref q1, .int 0, .int 0])) : Nat × va_E) :: (q1, .inl (cy 4, 8, .inr (.inr (.inr (.inr (fun i => ([(ad2 0)] : List Nat)[i]?)))))) :: ([] ++ xw cy ad2 (fun _ _ => 0) 0 shRoof)) A s H locs := hB
  refine lv_iinc (v := 1) (lv' := [(1, .int 1), (0, .ref a)]) E.1 E.2.1 dX2_init_44 hl (k := 0) rfl (by decide) (by decide) rfl (fun ls hl => ?_)
  refine lv_goto (tgt := 25) E.1 E.2.1 dX2_init_47 (by decide) ?_
  refine lv_iload_n E.1 E.2.1 dX2_init_25 rfl (lv_at hl 0 rfl) ?_
  refine lv_bipush (v := 8) E.1 E.2.1 dX2_init_26 (by decide) ?_
  refine lv_icmp_ge (tgt := 50) E.1 E.2.1 dX2_init_28 (by decide) (fun c9 => absurd c9 (by decide)) (fun _ => ?_)
  refine lv_aload_n E.1 E.2.1 dX2_init_31 rfl (lv_at hl 1 rfl) ?_
  refine x_bget (v := .ref q1) E hB rfl 0 (by decide) xinX2 kw263 rfl dX2_init_32 ?_
  refine lv_iload_n E.1 E.2.1 dX2_init_35 rfl (lv_at hl 0 rfl) ?_
  refine x_bnewN E hNW hB hl (c_X6_init l D cy s00) rfl xinX6 tyX6_ok (fun j hj => by rcases (show j = 0 ∨ j = 1 ∨ j = 2 ∨ j = 3 ∨ j = 4 ∨ j = 5 ∨ j = 6 ∨ j = 7 ∨ j = 8 ∨ j = 9 ∨ j = 10 ∨ j = 11 ∨ j = 12 ∨ j = 13 ∨ j = 14 ∨ j = 15 ∨ j = 16 by omega) with rfl | rfl | rfl | rfl | rfl | rfl | rfl | rfl | rfl | rfl | rfl | rfl | rfl | rfl | rfl | rfl | rfl <;> rfl) kw260 kw151 kw117 (show Cond.methodLinkNest RX2 24 yX6_init RX8 ∈ xNw by simp [xNw]) kw153 kw154 ⟨rfl, rfl⟩ (by decide +kernel) (Nat.le_of_ble_eq_true rfl) ⟨Nat.le_of_ble_eq_true rfl, Nat.le_of_ble_eq_true rfl⟩ ⟨Nat.le_of_ble_eq_true rfl, Nat.le_of_ble_eq_true rfl⟩ ⟨Nat.le_of_ble_eq_true rfl, Nat.le_of_ble_eq_true rfl⟩ dX2_init_36 dX2_init_39 dX2_init_40 (fun ad15 H locs hB => ?_)
  have hB : XB D s00 (((a, .inr (0, [.ref q1, .int 0, .int 0])) : Nat × va_E) :: (q1, .inl (cy 4, 8, .inr (.inr (.inr (.inr (fun i => ([(ad2 0)] : List Nat)[i]?)))))) :: (([] ++ xw cy ad2 (fun _ _ => 0) 0 shRoof) ++ xw cy ad15 (fun _ _ => 0) 0 shRoof)) A s H locs := hB
  refine x_bastq (qk := 15) E hB rfl rfl (show ¬ ((1 : Int32) < 0 ∨ 8 ≤ (1 : Int32).toNatClampNeg) by decide) dX2_init_43 (fun H locs hB => ?_)
  have hB : XB D s00 (((a, .inr (0, [.ref q1, .int 0, .int 0])) : Nat × va_E) :: (q1, .inl (cy 4, 8, .inr (.inr (.inr (.inr (fun i => ([(ad2 0), (ad15 0)] : List Nat)[i]?)))))) :: (([] ++ xw cy ad2 (fun _ _ => 0) 0 shRoof) ++ xw cy ad15 (fun _ _ => 0) 0 shRoof)) A s H locs := hB
  refine lv_iinc (v := 2) (lv' := [(1, .int 2), (0, .ref a)]) E.1 E.2.1 dX2_init_44 hl (k := 0) rfl (by decide) (by decide) rfl (fun ls hl => ?_)
  refine lv_goto (tgt := 25) E.1 E.2.1 dX2_init_47 (by decide) ?_
  refine lv_iload_n E.1 E.2.1 dX2_init_25 rfl (lv_at hl 0 rfl) ?_
  refine lv_bipush (v := 8) E.1 E.2.1 dX2_init_26 (by decide) ?_
  refine lv_icmp_ge (tgt := 50) E.1 E.2.1 dX2_init_28 (by decide) (fun c9 => absurd c9 (by decide)) (fun _ => ?_)
  refine lv_aload_n E.1 E.2.1 dX2_init_31 rfl (lv_at hl 1 rfl) ?_
  refine x_bget (v := .ref q1) E hB rfl 0 (by decide) xinX2 kw263 rfl dX2_init_32 ?_
  refine lv_iload_n E.1 E.2.1 dX2_init_35 rfl (lv_at hl 0 rfl) ?_
  refine x_bnewN E hNW hB hl (c_X6_init l D cy s00) rfl xinX6 tyX6_ok (fun j hj => by rcases (show j = 0 ∨ j = 1 ∨ j = 2 ∨ j = 3 ∨ j = 4 ∨ j = 5 ∨ j = 6 ∨ j = 7 ∨ j = 8 ∨ j = 9 ∨ j = 10 ∨ j = 11 ∨ j = 12 ∨ j = 13 ∨ j = 14 ∨ j = 15 ∨ j = 16 by omega) with rfl | rfl | rfl | rfl | rfl | rfl | rfl | rfl | rfl | rfl | rfl | rfl | rfl | rfl | rfl | rfl | rfl <;> rfl) kw260 kw151 kw117 (show Cond.methodLinkNest RX2 24 yX6_init RX8 ∈ xNw by simp [xNw]) kw153 kw154 ⟨rfl, rfl⟩ (by decide +kernel) (Nat.le_of_ble_eq_true rfl) ⟨Nat.le_of_ble_eq_true rfl, Nat.le_of_ble_eq_true rfl⟩ ⟨Nat.le_of_ble_eq_true rfl, Nat.le_of_ble_eq_true rfl⟩ ⟨Nat.le_of_ble_eq_true rfl, Nat.le_of_ble_eq_true rfl⟩ dX2_init_36 dX2_init_39 dX2_init_40 (fun ad28 H locs hB => ?_)
  have hB : XB D s00 (((a, .inr (0, [.ref q1, .int 0, .int 0])) : Nat × va_E) :: (q1, .inl (cy 4, 8, .inr (.inr (.inr (.inr (fun i => ([(ad2 0), (ad15 0)] : List Nat)[i]?)))))) :: ((([] ++ xw cy ad2 (fun _ _ => 0) 0 shRoof) ++ xw cy ad15 (fun _ _ => 0) 0 shRoof) ++ xw cy ad28 (fun _ _ => 0) 0 shRoof)) A s H locs := hB
  refine x_bastq (qk := 28) E hB rfl rfl (show ¬ ((2 : Int32) < 0 ∨ 8 ≤ (2 : Int32).toNatClampNeg) by decide) dX2_init_43 (fun H locs hB => ?_)
  have hB : XB D s00 (((a, .inr (0, [.ref q1, .int 0, .int 0])) : Nat × va_E) :: (q1, .inl (cy 4, 8, .inr (.inr (.inr (.inr (fun i => ([(ad2 0), (ad15 0), (ad28 0)] : List Nat)[i]?)))))) :: ((([] ++ xw cy ad2 (fun _ _ => 0) 0 shRoof) ++ xw cy ad15 (fun _ _ => 0) 0 shRoof) ++ xw cy ad28 (fun _ _ => 0) 0 shRoof)) A s H locs := hB
  refine lv_iinc (v := 3) (lv' := [(1, .int 3), (0, .ref a)]) E.1 E.2.1 dX2_init_44 hl (k := 0) rfl (by decide) (by decide) rfl (fun ls hl => ?_)
  refine lv_goto (tgt := 25) E.1 E.2.1 dX2_init_47 (by decide) ?_
  refine lv_iload_n E.1 E.2.1 dX2_init_25 rfl (lv_at hl 0 rfl) ?_
  refine lv_bipush (v := 8) E.1 E.2.1 dX2_init_26 (by decide) ?_
  refine lv_icmp_ge (tgt := 50) E.1 E.2.1 dX2_init_28 (by decide) (fun c9 => absurd c9 (by decide)) (fun _ => ?_)
  refine lv_aload_n E.1 E.2.1 dX2_init_31 rfl (lv_at hl 1 rfl) ?_
  refine x_bget (v := .ref q1) E hB rfl 0 (by decide) xinX2 kw263 rfl dX2_init_32 ?_
  refine lv_iload_n E.1 E.2.1 dX2_init_35 rfl (lv_at hl 0 rfl) ?_
  refine x_bnewN E hNW hB hl (c_X6_init l D cy s00) rfl xinX6 tyX6_ok (fun j hj => by rcases (show j = 0 ∨ j = 1 ∨ j = 2 ∨ j = 3 ∨ j = 4 ∨ j = 5 ∨ j = 6 ∨ j = 7 ∨ j = 8 ∨ j = 9 ∨ j = 10 ∨ j = 11 ∨ j = 12 ∨ j = 13 ∨ j = 14 ∨ j = 15 ∨ j = 16 by omega) with rfl | rfl | rfl | rfl | rfl | rfl | rfl | rfl | rfl | rfl | rfl | rfl | rfl | rfl | rfl | rfl | rfl <;> rfl) kw260 kw151 kw117 (show Cond.methodLinkNest RX2 24 yX6_init RX8 ∈ xNw by simp [xNw]) kw153 kw154 ⟨rfl, rfl⟩ (by decide +kernel) (Nat.le_of_ble_eq_true rfl) ⟨Nat.le_of_ble_eq_true rfl, Nat.le_of_ble_eq_true rfl⟩ ⟨Nat.le_of_ble_eq_true rfl, Nat.le_of_ble_eq_true rfl⟩ ⟨Nat.le_of_ble_eq_true rfl, Nat.le_of_ble_eq_true rfl⟩ dX2_init_36 dX2_init_39 dX2_init_40 (fun ad41 H locs hB => ?_)
  have hB : XB D s00 (((a, .inr (0, [.ref q1, .int 0, .int 0])) : Nat × va_E) :: (q1, .inl (cy 4, 8, .inr (.inr (.inr (.inr (fun i => ([(ad2 0), (ad15 0), (ad28 0)] : List Nat)[i]?)))))) :: (((([] ++ xw cy ad2 (fun _ _ => 0) 0 shRoof) ++ xw cy ad15 (fun _ _ => 0) 0 shRoof) ++ xw cy ad28 (fun _ _ => 0) 0 shRoof) ++ xw cy ad41 (fun _ _ => 0) 0 shRoof)) A s H locs := hB
  refine x_bastq (qk := 41) E hB rfl rfl (show ¬ ((3 : Int32) < 0 ∨ 8 ≤ (3 : Int32).toNatClampNeg) by decide) dX2_init_43 (fun H locs hB => ?_)
  have hB : XB D s00 (((a, .inr (0, [.ref q1, .int 0, .int 0])) : Nat × va_E) :: (q1, .inl (cy 4, 8, .inr (.inr (.inr (.inr (fun i => ([(ad2 0), (ad15 0), (ad28 0), (ad41 0)] : List Nat)[i]?)))))) :: (((([] ++ xw cy ad2 (fun _ _ => 0) 0 shRoof) ++ xw cy ad15 (fun _ _ => 0) 0 shRoof) ++ xw cy ad28 (fun _ _ => 0) 0 shRoof) ++ xw cy ad41 (fun _ _ => 0) 0 shRoof)) A s H locs := hB
  refine lv_iinc (v := 4) (lv' := [(1, .int 4), (0, .ref a)]) E.1 E.2.1 dX2_init_44 hl (k := 0) rfl (by decide) (by decide) rfl (fun ls hl => ?_)
  refine lv_goto (tgt := 25) E.1 E.2.1 dX2_init_47 (by decide) ?_
  refine lv_iload_n E.1 E.2.1 dX2_init_25 rfl (lv_at hl 0 rfl) ?_
  refine lv_bipush (v := 8) E.1 E.2.1 dX2_init_26 (by decide) ?_
  refine lv_icmp_ge (tgt := 50) E.1 E.2.1 dX2_init_28 (by decide) (fun c9 => absurd c9 (by decide)) (fun _ => ?_)
  refine lv_aload_n E.1 E.2.1 dX2_init_31 rfl (lv_at hl 1 rfl) ?_
  refine x_bget (v := .ref q1) E hB rfl 0 (by decide) xinX2 kw263 rfl dX2_init_32 ?_
  refine lv_iload_n E.1 E.2.1 dX2_init_35 rfl (lv_at hl 0 rfl) ?_
  refine x_bnewN E hNW hB hl (c_X6_init l D cy s00) rfl xinX6 tyX6_ok (fun j hj => by rcases (show j = 0 ∨ j = 1 ∨ j = 2 ∨ j = 3 ∨ j = 4 ∨ j = 5 ∨ j = 6 ∨ j = 7 ∨ j = 8 ∨ j = 9 ∨ j = 10 ∨ j = 11 ∨ j = 12 ∨ j = 13 ∨ j = 14 ∨ j = 15 ∨ j = 16 by omega) with rfl | rfl | rfl | rfl | rfl | rfl | rfl | rfl | rfl | rfl | rfl | rfl | rfl | rfl | rfl | rfl | rfl <;> rfl) kw260 kw151 kw117 (show Cond.methodLinkNest RX2 24 yX6_init RX8 ∈ xNw by simp [xNw]) kw153 kw154 ⟨rfl, rfl⟩ (by decide +kernel) (Nat.le_of_ble_eq_true rfl) ⟨Nat.le_of_ble_eq_true rfl, Nat.le_of_ble_eq_true rfl⟩ ⟨Nat.le_of_ble_eq_true rfl, Nat.le_of_ble_eq_true rfl⟩ ⟨Nat.le_of_ble_eq_true rfl, Nat.le_of_ble_eq_true rfl⟩ dX2_init_36 dX2_init_39 dX2_init_40 (fun ad54 H locs hB => ?_)
  have hB : XB D s00 (((a, .inr (0, [.ref q1, .int 0, .int 0])) : Nat × va_E) :: (q1, .inl (cy 4, 8, .inr (.inr (.inr (.inr (fun i => ([(ad2 0), (ad15 0), (ad28 0), (ad41 0)] : List Nat)[i]?)))))) :: ((((([] ++ xw cy ad2 (fun _ _ => 0) 0 shRoof) ++ xw cy ad15 (fun _ _ => 0) 0 shRoof) ++ xw cy ad28 (fun _ _ => 0) 0 shRoof) ++ xw cy ad41 (fun _ _ => 0) 0 shRoof) ++ xw cy ad54 (fun _ _ => 0) 0 shRoof)) A s H locs := hB
  refine x_bastq (qk := 54) E hB rfl rfl (show ¬ ((4 : Int32) < 0 ∨ 8 ≤ (4 : Int32).toNatClampNeg) by decide) dX2_init_43 (fun H locs hB => ?_)
  have hB : XB D s00 (((a, .inr (0, [.ref q1, .int 0, .int 0])) : Nat × va_E) :: (q1, .inl (cy 4, 8, .inr (.inr (.inr (.inr (fun i => ([(ad2 0), (ad15 0), (ad28 0), (ad41 0), (ad54 0)] : List Nat)[i]?)))))) :: ((((([] ++ xw cy ad2 (fun _ _ => 0) 0 shRoof) ++ xw cy ad15 (fun _ _ => 0) 0 shRoof) ++ xw cy ad28 (fun _ _ => 0) 0 shRoof) ++ xw cy ad41 (fun _ _ => 0) 0 shRoof) ++ xw cy ad54 (fun _ _ => 0) 0 shRoof)) A s H locs := hB
  refine lv_iinc (v := 5) (lv' := [(1, .int 5), (0, .ref a)]) E.1 E.2.1 dX2_init_44 hl (k := 0) rfl (by decide) (by decide) rfl (fun ls hl => ?_)
  refine lv_goto (tgt := 25) E.1 E.2.1 dX2_init_47 (by decide) ?_
  refine lv_iload_n E.1 E.2.1 dX2_init_25 rfl (lv_at hl 0 rfl) ?_
  refine lv_bipush (v := 8) E.1 E.2.1 dX2_init_26 (by decide) ?_
  refine lv_icmp_ge (tgt := 50) E.1 E.2.1 dX2_init_28 (by decide) (fun c9 => absurd c9 (by decide)) (fun _ => ?_)
  refine lv_aload_n E.1 E.2.1 dX2_init_31 rfl (lv_at hl 1 rfl) ?_
  refine x_bget (v := .ref q1) E hB rfl 0 (by decide) xinX2 kw263 rfl dX2_init_32 ?_
  refine lv_iload_n E.1 E.2.1 dX2_init_35 rfl (lv_at hl 0 rfl) ?_
  refine x_bnewN E hNW hB hl (c_X6_init l D cy s00) rfl xinX6 tyX6_ok (fun j hj => by rcases (show j = 0 ∨ j = 1 ∨ j = 2 ∨ j = 3 ∨ j = 4 ∨ j = 5 ∨ j = 6 ∨ j = 7 ∨ j = 8 ∨ j = 9 ∨ j = 10 ∨ j = 11 ∨ j = 12 ∨ j = 13 ∨ j = 14 ∨ j = 15 ∨ j = 16 by omega) with rfl | rfl | rfl | rfl | rfl | rfl | rfl | rfl | rfl | rfl | rfl | rfl | rfl | rfl | rfl | rfl | rfl <;> rfl) kw260 kw151 kw117 (show Cond.methodLinkNest RX2 24 yX6_init RX8 ∈ xNw by simp [xNw]) kw153 kw154 ⟨rfl, rfl⟩ (by decide +kernel) (Nat.le_of_ble_eq_true rfl) ⟨Nat.le_of_ble_eq_true rfl, Nat.le_of_ble_eq_true rfl⟩ ⟨Nat.le_of_ble_eq_true rfl, Nat.le_of_ble_eq_true rfl⟩ ⟨Nat.le_of_ble_eq_true rfl, Nat.le_of_ble_eq_true rfl⟩ dX2_init_36 dX2_init_39 dX2_init_40 (fun ad67 H locs hB => ?_)
  have hB : XB D s00 (((a, .inr (0, [.ref q1, .int 0, .int 0])) : Nat × va_E) :: (q1, .inl (cy 4, 8, .inr (.inr (.inr (.inr (fun i => ([(ad2 0), (ad15 0), (ad28 0), (ad41 0), (ad54 0)] : List Nat)[i]?)))))) :: (((((([] ++ xw cy ad2 (fun _ _ => 0) 0 shRoof) ++ xw cy ad15 (fun _ _ => 0) 0 shRoof) ++ xw cy ad28 (fun _ _ => 0) 0 shRoof) ++ xw cy ad41 (fun _ _ => 0) 0 shRoof) ++ xw cy ad54 (fun _ _ => 0) 0 shRoof) ++ xw cy ad67 (fun _ _ => 0) 0 shRoof)) A s H locs := hB
  refine x_bastq (qk := 67) E hB rfl rfl (show ¬ ((5 : Int32) < 0 ∨ 8 ≤ (5 : Int32).toNatClampNeg) by decide) dX2_init_43 (fun H locs hB => ?_)
  have hB : XB D s00 (((a, .inr (0, [.ref q1, .int 0, .int 0])) : Nat × va_E) :: (q1, .inl (cy 4, 8, .inr (.inr (.inr (.inr (fun i => ([(ad2 0), (ad15 0), (ad28 0), (ad41 0), (ad54 0), (ad67 0)] : List Nat)[i]?)))))) :: (((((([] ++ xw cy ad2 (fun _ _ => 0) 0 shRoof) ++ xw cy ad15 (fun _ _ => 0) 0 shRoof) ++ xw cy ad28 (fun _ _ => 0) 0 shRoof) ++ xw cy ad41 (fun _ _ => 0) 0 shRoof) ++ xw cy ad54 (fun _ _ => 0) 0 shRoof) ++ xw cy ad67 (fun _ _ => 0) 0 shRoof)) A s H locs := hB
  refine lv_iinc (v := 6) (lv' := [(1, .int 6), (0, .ref a)]) E.1 E.2.1 dX2_init_44 hl (k := 0) rfl (by decide) (by decide) rfl (fun ls hl => ?_)
  refine lv_goto (tgt := 25) E.1 E.2.1 dX2_init_47 (by decide) ?_
  refine lv_iload_n E.1 E.2.1 dX2_init_25 rfl (lv_at hl 0 rfl) ?_
  refine lv_bipush (v := 8) E.1 E.2.1 dX2_init_26 (by decide) ?_
  refine lv_icmp_ge (tgt := 50) E.1 E.2.1 dX2_init_28 (by decide) (fun c9 => absurd c9 (by decide)) (fun _ => ?_)
  refine lv_aload_n E.1 E.2.1 dX2_init_31 rfl (lv_at hl 1 rfl) ?_
  refine x_bget (v := .ref q1) E hB rfl 0 (by decide) xinX2 kw263 rfl dX2_init_32 ?_
  refine lv_iload_n E.1 E.2.1 dX2_init_35 rfl (lv_at hl 0 rfl) ?_
  refine x_bnewN E hNW hB hl (c_X6_init l D cy s00) rfl xinX6 tyX6_ok (fun j hj => by rcases (show j = 0 ∨ j = 1 ∨ j = 2 ∨ j = 3 ∨ j = 4 ∨ j = 5 ∨ j = 6 ∨ j = 7 ∨ j = 8 ∨ j = 9 ∨ j = 10 ∨ j = 11 ∨ j = 12 ∨ j = 13 ∨ j = 14 ∨ j = 15 ∨ j = 16 by omega) with rfl | rfl | rfl | rfl | rfl | rfl | rfl | rfl | rfl | rfl | rfl | rfl | rfl | rfl | rfl | rfl | rfl <;> rfl) kw260 kw151 kw117 (show Cond.methodLinkNest RX2 24 yX6_init RX8 ∈ xNw by simp [xNw]) kw153 kw154 ⟨rfl, rfl⟩ (by decide +kernel) (Nat.le_of_ble_eq_true rfl) ⟨Nat.le_of_ble_eq_true rfl, Nat.le_of_ble_eq_true rfl⟩ ⟨Nat.le_of_ble_eq_true rfl, Nat.le_of_ble_eq_true rfl⟩ ⟨Nat.le_of_ble_eq_true rfl, Nat.le_of_ble_eq_true rfl⟩ dX2_init_36 dX2_init_39 dX2_init_40 (fun ad80 H locs hB => ?_)
  have hB : XB D s00 (((a, .inr (0, [.ref q1, .int 0, .int 0])) : Nat × va_E) :: (q1, .inl (cy 4, 8, .inr (.inr (.inr (.inr (fun i => ([(ad2 0), (ad15 0), (ad28 0), (ad41 0), (ad54 0), (ad67 0)] : List Nat)[i]?)))))) :: ((((((([] ++ xw cy ad2 (fun _ _ => 0) 0 shRoof) ++ xw cy ad15 (fun _ _ => 0) 0 shRoof) ++ xw cy ad28 (fun _ _ => 0) 0 shRoof) ++ xw cy ad41 (fun _ _ => 0) 0 shRoof) ++ xw cy ad54 (fun _ _ => 0) 0 shRoof) ++ xw cy ad67 (fun _ _ => 0) 0 shRoof) ++ xw cy ad80 (fun _ _ => 0) 0 shRoof)) A s H locs := hB
  refine x_bastq (qk := 80) E hB rfl rfl (show ¬ ((6 : Int32) < 0 ∨ 8 ≤ (6 : Int32).toNatClampNeg) by decide) dX2_init_43 (fun H locs hB => ?_)
  have hB : XB D s00 (((a, .inr (0, [.ref q1, .int 0, .int 0])) : Nat × va_E) :: (q1, .inl (cy 4, 8, .inr (.inr (.inr (.inr (fun i => ([(ad2 0), (ad15 0), (ad28 0), (ad41 0), (ad54 0), (ad67 0), (ad80 0)] : List Nat)[i]?)))))) :: ((((((([] ++ xw cy ad2 (fun _ _ => 0) 0 shRoof) ++ xw cy ad15 (fun _ _ => 0) 0 shRoof) ++ xw cy ad28 (fun _ _ => 0) 0 shRoof) ++ xw cy ad41 (fun _ _ => 0) 0 shRoof) ++ xw cy ad54 (fun _ _ => 0) 0 shRoof) ++ xw cy ad67 (fun _ _ => 0) 0 shRoof) ++ xw cy ad80 (fun _ _ => 0) 0 shRoof)) A s H locs := hB
  refine lv_iinc (v := 7) (lv' := [(1, .int 7), (0, .ref a)]) E.1 E.2.1 dX2_init_44 hl (k := 0) rfl (by decide) (by decide) rfl (fun ls hl => ?_)
  refine lv_goto (tgt := 25) E.1 E.2.1 dX2_init_47 (by decide) ?_
  refine lv_iload_n E.1 E.2.1 dX2_init_25 rfl (lv_at hl 0 rfl) ?_
  refine lv_bipush (v := 8) E.1 E.2.1 dX2_init_26 (by decide) ?_
  refine lv_icmp_ge (tgt := 50) E.1 E.2.1 dX2_init_28 (by decide) (fun c9 => absurd c9 (by decide)) (fun _ => ?_)
  refine lv_aload_n E.1 E.2.1 dX2_init_31 rfl (lv_at hl 1 rfl) ?_
  refine x_bget (v := .ref q1) E hB rfl 0 (by decide) xinX2 kw263 rfl dX2_init_32 ?_
  refine lv_iload_n E.1 E.2.1 dX2_init_35 rfl (lv_at hl 0 rfl) ?_
  refine x_bnewN E hNW hB hl (c_X6_init l D cy s00) rfl xinX6 tyX6_ok (fun j hj => by rcases (show j = 0 ∨ j = 1 ∨ j = 2 ∨ j = 3 ∨ j = 4 ∨ j = 5 ∨ j = 6 ∨ j = 7 ∨ j = 8 ∨ j = 9 ∨ j = 10 ∨ j = 11 ∨ j = 12 ∨ j = 13 ∨ j = 14 ∨ j = 15 ∨ j = 16 by omega) with rfl | rfl | rfl | rfl | rfl | rfl | rfl | rfl | rfl | rfl | rfl | rfl | rfl | rfl | rfl | rfl | rfl <;> rfl) kw260 kw151 kw117 (show Cond.methodLinkNest RX2 24 yX6_init RX8 ∈ xNw by simp [xNw]) kw153 kw154 ⟨rfl, rfl⟩ (by decide +kernel) (Nat.le_of_ble_eq_true rfl) ⟨Nat.le_of_ble_eq_true rfl, Nat.le_of_ble_eq_true rfl⟩ ⟨Nat.le_of_ble_eq_true rfl, Nat.le_of_ble_eq_true rfl⟩ ⟨Nat.le_of_ble_eq_true rfl, Nat.le_of_ble_eq_true rfl⟩ dX2_init_36 dX2_init_39 dX2_init_40 (fun ad93 H locs hB => ?_)
  have hB : XB D s00 (((a, .inr (0, [.ref q1, .int 0, .int 0])) : Nat × va_E) :: (q1, .inl (cy 4, 8, .inr (.inr (.inr (.inr (fun i => ([(ad2 0), (ad15 0), (ad28 0), (ad41 0), (ad54 0), (ad67 0), (ad80 0)] : List Nat)[i]?)))))) :: (((((((([] ++ xw cy ad2 (fun _ _ => 0) 0 shRoof) ++ xw cy ad15 (fun _ _ => 0) 0 shRoof) ++ xw cy ad28 (fun _ _ => 0) 0 shRoof) ++ xw cy ad41 (fun _ _ => 0) 0 shRoof) ++ xw cy ad54 (fun _ _ => 0) 0 shRoof) ++ xw cy ad67 (fun _ _ => 0) 0 shRoof) ++ xw cy ad80 (fun _ _ => 0) 0 shRoof) ++ xw cy ad93 (fun _ _ => 0) 0 shRoof)) A s H locs := hB
  refine x_bastq (qk := 93) E hB rfl rfl (show ¬ ((7 : Int32) < 0 ∨ 8 ≤ (7 : Int32).toNatClampNeg) by decide) dX2_init_43 (fun H locs hB => ?_)
  have hB : XB D s00 (((a, .inr (0, [.ref q1, .int 0, .int 0])) : Nat × va_E) :: (q1, .inl (cy 4, 8, .inr (.inr (.inr (.inr (fun i => ([(ad2 0), (ad15 0), (ad28 0), (ad41 0), (ad54 0), (ad67 0), (ad80 0), (ad93 0)] : List Nat)[i]?)))))) :: (((((((([] ++ xw cy ad2 (fun _ _ => 0) 0 shRoof) ++ xw cy ad15 (fun _ _ => 0) 0 shRoof) ++ xw cy ad28 (fun _ _ => 0) 0 shRoof) ++ xw cy ad41 (fun _ _ => 0) 0 shRoof) ++ xw cy ad54 (fun _ _ => 0) 0 shRoof) ++ xw cy ad67 (fun _ _ => 0) 0 shRoof) ++ xw cy ad80 (fun _ _ => 0) 0 shRoof) ++ xw cy ad93 (fun _ _ => 0) 0 shRoof)) A s H locs := hB
  refine lv_iinc (v := 8) (lv' := [(1, .int 8), (0, .ref a)]) E.1 E.2.1 dX2_init_44 hl (k := 0) rfl (by decide) (by decide) rfl (fun ls hl => ?_)
  refine lv_goto (tgt := 25) E.1 E.2.1 dX2_init_47 (by decide) ?_
  refine lv_iload_n E.1 E.2.1 dX2_init_25 rfl (lv_at hl 0 rfl) ?_
  refine lv_bipush (v := 8) E.1 E.2.1 dX2_init_26 (by decide) ?_
  refine lv_icmp_ge (tgt := 50) E.1 E.2.1 dX2_init_28 (by decide) (fun _ => ?_) (fun c9 => absurd (by decide) c9)
  exact x_bret (ad := (glX2_init a q1 ad2 ad15 ad28 ad41 ad54 ad67 ad80 ad93)) (S0 := (fun _ _ => 0)) E hB (eX2_init cy a q1 ad2 ad15 ad28 ad41 ad54 ad67 ad80 ad93) rfl ⟨Nat.le_of_ble_eq_true rfl, Nat.le_of_ble_eq_true rfl⟩ dX2_init_50
