/-! x_b: objects in the making: a world of cells, its first the object -/
def XB (D : va_G) (s00 : State) (ws : va_W) (A : Nat → Prop) (s : State) (H : Heap) (locs : List Loc) : Prop :=
  va_P D vwCl ws H ∧ va_D A ws ∧ va_S A s.heap H locs ∧ (∀ q, s.heap.size ≤ q → A q) ∧ (∀ q, q < s00.heap.size → H[q]? = s00.heap[q]?) ∧ (∀ q, A q → s00.heap.size ≤ q)
def xNw : List Cond := [.methodLinkNest RX6 63 yX3_init RX8, .methodLinkNest RX8 9 yX6_init RX8, .methodLinkNest RX2 24 yX6_init RX8, .methodLinkNest RX8 32 yX7_init RX8, .methodLinkNest RX7 11 yX4_init RX8, .methodLinkNest RX7 20 yX6_init RX8, .methodLinkNest RX8 39 yX5_init RX8]
def xNW (U : State) : Prop := ∀ w ∈ xNw, va_Nw w U
theorem xNW.warm {s U : State} (hW : s.WarmedH U.vm) (h : xNW s) : xNW U := by
  intro w hw
  have h1 := h w hw
  simp only [xNw, List.mem_cons, List.not_mem_nil, or_false] at hw
  rcases hw with rfl | rfl | rfl | rfl | rfl | rfl | rfl <;> exact va_Nw.warmM hW h1
theorem xNW.same {s U : State} (e : s.vm = U.vm) (h : xNW s) : xNW U := by
  intro w hw
  have h1 := h w hw
  simp only [xNw, List.mem_cons, List.not_mem_nil, or_false] at hw
  rcases hw with rfl | rfl | rfl | rfl | rfl | rfl | rfl <;> exact va_Nw.same rfl e h1
def xPreB (D : va_G) (cy : Nat → ClassId) (s00 : State) (ws : va_W) (sz : Nat) (U : State) : Prop :=
  U.heap.size = sz ∧ va_P D vwCl ws U.heap ∧ va_K D vwCl (xtys cy) U ∧ va_D (fun _ => True) ws ∧ xAl s00 U ∧ (∀ q, q < s00.heap.size → U.heap[q]? = s00.heap[q]?) ∧ (∀ q, va_A ws sz q → s00.heap.size ≤ q) ∧ xNW U
def xrn (d k m : Nat) : Room := { frames := d, cells := k, slots := m, locals := 60 * d }
def xQN (D : va_G) (cy : Nat → ClassId) (a : Nat) (sh : List XC) (S0 : XS) (A : Nat → Prop) : Array Value → State → Outcome → State → Prop := va_Qv (fun (_ : Nat → Nat) => True) (fun ad t => ad 0 = a ∧ va_P D vwCl (xw cy ad S0 0 sh) t.heap ∧ va_D A (xw cy ad S0 0 sh)) A
/-- a constructor without arguments -/
def XN (l : Launch) (y : MethodName) (cc : ByteArray) (nL d k m : Nat) (D : va_G) (cy : Nat → ClassId) (s00 : State) (ci : Nat) (fs : List Value) (sh : List XC) (S0 : XS) : Prop :=
  ∀ (a sz : Nat), Met l y (xws y cc nL none) (xrn d k m) (va_Pc [.ref a] (xPreB D cy s00 [(a, .inr (ci, fs))] sz)) (xQN D cy a sh S0 (va_A [(a, .inr (ci, fs))] sz)) k m (va_A [(a, .inr (ci, fs))] sz)
theorem xPreB_blind {D : va_G} {cy : Nat → ClassId} {s00 : State} {ws : va_W} {sz : Nat} {av : List Value} : FrameBlind (va_Pc av (xPreB D cy s00 ws sz)) := fun av' U gg mk q => by
  obtain ⟨q0, q1, q2, q3, q4, q5, q6, q7, q8⟩ := q
  exact ⟨q0, q1, q2, va_K.moved (u := U) (U := U.calling gg mk av') (Vm.Alike.refl U.vm) q3, q4, ⟨q5.1, fun own k tx a g => vk_R.same (u := U) (U := U.calling _ mk _) rfl (q5.2 own k tx a g)⟩, q6, q7, xNW.same (s := U) (U := U.calling gg mk av') rfl q8⟩
section XBBody
variable {l : Launch} {y : MethodName} {cc : ByteArray} {nL d k m9 : Nat} {D : va_G} {cy : Nat → ClassId} {s00 : State} {sh : List XC} {S0 : XS} {ci : Nat} {fs : List Value}
theorem XN.of (hy : plainName y.cls = true) (hn : 1 ≤ nL)
    (body : ∀ (a : Nat) (p : Program) (e : Env) (s : State) (m : MethodId) (args : Array Value) (below : List Frame) (meth : Method) (c : Code) (A : Nat → Prop) (ls : Array Slot), XE p s m args meth c cc nL y.cls none D cy s00 → meth.name = y.name → xNW s → XB D s00 [(a, .inr (ci, fs))] A s s.heap [] → lv_has ls nL [(0, .ref a)] → W p l e (xrn d k m9) s m args below meth c s.heap [] 0 0 (MQ below (xQN D cy a sh S0 A) args s k m9 A) (F0 m 0 ls [])) :
    XN l y cc nL d k m9 D cy s00 ci fs sh S0 := by
  intro a sz
  refine Met.ofW (cc := cc) (maxL := nL) (ret := none) hy rfl ?_
  intro p e s m args below meth c s₁ B hml hv
  obtain ⟨rfl, hsz, hP, hK, hD0, hal, h00, hA0, hNW⟩ := hv
  have hts := atoms_spec (ws := xws y cc nL none) B.pre
  subst hsz
  have hl := lv_entry [.ref a] (n := nL) hn
  rw [lg_entry_eq]
  exact body a p e s m [.ref a].toArray below meth c _ _ ⟨B.exec, B.bytes, hml, findClass_of_methodNamed B.named, fun w hw => hts w (List.mem_cons_of_mem _ hw), B.notSynchronized, B.returns, hK, hal⟩ (name_of_methodNamed B.named B.method).1 hNW
    ⟨hP, hD0.self, va_S.rf, fun q hq => Or.inr hq, h00, hA0⟩ hl
end XBBody
section XBRow
variable {p : Program} {l : Launch} {e : Env} {R : Room} {s : State} {m : MethodId} {args : Array Value} {below : List Frame} {meth : Method} {c : Code} {H : Heap} {locs : List Loc} {cells slots : Nat} {Q : State → Prop} {pc : Nat} {ls : Array Slot} {rest st0 : List Value} {cc : ByteArray}
variable {nL : Nat} {own : String} {ret : Option FieldType} {D : va_G} {cy : Nat → ClassId} {s00 : State} {sh sh' : List XC} {ad : Nat → Nat} {S S' : XS} {A : Nat → Prop} {a ci N index : Nat} {fs : List Value} {T ws : va_W} {TX : u_T} {C : String} {lv : List (Nat × Value)}
theorem XB.step (hB : XB D s00 ws A s H locs) {H1 : Heap} {locs1 : List Loc} {w1 : va_W} (hP : va_P D vwCl w1 H1) (hD : va_D A w1) (hS : va_S A s.heap H1 locs1) : XB D s00 w1 A s H1 locs1 := by
  obtain ⟨-, -, hS0, hA, h00, hA0⟩ := hB
  refine ⟨hP, hD, hS, hA, fun q hq => ?_, hA0⟩
  have h1 : ¬ A q := fun h => absurd (hA0 q h) (by omega)
  by_cases hz : q < s.heap.size
  · rw [hS.2.1 q hz h1, ← hS0.2.1 q hz h1]; exact h00 q hq
  · exact absurd (hA q (by omega)) h1
theorem x_bobj (E : XE p s m args meth c cc nL own ret D cy s00) (hl : lv_has ls nL lv) (w1 : Cond.methodLink own index Lib.objectInit ∈ lwX) (w2 : Cond.instanceMethod Lib.objectInit ∈ lwX) (w3 : Cond.code Lib.objectInit ⟨#[0xb1]⟩ 1 none ∈ lwX) (hfr : 1 ≤ R.frames) (hlo : (rest.map fun v => v.category).sum + 12 ≤ R.locals) (hdg : decode cc pc = .ok (.invokespecial index, 3))
    (kk : W p l e R s m args below meth c H locs cells slots Q (F0 m (pc + 3) ls rest)) : W p l e R s m args below meth c H locs cells slots Q (F0 m pc ls (.ref a :: rest)) := by
  obtain ⟨hx, hb, hml, hown, hts, hlocks, hrt, hK, hal⟩ := E
  exact W.objInit hx hb hown (hts _ w1) (hts _ w2) (hts _ w3) rfl (by rw [hml]; exact hl.1) rfl hdg hfr (by show 2 * 0 + _ + 12 ≤ _; omega) (W.eq (g2 := F0 m (pc + 3) ls rest) rfl kk)
theorem x_bput {ty : FieldType} {v : Value} {ty0 : Nat → FieldType} (E : XE p s m args meth c cc nL own ret D cy s00) (hin : meth.name = "<init>") (hB : XB D s00 ((a, .inr (ci, fs)) :: T) A s H locs) (hc : vwCl[ci]? = some (C, TX, N)) (k : Nat) (hk : k < N) (hinW : ∀ w ∈ u_ws C TX N, w ∈ lwX) (hty : ∀ k, k < N → parseFieldDescriptor (TX k).2.2.1 = some (ty0 k)) (hnm : ∀ a, a < N → ∀ b, b < N → a ≠ b → (TX a).2.1 ≠ (TX b).2.1) (wn : Cond.fieldLink own index (TX k).1 (TX k).2.1 (TX k).2.2.1 ∈ lwX) (hd : parseFieldDescriptor (TX k).2.2.1 = some ty) (hn : narrow ty v = v) (hfit : fits ty v = true) (hlen : k < fs.length) (hdecl : (TX k).1 = own) (hdg : decode cc pc = .ok (.putfield index, 3))
    (kk : ∀ (H1 : Heap) (locs1 : List Loc), XB D s00 ((a, .inr (ci, fs.set k v)) :: T) A s H1 locs1 → W p l e R s m args below meth c H1 locs1 cells slots Q (F0 m (pc + 3) ls rest)) : W p l e R s m args below meth c H locs cells slots Q (F0 m pc ls (v :: .ref a :: rest)) := by
  obtain ⟨hx, hb, hml, hown, hts, hlocks, hrt, hK, hal⟩ := E
  cases hfl : (TX k).2.2.2 with
  | true => exact va_putF (D := D) hx hb hts hinW ty0 hty hnm hown hK hB.1 hB.2.1 hB.2.2.1 0 rfl hc k hk (hts _ wn) (fun _ h9 => h9) hfl hin hdecl hd hn hfit hlen hdg (fun H1 locs1 hP hD hS => kk H1 locs1 (hB.step hP hD hS))
  | false => exact va_put (D := D) hx hb hts hinW ty0 hty hnm hown hK hB.1 hB.2.1 hB.2.2.1 0 rfl hc k hk (hts _ wn) (fun _ h9 => h9) hfl hd hn hfit hlen hdg (fun H1 locs1 hP hD hS => kk H1 locs1 (hB.step hP hD hS))
/-- a new row of numbers: t tells the kind -/
theorem x_bnewa {ty : FieldType} {atype : ArrayType} {n : Int32} {N' : Nat} {f : (Nat → Int32) ⊕ (Nat → Int64) ⊕ (Nat → UInt32) ⊕ (Nat → UInt64) ⊕ (Nat → Option Nat)} (E : XE p s m args meth c cc nL own ret D cy s00) (hB : XB D s00 ws A s H locs) (t : Nat) (ht : (xtys cy)[t]? = some (cy t, ty)) (hty : newarray.typeOf atype = ty) (hno : ∀ (U : State) (cA : ClassId), va_RA U cA ty → U.vm.findClass ("[" ++ ty.toString) = some cA) (w1 : Cond.arrayClass (newarray.typeOf atype) ∈ lwX) (ha : ∀ cA : ClassId, vp_cell cA (N', f) = arrV cA N' (fun _ => defaultValue ty)) (hn : ¬ n < 0) (hN : n.toNatClampNeg = N') (hbytes : N' * componentBytes ty ≤ 536870912) (hcs : cells + 1 ≤ R.cells ∧ slots + N' ≤ R.slots) (hdg : decode cc pc = .ok (.newarray atype, 2))
    (kk : ∀ (q : Nat) (H1 : Heap) (locs1 : List Loc), XB D s00 (ws ++ [(q, .inl (cy t, N', f))]) A s H1 locs1 → W p l e R s m args below meth c H1 locs1 (cells + 1) (slots + N') Q (F0 m (pc + 2) ls (.ref q :: rest))) : W p l e R s m args below meth c H locs cells slots Q (F0 m pc ls (.int n :: rest)) := by
  obtain ⟨hx, hb, hml, hown, hts, hlocks, hrt, hK, hal⟩ := E
  refine va_newa (D := D) hx hb (hts _ w1) hty hK hB.1 hB.2.1 hB.2.2.1 hB.2.2.2.1 ha hn hN hbytes hcs.1 hcs.2 hdg (fun q cA H1 hK1 hP hD hS => ?_)
  have h1 := hno _ _ (hK.2 t _ ht).2
  have h2 := hno _ _ (hK1.2 (xtys cy).length (cA, ty) (by simp)).2
  cases Option.some.inj (h1.symm.trans h2)
  exact kk q H1 locs (hB.step hP hD hS)
theorem x_bnewq {n : Int32} {N' : Nat} (hO : va_AO "RooftopCats$Roof" s) (E : XE p s m args meth c cc nL own ret D cy s00) (hB : XB D s00 ws A s H locs) (w1 : Cond.classLink own index "RooftopCats$Roof" ∈ lwX) (hn : ¬ n < 0) (hN : n.toNatClampNeg = N') (hbytes : N' * 4 ≤ 536870912) (hcs : cells + 1 ≤ R.cells ∧ slots + N' ≤ R.slots) (hdg : decode cc pc = .ok (.anewarray index, 3))
    (kk : ∀ (q : Nat) (H1 : Heap) (locs1 : List Loc), XB D s00 (ws ++ [(q, .inl (cy 4, N', .inr (.inr (.inr (.inr (fun i => ([] : List Nat)[i]?))))))]) A s H1 locs1 → W p l e R s m args below meth c H1 locs1 (cells + 1) (slots + N') Q (F0 m (pc + 3) ls (.ref q :: rest))) : W p l e R s m args below meth c H locs cells slots Q (F0 m pc ls (.int n :: rest)) := by
  obtain ⟨hx, hb, hml, hown, hts, hlocks, hrt, hK, hal⟩ := E
  refine va_newq (D := D) hx hb hown (hts _ w1) hO hK hB.1 hB.2.1 hB.2.2.1 hB.2.2.2.1 hn hN hbytes hcs.1 hcs.2 hdg (fun q cA H1 hK1 hP hD hS => ?_)
  obtain ⟨k1, c1, -, -, -, h1⟩ := (hK.2 4 _ rfl).2
  obtain ⟨k2, c2, -, -, -, h2⟩ := (hK1.2 (xtys cy).length (cA, .object "RooftopCats$Roof") (by simp)).2
  cases Option.some.inj (h1.symm.trans h2)
  exact kk q H1 locs (hB.step hP hD hS)
theorem xqs_push (qs : List Nat) (v : Nat) : va_up (fun i => qs[i]?) qs.length (some v) = fun i => (qs ++ [v])[i]? := by
  funext i
  unfold va_up
  by_cases h : i = qs.length
  · rw [if_pos h, h]; simp
  · rw [if_neg h]
    by_cases h2 : i < qs.length
    · rw [List.getElem?_append_left h2]
    · show qs[i]? = _
      rw [List.getElem?_eq_none (show qs.length ≤ i by omega), List.getElem?_eq_none (show (qs ++ [v]).length ≤ i by rw [List.length_append, List.length_singleton]; omega)]
theorem x_bastq {i : Int32} {qs : List Nat} {q v qk N' : Nat} {vs : List Value} {hd : Nat × va_E} (E : XE p s m args meth c cc nL own ret D cy s00) (hB : XB D s00 (hd :: (q, .inl (cy 4, N', .inr (.inr (.inr (.inr (fun i => qs[i]?)))))) :: T) A s H locs) (hv : (hd :: (q, .inl (cy 4, N', .inr (.inr (.inr (.inr (fun i => qs[i]?)))))) :: T)[qk]? = some (v, .inr (4, vs))) (hi : i.toNatClampNeg = qs.length) (hin : vp_in i N') (hdg : decode cc pc = .ok (.aastore, 1))
    (kk : ∀ (H1 : Heap) (locs1 : List Loc), XB D s00 (hd :: (q, .inl (cy 4, N', .inr (.inr (.inr (.inr (fun i => (qs ++ [v])[i]?)))))) :: T) A s H1 locs1 → W p l e R s m args below meth c H1 locs1 cells slots Q (F0 m (pc + 1) ls rest)) : W p l e R s m args below meth c H locs cells slots Q (F0 m pc ls (.ref v :: .int i :: .ref q :: rest)) := by
  obtain ⟨hx, hb, hml, hown, hts, hlocks, hrt, hK, hal⟩ := E
  refine va_astq (D := D) hx hb hK hB.1 hB.2.1 hB.2.2.1 1 4 qk 4 rfl rfl hv (r := ("RooftopCats$Roof", TX6, 17)) rfl hin hdg (fun H1 locs1 hP hD hS => ?_)
  rw [hi, xqs_push] at hP hD
  exact kk H1 locs1 (hB.step hP hD hS)
theorem x_bget {v : Value} (E : XE p s m args meth c cc nL own ret D cy s00) (hB : XB D s00 ((a, .inr (ci, fs)) :: T) A s H locs) (hc : vwCl[ci]? = some (C, TX, N)) (k : Nat) (hk : k < N) (hinW : ∀ w ∈ u_ws C TX N, w ∈ lwX) (wn : Cond.fieldLink own index (TX k).1 (TX k).2.1 (TX k).2.2.1 ∈ lwX) (hv : fs[k]? = some v) (hdg : decode cc pc = .ok (.getfield index, 3))
    (kk : W p l e R s m args below meth c H locs cells slots Q (F0 m (pc + 3) ls (v :: rest))) : W p l e R s m args below meth c H locs cells slots Q (F0 m pc ls (.ref a :: rest)) := by
  obtain ⟨hx, hb, hml, hown, hts, hlocks, hrt, hK, hal⟩ := E
  exact va_get (D := D) hx hb hts hinW hown hK hB.1 0 rfl hc k hk (hts _ wn) (fun _ h9 => h9) hv hdg kk
theorem xb_join {A0 : Nat → Prop} {q : Nat} {e : va_E} {w1 : va_W} {H1 : Heap} (hP : va_P D vwCl (ws ++ [(q, e)]) H) (hD : va_D A0 (ws ++ [(q, e)])) (hk : ∀ z : Nat, z < H.size → ¬ va_A [(q, e)] H.size z → H1[z]? = H[z]?) (hA : ∀ z, H.size ≤ z → A0 z) (hP1 : va_P D vwCl w1 H1) (hD1 : va_D (va_A [(q, e)] H.size) w1) : va_P D vwCl (ws ++ w1) H1 ∧ va_D A0 (ws ++ w1) := by
  have hlq : (ws ++ [(q, e)])[ws.length]? = some (q, e) := by rw [List.getElem?_append_right (Nat.le_refl _), Nat.sub_self]; rfl
  have hw : ∀ (k : Nat) (x : Nat × va_E), ws[k]? = some x → x.1 < H.size ∧ x.1 ≠ q ∧ A0 x.1 ∧ (ws ++ [(q, e)])[k]? = some x := by
    intro k x hx
    have hkl : k < ws.length := (List.getElem?_eq_some_iff.mp hx).1
    have h1 : (ws ++ [(q, e)])[k]? = some x := by rw [List.getElem?_append_left hkl]; exact hx
    refine ⟨(hP k x h1).lt, fun he => ?_, hD.2 k x h1, h1⟩
    have := hD.1 k ws.length x (q, e) h1 hlq he
    omega
  have hin : ∀ z, va_A [(q, e)] H.size z → z = q ∨ H.size ≤ z := by
    intro z hz
    rcases hz with ⟨k, e9, hz⟩ | hz
    · have : k < 1 := (List.getElem?_eq_some_iff.mp hz).1
      rw [show k = 0 by omega] at hz
      cases hz
      exact Or.inl rfl
    · exact Or.inr hz
  refine ⟨va_P.app (fun k x hx => ?_) hP1, va_D.app ⟨fun i j x y hi hj hxy => ?_, fun k x hx => (hw k x hx).2.2.1⟩ (hD1.weaken (fun z x hz hx => ?_)) (fun i j x y hi hj hxy => ?_)⟩
  · obtain ⟨h1, h2, h3, h4⟩ := hw k x hx
    refine (hP k x h4).kept (hk x.1 h1 (fun h => ?_))
    rcases hin _ h with h | h
    · exact h2 h
    · omega
  · exact hD.1 i j x y (hw i x hi).2.2.2 (hw j y hj).2.2.2 hxy
  · have h1 := hD1.2 z x hz
    rcases hin _ h1 with h | h
    · rw [h]; exact hD.2 ws.length (q, e) hlq
    · exact hA _ h
  · obtain ⟨h1, h2, -, -⟩ := hw i x hi
    rcases hin _ (hD1.2 j y hj) with h | h
    · exact h2 (hxy.trans h)
    · omega
/-- new C; dup; invokespecial C.<init> -/
theorem x_bnew {y : MethodName} {cc' : ByteArray} {nL' d' k' m' i1 i2 : Nat} {ty0 : Nat → FieldType} {S0 : XS} (E : XE p s m args meth c cc nL own ret D cy s00) (hNW : xNW s) (hB : XB D s00 ws A s H locs) (hl : lv_has ls nL lv) (hM : XN l y cc' nL' d' k' m' D cy s00 ci fs sh' S0) (hc : vwCl[ci]? = some (C, TX, N)) (hinW : ∀ w ∈ u_ws C TX N, w ∈ lwX) (hty : ∀ k, k < N → parseFieldDescriptor (TX k).2.2.1 = some (ty0 k)) (hfs : ∀ j, j < N → defaultValue (ty0 j) = vp_V fs j) (w1 : Cond.classLink own i1 C ∈ lwX) (w2 : Cond.instantiable C N ∈ lwX) (w3 : Cond.initialized C ∈ lwX) (w4 : Cond.methodLink own i2 y ∈ lwX) (w5 : Cond.instanceMethod y ∈ lwX) (w6 : Cond.code y cc' nL' none ∈ lwX) (hy : y.cls = C ∧ y.name = "<init>") (hd : y.cls ≠ "java/lang/invoke/MethodHandle" ∧ y.cls ≠ "java/lang/invoke/VarHandle" ∧ (parseMethodDescriptor y.desc).map (fun d => d.parameters.length) = some 0) (hcat : ((rest).map fun v => v.category).sum ≤ 7) (hR : d' + 1 ≤ R.frames ∧ 8 + (nL' + 11) + 60 * d' ≤ R.locals) (hcs : cells + 1 ≤ R.cells ∧ slots + N ≤ R.slots) (hcs2 : cells + 1 + k' ≤ R.cells ∧ slots + N + m' ≤ R.slots)
    (d0 : decode cc pc = .ok (.new i1, 3)) (d3 : decode cc (pc + 3) = .ok (.dup, 1)) (d4 : decode cc (pc + 4) = .ok (.invokespecial i2, 3))
    (kk : ∀ (ad' : Nat → Nat) (H1 : Heap) (locs1 : List Loc), XB D s00 (ws ++ xw cy ad' S0 0 sh') A s H1 locs1 → W p l e R s m args below meth c H1 locs1 (cells + 1 + k') (slots + N + m') Q (F0 m (pc + 7) ls (.ref (ad' 0) :: rest))) : W p l e R s m args below meth c H locs cells slots Q (F0 m pc ls rest) := by
  obtain ⟨hx, hb, hml, hown, hts, hlocks, hrt, hK, hal⟩ := E
  refine va_new (D := D) hx hb hts hinW ty0 hty hown (hts _ w1) (hts _ w2) (hts _ w3) hK hB.1 hB.2.1 hB.2.2.1 hB.2.2.2.1 hc hfs hcs.1 hcs.2 d0 (fun q H1 hP hD hS => ?_)
  have hB1 : XB D s00 (ws ++ [(q, .inr (ci, fs))]) A s H1 locs := hB.step hP hD hS
  clear hP hD hS
  refine lv_dup hx hb d3 rfl ?_
  have hlq : (ws ++ [(q, .inr (ci, fs))])[ws.length]? = some ((q, .inr (ci, fs)) : Nat × va_E) := by rw [List.getElem?_append_right (Nat.le_refl _), Nat.sub_self]; rfl
  have hAq : A q := hB1.2.1.2 _ _ hlq
  have hF : ∀ z, va_A [(q, .inr (ci, fs))] H1.size z → A z := by
    intro z hz
    rcases hz with ⟨k, e9, hz⟩ | hz
    · have : k < 1 := (List.getElem?_eq_some_iff.mp hz).1
      rw [show k = 0 by omega] at hz
      cases hz
      exact hAq
    · exact hB1.2.2.2.1 _ (Nat.le_trans hB1.2.2.1.1 hz)
  have hP9 : va_P D vwCl [(q, .inr (ci, fs))] H1 := by
    intro k x hx
    have : k < 1 := (List.getElem?_eq_some_iff.mp hx).1
    rw [show k = 0 by omega] at hx
    cases hx
    exact hB1.1 _ _ hlq
  have hD9 : va_D (fun _ => True) [((q, .inr (ci, fs)) : Nat × va_E)] := by
    refine ⟨fun i j x y hi hj _ => ?_, fun _ _ _ => trivial⟩
    have h1 : i < 1 := (List.getElem?_eq_some_iff.mp hi).1
    have h2 : j < 1 := (List.getElem?_eq_some_iff.mp hj).1
    omega
  have hg : GoodIn lwX (xws y cc' nL' none) := xgood (fun w hw => by
    rcases List.mem_cons.mp hw with rfl | hw
    · exact w6
    · exact hw)
  refine va_callv (va_runI (As := []) (rest := .ref q :: rest) ⟨hx, hb, hml, hown, hts⟩ (hM q H1.size) (cwI 0 hts hg rfl rfl rfl (hts _ (by rw [hy.1]; exact w3)) (hts _ w4) (hts _ w5) hy.2 hd hR) ⟨xPreB_blind, fun U hU hW => ⟨rfl, by rw [hU], by rw [hU]; exact hP9, va_K.moved hW.alike hK, hD9, hal.warm hW, by rw [hU]; exact hB1.2.2.2.2.1, fun z hz => hB1.2.2.2.2.2 z (hF z hz), hNW.warm hW⟩⟩ rfl rfl hl.1 rfl (lv_room (by simp only [List.map_cons, List.sum_cons]; have : (Value.ref q).category = 1 := rfl; omega)) d4 hcs2) hB1.2.2.1 (fun q _ h => hF q h) hF (fun ad' t H2 locs2 ht hvm hw hBk hz1 hk1 hS1 => ?_)
  obtain ⟨ha, hP1, hD1⟩ := hBk
  rw [ht] at hP1
  have hj := xb_join hB1.1 hB1.2.1 hk1 (fun z hz => hB1.2.2.2.1 z (Nat.le_trans hB1.2.2.1.1 hz)) hP1 hD1
  rw [← ha]
  exact kk ad' H2 locs2 (hB1.step hj.1 hj.2 hS1)
/-- new C; dup; invokespecial C.<init> -/
theorem x_bnewN {y : MethodName} {cc' : ByteArray} {nL' d' k' m' i1 i2 : Nat} {ty0 : Nat → FieldType} {S0 : XS} (E : XE p s m args meth c cc nL own ret D cy s00) (hNW : xNW s) (hB : XB D s00 ws A s H locs) (hl : lv_has ls nL lv) (hM : XN l y cc' nL' d' k' m' D cy s00 ci fs sh' S0) (hc : vwCl[ci]? = some (C, TX, N)) (hinW : ∀ w ∈ u_ws C TX N, w ∈ lwX) (hty : ∀ k, k < N → parseFieldDescriptor (TX k).2.2.1 = some (ty0 k)) (hfs : ∀ j, j < N → defaultValue (ty0 j) = vp_V fs j) (w1 : Cond.classLink own i1 C ∈ lwX) (w2 : Cond.instantiable C N ∈ lwX) (w3 : Cond.initialized C ∈ lwX) (w4 : Cond.methodLinkNest own i2 y RX8 ∈ xNw) (w5 : Cond.instanceMethod y ∈ lwX) (w6 : Cond.code y cc' nL' none ∈ lwX) (hy : y.cls = C ∧ y.name = "<init>") (hd : y.cls ≠ "java/lang/invoke/MethodHandle" ∧ y.cls ≠ "java/lang/invoke/VarHandle" ∧ (parseMethodDescriptor y.desc).map (fun d => d.parameters.length) = some 0) (hcat : ((rest).map fun v => v.category).sum ≤ 7) (hR : d' + 1 ≤ R.frames ∧ 8 + (nL' + 11) + 60 * d' ≤ R.locals) (hcs : cells + 1 ≤ R.cells ∧ slots + N ≤ R.slots) (hcs2 : cells + 1 + k' ≤ R.cells ∧ slots + N + m' ≤ R.slots)
    (d0 : decode cc pc = .ok (.new i1, 3)) (d3 : decode cc (pc + 3) = .ok (.dup, 1)) (d4 : decode cc (pc + 4) = .ok (.invokespecial i2, 3))
    (kk : ∀ (ad' : Nat → Nat) (H1 : Heap) (locs1 : List Loc), XB D s00 (ws ++ xw cy ad' S0 0 sh') A s H1 locs1 → W p l e R s m args below meth c H1 locs1 (cells + 1 + k') (slots + N + m') Q (F0 m (pc + 7) ls (.ref (ad' 0) :: rest))) : W p l e R s m args below meth c H locs cells slots Q (F0 m pc ls rest) := by
  obtain ⟨hx, hb, hml, hown, hts, hlocks, hrt, hK, hal⟩ := E
  refine va_new (D := D) hx hb hts hinW ty0 hty hown (hts _ w1) (hts _ w2) (hts _ w3) hK hB.1 hB.2.1 hB.2.2.1 hB.2.2.2.1 hc hfs hcs.1 hcs.2 d0 (fun q H1 hP hD hS => ?_)
  have hB1 : XB D s00 (ws ++ [(q, .inr (ci, fs))]) A s H1 locs := hB.step hP hD hS
  clear hP hD hS
  refine lv_dup hx hb d3 rfl ?_
  have hlq : (ws ++ [(q, .inr (ci, fs))])[ws.length]? = some ((q, .inr (ci, fs)) : Nat × va_E) := by rw [List.getElem?_append_right (Nat.le_refl _), Nat.sub_self]; rfl
  have hAq : A q := hB1.2.1.2 _ _ hlq
  have hF : ∀ z, va_A [(q, .inr (ci, fs))] H1.size z → A z := by
    intro z hz
    rcases hz with ⟨k, e9, hz⟩ | hz
    · have : k < 1 := (List.getElem?_eq_some_iff.mp hz).1
      rw [show k = 0 by omega] at hz
      cases hz
      exact hAq
    · exact hB1.2.2.2.1 _ (Nat.le_trans hB1.2.2.1.1 hz)
  have hP9 : va_P D vwCl [(q, .inr (ci, fs))] H1 := by
    intro k x hx
    have : k < 1 := (List.getElem?_eq_some_iff.mp hx).1
    rw [show k = 0 by omega] at hx
    cases hx
    exact hB1.1 _ _ hlq
  have hD9 : va_D (fun _ => True) [((q, .inr (ci, fs)) : Nat × va_E)] := by
    refine ⟨fun i j x y hi hj _ => ?_, fun _ _ _ => trivial⟩
    have h1 : i < 1 := (List.getElem?_eq_some_iff.mp hi).1
    have h2 : j < 1 := (List.getElem?_eq_some_iff.mp hj).1
    omega
  have hg : GoodIn lwX (xws y cc' nL' none) := xgood (fun w hw => by
    rcases List.mem_cons.mp hw with rfl | hw
    · exact w6
    · exact hw)
  refine va_callv (va_runIN (As := []) (rest := .ref q :: rest) ⟨hx, hb, hml, hown, hts⟩ (hM q H1.size) ⟨va_cnB 0 hts hg rfl rfl rfl (hNW _ w4) (hts _ (by rw [hy.1]; exact w3)) hd hR, hy.2, hts _ w5⟩ ⟨xPreB_blind, fun U hU hW => ⟨rfl, by rw [hU], by rw [hU]; exact hP9, va_K.moved hW.alike hK, hD9, hal.warm hW, by rw [hU]; exact hB1.2.2.2.2.1, fun z hz => hB1.2.2.2.2.2 z (hF z hz), hNW.warm hW⟩⟩ rfl rfl hl.1 rfl (lv_room (by simp only [List.map_cons, List.sum_cons]; have : (Value.ref q).category = 1 := rfl; omega)) d4 hcs2) hB1.2.2.1 (fun q _ h => hF q h) hF (fun ad' t H2 locs2 ht hvm hw hBk hz1 hk1 hS1 => ?_)
  obtain ⟨ha, hP1, hD1⟩ := hBk
  rw [ht] at hP1
  have hj := xb_join hB1.1 hB1.2.1 hk1 (fun z hz => hB1.2.2.2.1 z (Nat.le_trans hB1.2.2.1.1 hz)) hP1 hD1
  rw [← ha]
  exact kk ad' H2 locs2 (hB1.step hj.1 hj.2 hS1)
theorem x_bret {k m9 : Nat} {S0 : XS} (E : XE p s m args meth c cc nL own none D cy s00) (hB : XB D s00 ws A s H locs) (hw : ws = xw cy ad S0 0 sh) (ha : ad 0 = a) (hc : cells ≤ k ∧ slots ≤ m9) (hdg : decode cc pc = .ok (.return_, 1)) : W p l e R s m args below meth c H locs cells slots (MQ below (xQN D cy a sh S0 A) args s k m9 A) (F0 m pc ls []) := by
  obtain ⟨hx, hb, hml, hown, hts, hlk, hrt, hK, hal⟩ := E
  subst hw
  exact x_wid hc (W.vret hx hb hrt (fun t ht hW => ⟨⟨ad, rfl, trivial, ha, by rw [ht]; exact hB.1, hB.2.1⟩, hB.2.2.1.F ht⟩) hB.2.2.1.2.2 hdg hlk)
theorem x_bretH {k m9 : Nat} {S9 : XS} (E : XE p s m args meth c cc nL own none D cy s00) (h : XH D cy s00 sh ad S A s H locs) (hf : some S = some S9) (hc : cells ≤ k ∧ slots ≤ m9) (hdg : decode cc pc = .ok (.return_, 1)) : W p l e R s m args below meth c H locs cells slots (MQ below (xQN D cy (ad 0) sh S9 A) args s k m9 A) (F0 m pc ls []) := by
  cases hf
  exact x_bret (ws := xw cy ad S 0 sh) E h rfl rfl hc hdg
end XBRow
/-! bundles made of bundles -/
theorem xw_app (cy : Nat → ClassId) (ad : Nat → Nat) (S : XS) : ∀ (sh1 sh2 : List XC) (k0 : Nat), xw cy ad S k0 (sh1 ++ sh2) = xw cy ad S k0 sh1 ++ xw cy ad S (k0 + sh1.length) sh2
  | [], sh2, k0 => rfl
  | x :: r, sh2, k0 => by
    simp only [List.cons_append, xw, List.length_cons]
    rw [xw_app cy ad S r sh2 (k0 + 1)]
    rw [show k0 + 1 + r.length = k0 + (r.length + 1) by omega]
def xokF (n : Nat) (x : XC) : Bool := match x with
  | .inl (_, fs) => fs.all (fun f => match f with | none => true | some q => decide (q < n))
  | .inr (.inl _) => true
  | .inr (.inr ts) => ts.all (fun q => decide (q < n))
theorem xfs_block {ad ad' : Nat → Nat} {o n : Nat} {f f' : Nat → Int32} (hf : ∀ b, f b = f' b) (ha : ∀ i, i < n → ad (o + i) = ad' i) : ∀ (fs : List XF) (j : Nat), (fs.all (fun f => match f with | none => true | some q => decide (q < n))) = true → xfs ad f j (fs.map (Option.map (o + ·))) = xfs ad' f' j fs
  | [], _, _ => rfl
  | none :: r, j, h => by
    simp only [List.all_cons, Bool.true_and] at h
    simp only [List.map_cons, Option.map_none, xfs]
    rw [hf j, xfs_block hf ha r (j + 1) h]
  | some q :: r, j, h => by
    simp only [List.all_cons, Bool.and_eq_true, decide_eq_true_eq] at h
    simp only [List.map_cons, Option.map_some, xfs]
    rw [ha q h.1, xfs_block hf ha r (j + 1) h.2]
/-- cell by cell: the part that begins at o is the other bundle -/
theorem xw_block {cy : Nat → ClassId} {ad ad' : Nat → Nat} {S S' : XS} {o n : Nat} (ha : ∀ i, i < n → ad (o + i) = ad' i) (hS : ∀ i, i < n → ∀ b, S (o + i) b = S' i b) : ∀ (sh : List XC) (k : Nat), k + sh.length = n → sh.all (xokF n) = true → xw cy ad S (o + k) (sh.map (xrelF (o + ·))) = xw cy ad' S' k sh
  | [], _, _, _ => rfl
  | x :: r, k, hk, h => by
    simp only [List.all_cons, Bool.and_eq_true] at h
    simp only [List.length_cons] at hk
    simp only [List.map_cons, xw]
    rw [ha k (by omega), Nat.add_assoc, xw_block ha hS r (k + 1) (by omega) h.2]
    congr 2
    rcases x with ⟨ci, fs⟩ | ⟨t, N⟩ | ts
    · simp only [xrelF, xe]
      rw [xfs_block (hS k (by omega)) ha fs 0 h.1]
    · simp only [xrelF, xe]
      rw [show S (o + k) = S' k from funext (hS k (by omega))]
    · have e : (fun i : Nat => ((ts.map (o + ·))[i]?).map ad) = fun i : Nat => (ts[i]?).map ad' := by
        funext i
        rw [List.getElem?_map, Option.map_map]
        cases hi : ts[i]? with
        | none => rfl
        | some q =>
          have := List.all_eq_true.mp h.1 q (List.mem_of_getElem? hi)
          simp only [decide_eq_true_eq] at this
          simp only [Option.map_some, Function.comp_apply, ha q this]
      simp only [xrelF, xe, List.length_map]
      rw [e]
