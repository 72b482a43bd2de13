/-! x_: calls -/
def xMem (y : MethodName) (C : String) (cc : ByteArray) (nL : Nat) (ret : Option FieldType) (n : Nat) : Prop :=
  Cond.instanceMethod y ∈ lwX ∧ Cond.selects C y y ∈ lwX ∧ Cond.initialized C ∈ lwX ∧ Cond.code y cc nL ret ∈ lwX ∧ (y.cls = C ∧ y.cls ≠ "java/lang/invoke/MethodHandle" ∧ y.cls ≠ "java/lang/invoke/VarHandle" ∧ (parseMethodDescriptor y.desc).map (fun d => d.parameters.length) = some n)
def xMemS (y : MethodName) (cc : ByteArray) (nL : Nat) (ret : Option FieldType) (n : Nat) : Prop :=
  Cond.static y ∈ lwX ∧ Cond.initialized y.cls ∈ lwX ∧ Cond.code y cc nL ret ∈ lwX ∧ (y.cls ≠ "java/lang/invoke/MethodHandle" ∧ y.cls ≠ "java/lang/invoke/VarHandle" ∧ (parseMethodDescriptor y.desc).map (fun d => d.parameters.length) = some n)
theorem xgood {ws : List Cond} (h : ∀ w ∈ ws, w ∈ lwX) : GoodIn lwX ws := fun w hw => ⟨h w hw, good_of_word (kw_good (h w hw))⟩
theorem xws_in {y : MethodName} {cc : ByteArray} {nL : Nat} {ret : Option FieldType} (h : Cond.code y cc nL ret ∈ lwX) : ∀ w ∈ xws y cc nL ret, w ∈ lwX := fun w hw => (List.mem_cons.mp hw).elim (fun e => by rw [e]; exact h) id
theorem xMem.good {y : MethodName} {C : String} {cc : ByteArray} {nL : Nat} {ret : Option FieldType} {n : Nat} {own : String} {index : Nat} (h : xMem y C cc nL ret n) (hl : Cond.methodLink own index y ∈ lwX) : GoodIn lwX (wsV own index C y (xws y cc nL ret)) := by
  refine xgood (fun w hw => ?_)
  rcases List.mem_append.mp hw with hw | hw
  · simp only [List.mem_cons, List.not_mem_nil, or_false] at hw
    rcases hw with rfl | rfl | rfl | rfl
    · exact hl
    · exact h.1
    · exact h.2.1
    · exact h.2.2.1
  · exact xws_in h.2.2.2.1 w hw
theorem xMemS.good {y : MethodName} {cc : ByteArray} {nL : Nat} {ret : Option FieldType} {n : Nat} {own : String} {index : Nat} (h : xMemS y cc nL ret n) (hl : Cond.methodLink own index y ∈ lwX) : GoodIn lwX (va_wsS own index y (xws y cc nL ret)) := by
  refine xgood (fun w hw => ?_)
  rcases List.mem_append.mp hw with hw | hw
  · simp only [List.mem_cons, List.not_mem_nil, or_false] at hw
    rcases hw with rfl | rfl | rfl
    · exact hl
    · exact h.1
    · exact h.2.1
  · exact xws_in h.2.2.1 w hw
def xrel (o : Nat) (x : XC) : XC := match x with
  | .inl (ci, fs) => .inl (ci, fs.map (Option.map (o + ·)))
  | .inr (.inl a) => .inr (.inl a)
  | .inr (.inr ts) => .inr (.inr (ts.map (o + ·)))
/-- the shape sh' lies in sh, from o on -/
def xsub (o : Nat) (sh' sh : List XC) : Prop := ∀ (i : Nat) (x : XC), sh'[i]? = some x → sh[o + i]? = some (xrel o x)
theorem xsub_of {o : Nat} {sh' sh : List XC} (h : (sh.drop o).take sh'.length = sh'.map (xrel o)) : xsub o sh' sh := by
  intro i x hx
  have hi : i < sh'.length := (List.getElem?_eq_some_iff.mp hx).1
  have h1 : ((sh.drop o).take sh'.length)[i]? = some (xrel o x) := by rw [h, List.getElem?_map, hx]; rfl
  rw [List.getElem?_take, if_pos hi, List.getElem?_drop] at h1
  exact h1
theorem xfs_rel (ad : Nat → Nat) (o : Nat) (f : Nat → Int32) : ∀ (fs : List XF) (j : Nat), xfs (fun i => ad (o + i)) f j fs = xfs ad f j (fs.map (Option.map (o + ·)))
  | [], _ => rfl
  | none :: r, j => by simp only [xfs, List.map_cons, Option.map_none]; rw [xfs_rel ad o f r (j + 1)]
  | some q :: r, j => by simp only [xfs, List.map_cons, Option.map_some]; rw [xfs_rel ad o f r (j + 1)]
theorem xe_rel (cy : Nat → ClassId) (ad : Nat → Nat) (o : Nat) (f : Nat → Int32) (x : XC) : xe cy (fun i => ad (o + i)) f x = xe cy ad f (xrel o x) := by
  rcases x with ⟨ci, fs⟩ | ⟨t, n⟩ | ts
  · simp only [xe, xrel]; rw [xfs_rel]
  · rfl
  · simp only [xe, xrel, List.length_map, List.getElem?_map, Option.map_map]; rfl
section XSub
variable {D : va_G} {cy : Nat → ClassId} {s00 : State} {sh sh' : List XC} {ad : Nat → Nat} {S S2 : XS} {A : Nat → Prop} {s : State} {H H1 : Heap} {locs locs1 : List Loc} {o : Nat}
theorem xw_sub (hs : xsub o sh' sh) {i : Nat} {q : Nat × va_E} (h : (xw cy (fun i => ad (o + i)) (xs o S) 0 sh')[i]? = some q) : (xw cy ad S 0 sh)[o + i]? = some q := by
  obtain ⟨x, hx, rfl⟩ := xw_at' _ _ _ _ 0 i q h
  have h2 := xw_at cy ad S sh 0 (o + i) _ (hs i x hx)
  rw [h2, ← xe_rel]
  simp only [Nat.zero_add]
  rfl
theorem XH.sub (h : XH D cy s00 sh ad S A s H locs) (hs : xsub o sh' sh) (hK : va_K D vwCl (xtys cy) s) (hal : xAl s00 s) :
    (∀ q, va_A (xw cy (fun i => ad (o + i)) (xs o S) 0 sh') H.size q → A q) ∧ va_P D vwCl (xw cy (fun i => ad (o + i)) (xs o S) 0 sh') H ∧ ∀ U : State, U.heap = H → s.WarmedH U.vm → xPre D cy s00 sh' (fun i => ad (o + i)) (xs o S) H.size U := by
  obtain ⟨hP, hD, hS, hA, h00, hA0⟩ := h
  have hF : ∀ q, va_A (xw cy (fun i => ad (o + i)) (xs o S) 0 sh') H.size q → A q := by
    intro q hq
    rcases hq with ⟨k, e, hq⟩ | hq
    · exact hD.2 (o + k) (q, e) (xw_sub hs hq)
    · exact hA q (Nat.le_trans hS.1 hq)
  refine ⟨hF, fun k q hq => hP (o + k) q (xw_sub hs hq), fun U hU hW => ⟨by rw [hU], by rw [hU]; exact fun k q hq => hP (o + k) q (xw_sub hs hq), va_K.moved hW.alike hK, ⟨fun i j p q hi hj hpq => ?_, fun _ _ _ => trivial⟩, hal.warm hW, by rw [hU]; exact h00, fun q hq => hA0 q (hF q hq)⟩⟩
  have := hD.1 (o + i) (o + j) p q (xw_sub hs hi) (xw_sub hs hj) hpq
  omega
theorem XH.join (h : XH D cy s00 sh ad S A s H locs) (hs : xsub o sh' sh) (hk : ∀ q : Nat, q < H.size → ¬ va_A (xw cy (fun i => ad (o + i)) (xs o S) 0 sh') H.size q → H1[q]? = H[q]?) (hS1 : va_S A s.heap H1 locs1) (hP1 : va_P D vwCl (xw cy (fun i => ad (o + i)) S2 0 sh') H1) : XH D cy s00 sh ad (xm o sh'.length S S2) A s H1 locs1 := by
  obtain ⟨hP, hD, hS, hA, h00, hA0⟩ := h
  refine ⟨fun k q hq => ?_, xD_congr hD, hS1, hA, fun q hq => ?_, hA0⟩
  · obtain ⟨x, hx, rfl⟩ := xw_at' _ _ _ _ 0 k q hq
    rw [Nat.zero_add]
    by_cases hr : o ≤ k ∧ k < o + sh'.length
    · have e : o + (k - o) = k := by omega
      have hx' : ∃ x', sh'[k - o]? = some x' := ⟨sh'[k - o]'(by omega), List.getElem?_eq_getElem (by omega)⟩
      obtain ⟨x', hx'⟩ := hx'
      have h1 := hs _ _ hx'
      rw [e, hx] at h1
      have h2 := hP1 (k - o) _ (xw_at _ _ _ _ 0 (k - o) x' hx')
      simp only [Nat.zero_add, e, xe_rel] at h2
      have h3 : xm o sh'.length S S2 k = S2 (k - o) := by simp only [xm, if_pos hr]
      rw [h3, Option.some.inj h1]
      exact h2
    · have h3 : xm o sh'.length S S2 k = S k := by simp only [xm, if_neg hr]
      rw [h3]
      have h4 := xw_at cy ad S sh 0 k x hx
      rw [Nat.zero_add] at h4
      have h5 := hP k _ h4
      refine h5.kept (hk _ h5.lt (fun h => ?_))
      rcases h with ⟨j, e, h⟩ | h
      · have h6 := xw_sub hs h
        have h7 := hD.1 k (o + j) _ _ h4 h6 rfl
        obtain ⟨x', hx', -⟩ := xw_at' _ _ _ _ 0 j _ h
        have := (List.getElem?_eq_some_iff.mp hx').1
        omega
      · have := h5.lt
        simp only at this h
        omega
  · have h1 : ¬ A q := fun h => absurd (hA0 q h) (by omega)
    have h2 : q < s.heap.size := by
      rcases Nat.lt_or_ge q s.heap.size with h | h
      · exact h
      · exact absurd (hA q h) h1
    rw [hS1.2.1 q h2 h1, ← hS.2.1 q h2 h1]
    exact h00 q hq
theorem xm_self (o n : Nat) (S : XS) : xm o n S (xs o S) = S := by
  funext k
  simp only [xm, xs]
  by_cases h : o ≤ k ∧ k < o + n
  · rw [if_pos h, show o + (k - o) = k by omega]
  · rw [if_neg h]
theorem XH.same (h : XH D cy s00 sh ad S A s H locs) (hK : va_K D vwCl (xtys cy) s) (hal : xAl s00 s) :
    (∀ q, va_A (xw cy ad S 0 sh) H.size q → A q) ∧ ∀ U : State, U.heap = H → s.WarmedH U.vm → xPre D cy s00 sh ad S H.size U := by
  obtain ⟨hP, hD, hS, hA, h00, hA0⟩ := h
  have hF : ∀ q, va_A (xw cy ad S 0 sh) H.size q → A q := by
    intro q hq
    rcases hq with ⟨k, e, hq⟩ | hq
    · exact hD.2 k (q, e) hq
    · exact hA q (Nat.le_trans hS.1 hq)
  exact ⟨hF, fun U hU hW => ⟨by rw [hU], by rw [hU]; exact hP, va_K.moved hW.alike hK, hD.weaken (fun _ _ _ _ => trivial), hal.warm hW, by rw [hU]; exact h00, fun q hq => hA0 q (hF q hq)⟩⟩
theorem XH.back (h : XH D cy s00 sh ad S A s H locs) (hS1 : va_S A s.heap H1 locs1) (hP1 : va_P D vwCl (xw cy ad S2 0 sh) H1) : XH D cy s00 sh ad S2 A s H1 locs1 :=
  h.put rfl (Or.inr trivial) hP1 (xD_congr h.2.1) hS1
end XSub
section XCall
variable {p : Program} {l : Launch} {e : Env} {R : Room} {s : State} {m : MethodId} {args : Array Value} {below : List Frame} {meth : Method} {c : Code} {H : Heap} {locs : List Loc} {cells slots : Nat} {Q : State → Prop} {pc : Nat} {ls : Array Slot} {rest st0 : List Value} {cc : ByteArray}
variable {nL : Nat} {own : String} {ret : Option FieldType} {D : va_G} {cy : Nat → ClassId} {s00 : State} {sh sh' : List XC} {ad : Nat → Nat} {S : XS} {A : Nat → Prop}
variable {y : MethodName} {cc' : ByteArray} {nL' d' n index ci N : Nat} {ret' : Option FieldType} {C : String} {T : u_T} {fs : List XF} {As : List Value} {lv : List (Nat × Value)}
/-- a method of a cell of the same bundle: an int comes, the contents change -/
theorem x_calli {α : Type} {z : α} {K : Int32 → XS → Option α} {fc : Option (Int32 × XS)} (E : XE p s m args meth c cc nL own ret D cy s00) (h : XH D cy s00 sh ad S A s H locs) (hl : lv_has ls nL lv) (k0 : Nat) (hf : xbind2 fc K = some z) (hM : ∀ (r : Int32) (S' : XS), fc = some (r, S') → XI l y cc' nL' ret' d' D cy s00 sh ad S (.ref (ad k0) :: As) r S') (mm : xMem y C cc' nL' ret' n) (hs : sh[k0]? = some (.inl (ci, fs))) (hc : vwCl[ci]? = some (C, T, N)) (hlk : Cond.methodLink own index y ∈ lwX) (hst : st0 = As.reverse ++ .ref (ad k0) :: rest) (hn : As.length = n) (hcat : (rest.map fun v => v.category).sum ≤ 8) (hR : (xrm d').frames + 1 ≤ R.frames ∧ 8 + (nL' + 11) + (xrm d').locals ≤ R.locals) (hcs : cells ≤ R.cells ∧ slots ≤ R.slots) (hdg : decode cc pc = .ok (.invokevirtual index, 3))
    (kk : ∀ (r : Int32) (S' : XS) (H1 : Heap) (locs1 : List Loc), K r S' = some z → XH D cy s00 sh ad S' A s H1 locs1 → W p l e R s m args below meth c H1 locs1 cells slots Q (F0 m (pc + 3) ls (.int r :: rest))) : W p l e R s m args below meth c H locs cells slots Q (F0 m pc ls st0) := by
  obtain ⟨hx, hb, hml, hown, hts, hlocks, hrt, hK, hal⟩ := E
  obtain ⟨hF, hPre⟩ := h.same hK hal
  have hfc : ∃ (r : Int32) (S' : XS), fc = some (r, S') ∧ K r S' = some z := by
    cases fc with
    | none => cases hf
    | some q => exact ⟨q.1, q.2, rfl, hf⟩
  obtain ⟨r, S', hfc, hK2⟩ := hfc
  have h1 := xw_at cy ad S sh 0 k0 _ hs
  rw [Nat.zero_add] at h1
  refine va_calli (va_runV (As := As) (rest := rest) ⟨hx, hb, hml, hown, hts⟩ (hM r S' hfc H.size) (cwV n hts (mm.good hlk) rfl rfl rfl mm.2.2.2.2 hR) ⟨xPre_blind, va_recv hK h.1 hc h1, fun U hU hW => ⟨rfl, hPre U hU hW⟩⟩ rfl hn hl.1 hst (lv_room hcat) hdg hcs) h.2.2.1 (fun q _ h => hF q h) hF (fun r1 u t H1 locs1 ht hvm hw hB hz1 hk1 hS1 => ?_)
  obtain ⟨hP1, hD1⟩ := hB
  rw [ht] at hP1
  have hw : r1 = r := hw
  subst hw
  exact kk _ S' H1 locs1 hK2 (h.back hS1 hP1)
/-- .. the contents stay -/
theorem x_callp {α : Type} {z : α} {K : Int32 → Option α} {fc : Option Int32} (E : XE p s m args meth c cc nL own ret D cy s00) (h : XH D cy s00 sh ad S A s H locs) (hl : lv_has ls nL lv) (k0 : Nat) (hf : fc.bind K = some z) (hM : ∀ (r : Int32), fc = some r → XI l y cc' nL' ret' d' D cy s00 sh ad S (.ref (ad k0) :: As) r S) (mm : xMem y C cc' nL' ret' n) (hs : sh[k0]? = some (.inl (ci, fs))) (hc : vwCl[ci]? = some (C, T, N)) (hlk : Cond.methodLink own index y ∈ lwX) (hst : st0 = As.reverse ++ .ref (ad k0) :: rest) (hn : As.length = n) (hcat : (rest.map fun v => v.category).sum ≤ 8) (hR : (xrm d').frames + 1 ≤ R.frames ∧ 8 + (nL' + 11) + (xrm d').locals ≤ R.locals) (hcs : cells ≤ R.cells ∧ slots ≤ R.slots) (hdg : decode cc pc = .ok (.invokevirtual index, 3))
    (kk : ∀ (r : Int32) (H1 : Heap) (locs1 : List Loc), K r = some z → XH D cy s00 sh ad S A s H1 locs1 → W p l e R s m args below meth c H1 locs1 cells slots Q (F0 m (pc + 3) ls (.int r :: rest))) : W p l e R s m args below meth c H locs cells slots Q (F0 m pc ls st0) := by
  have hfc : ∃ (r : Int32), fc = some r ∧ K r = some z := by
    cases fc with
    | none => cases hf
    | some q => exact ⟨q, rfl, hf⟩
  obtain ⟨r, hfc, hK2⟩ := hfc
  obtain ⟨hx, hb, hml, hown, hts, hlocks, hrt, hK, hal⟩ := E
  obtain ⟨hF, hPre⟩ := h.same hK hal
  have h1 := xw_at cy ad S sh 0 k0 _ hs
  rw [Nat.zero_add] at h1
  refine va_calli (va_runV (As := As) (rest := rest) ⟨hx, hb, hml, hown, hts⟩ (hM r hfc H.size) (cwV n hts (mm.good hlk) rfl rfl rfl mm.2.2.2.2 hR) ⟨xPre_blind, va_recv hK h.1 hc h1, fun U hU hW => ⟨rfl, hPre U hU hW⟩⟩ rfl hn hl.1 hst (lv_room hcat) hdg hcs) h.2.2.1 (fun q _ h => hF q h) hF (fun r1 u t H1 locs1 ht hvm hw hB hz1 hk1 hS1 => ?_)
  obtain ⟨hP1, hD1⟩ := hB
  rw [ht] at hP1
  have hw : r1 = r := hw
  subst hw
  exact kk _ H1 locs1 hK2 (h.back hS1 hP1)
/-- a method of nothing, of the same bundle -/
theorem x_callv {α : Type} {z : α} {K : XS → Option α} {fc : Option XS} (E : XE p s m args meth c cc nL own ret D cy s00) (h : XH D cy s00 sh ad S A s H locs) (hl : lv_has ls nL lv) (k0 : Nat) (hf : fc.bind K = some z) (hM : ∀ (S' : XS), fc = some S' → XV l y cc' nL' ret' d' D cy s00 sh ad S (.ref (ad k0) :: As) S') (mm : xMem y C cc' nL' ret' n) (hs : sh[k0]? = some (.inl (ci, fs))) (hc : vwCl[ci]? = some (C, T, N)) (hlk : Cond.methodLink own index y ∈ lwX) (hst : st0 = As.reverse ++ .ref (ad k0) :: rest) (hn : As.length = n) (hcat : (rest.map fun v => v.category).sum ≤ 8) (hR : (xrm d').frames + 1 ≤ R.frames ∧ 8 + (nL' + 11) + (xrm d').locals ≤ R.locals) (hcs : cells ≤ R.cells ∧ slots ≤ R.slots) (hdg : decode cc pc = .ok (.invokevirtual index, 3))
    (kk : ∀ (S' : XS) (H1 : Heap) (locs1 : List Loc), K S' = some z → XH D cy s00 sh ad S' A s H1 locs1 → W p l e R s m args below meth c H1 locs1 cells slots Q (F0 m (pc + 3) ls rest)) : W p l e R s m args below meth c H locs cells slots Q (F0 m pc ls st0) := by
  obtain ⟨hx, hb, hml, hown, hts, hlocks, hrt, hK, hal⟩ := E
  obtain ⟨hF, hPre⟩ := h.same hK hal
  have hfc : ∃ (S' : XS), fc = some S' ∧ K S' = some z := by
    cases fc with
    | none => cases hf
    | some q => exact ⟨q, rfl, hf⟩
  obtain ⟨S', hfc, hK2⟩ := hfc
  have h1 := xw_at cy ad S sh 0 k0 _ hs
  rw [Nat.zero_add] at h1
  refine va_callv (va_runV (As := As) (rest := rest) ⟨hx, hb, hml, hown, hts⟩ (hM S' hfc H.size) (cwV n hts (mm.good hlk) rfl rfl rfl mm.2.2.2.2 hR) ⟨xPre_blind, va_recv hK h.1 hc h1, fun U hU hW => ⟨rfl, hPre U hU hW⟩⟩ rfl hn hl.1 hst (lv_room hcat) hdg hcs) h.2.2.1 (fun q _ h => hF q h) hF (fun u t H1 locs1 ht hvm hw hB hz1 hk1 hS1 => ?_)
  obtain ⟨hP1, hD1⟩ := hB
  rw [ht] at hP1
  exact kk S' H1 locs1 hK2 (h.back hS1 hP1)
/-- a method of a bundle that lies in this one, from o on -/
theorem x_calloi {α : Type} {z : α} {K : Int32 → XS → Option α} {fc : Option (Int32 × XS)} (E : XE p s m args meth c cc nL own ret D cy s00) (h : XH D cy s00 sh ad S A s H locs) (hl : lv_has ls nL lv) (o k0 : Nat) (hf : xbind2 fc (fun r S2 => xlet (xm o sh'.length S S2) (K r)) = some z) (hsub : xsub o sh' sh) (hM : ∀ (r : Int32) (S' : XS), fc = some (r, S') → XI l y cc' nL' ret' d' D cy s00 sh' (fun i => ad (o + i)) (xs o S) (.ref (ad k0) :: As) r S') (mm : xMem y C cc' nL' ret' n) (hs : sh[k0]? = some (.inl (ci, fs))) (hc : vwCl[ci]? = some (C, T, N)) (hlk : Cond.methodLink own index y ∈ lwX) (hst : st0 = As.reverse ++ .ref (ad k0) :: rest) (hn : As.length = n) (hcat : (rest.map fun v => v.category).sum ≤ 8) (hR : (xrm d').frames + 1 ≤ R.frames ∧ 8 + (nL' + 11) + (xrm d').locals ≤ R.locals) (hcs : cells ≤ R.cells ∧ slots ≤ R.slots) (hdg : decode cc pc = .ok (.invokevirtual index, 3))
    (kk : ∀ (r : Int32) (S' : XS) (H1 : Heap) (locs1 : List Loc), K r S' = some z → XH D cy s00 sh ad S' A s H1 locs1 → W p l e R s m args below meth c H1 locs1 cells slots Q (F0 m (pc + 3) ls (.int r :: rest))) : W p l e R s m args below meth c H locs cells slots Q (F0 m pc ls st0) := by
  obtain ⟨hx, hb, hml, hown, hts, hlocks, hrt, hK, hal⟩ := E
  obtain ⟨hF, hP0, hPre⟩ := h.sub hsub hK hal
  have hfc : ∃ (r : Int32) (S' : XS), fc = some (r, S') ∧ K r (xm o sh'.length S S') = some z := by
    cases fc with
    | none => cases hf
    | some q => exact ⟨q.1, q.2, rfl, hf⟩
  obtain ⟨r, S', hfc, hK2⟩ := hfc
  have h1 := xw_at cy ad S sh 0 k0 _ hs
  rw [Nat.zero_add] at h1
  refine va_calli (va_runV (As := As) (rest := rest) ⟨hx, hb, hml, hown, hts⟩ (hM r S' hfc H.size) (cwV n hts (mm.good hlk) rfl rfl rfl mm.2.2.2.2 hR) ⟨xPre_blind, va_recv hK h.1 hc h1, fun U hU hW => ⟨rfl, hPre U hU hW⟩⟩ rfl hn hl.1 hst (lv_room hcat) hdg hcs) h.2.2.1 (fun q _ h => hF q h) hF (fun r1 u t H1 locs1 ht hvm hw hB hz1 hk1 hS1 => ?_)
  obtain ⟨hP1, hD1⟩ := hB
  rw [ht] at hP1
  have hw : r1 = r := hw
  subst hw
  exact kk _ _ H1 locs1 hK2 (h.join hsub hk1 hS1 hP1)
theorem x_callop {α : Type} {z : α} {K : Int32 → Option α} {fc : Option Int32} (E : XE p s m args meth c cc nL own ret D cy s00) (h : XH D cy s00 sh ad S A s H locs) (hl : lv_has ls nL lv) (o k0 : Nat) (hf : fc.bind K = some z) (hsub : xsub o sh' sh) (hM : ∀ (r : Int32), fc = some r → XI l y cc' nL' ret' d' D cy s00 sh' (fun i => ad (o + i)) (xs o S) (.ref (ad k0) :: As) r (xs o S)) (mm : xMem y C cc' nL' ret' n) (hs : sh[k0]? = some (.inl (ci, fs))) (hc : vwCl[ci]? = some (C, T, N)) (hlk : Cond.methodLink own index y ∈ lwX) (hst : st0 = As.reverse ++ .ref (ad k0) :: rest) (hn : As.length = n) (hcat : (rest.map fun v => v.category).sum ≤ 8) (hR : (xrm d').frames + 1 ≤ R.frames ∧ 8 + (nL' + 11) + (xrm d').locals ≤ R.locals) (hcs : cells ≤ R.cells ∧ slots ≤ R.slots) (hdg : decode cc pc = .ok (.invokevirtual index, 3))
    (kk : ∀ (r : Int32) (H1 : Heap) (locs1 : List Loc), K r = some z → XH D cy s00 sh ad S A s H1 locs1 → W p l e R s m args below meth c H1 locs1 cells slots Q (F0 m (pc + 3) ls (.int r :: rest))) : W p l e R s m args below meth c H locs cells slots Q (F0 m pc ls st0) := by
  obtain ⟨hx, hb, hml, hown, hts, hlocks, hrt, hK, hal⟩ := E
  obtain ⟨hF, hP0, hPre⟩ := h.sub hsub hK hal
  have hfc : ∃ (r : Int32), fc = some r ∧ K r = some z := by
    cases fc with
    | none => cases hf
    | some q => exact ⟨q, rfl, hf⟩
  obtain ⟨r, hfc, hK2⟩ := hfc
  have h1 := xw_at cy ad S sh 0 k0 _ hs
  rw [Nat.zero_add] at h1
  refine va_calli (va_runV (As := As) (rest := rest) ⟨hx, hb, hml, hown, hts⟩ (hM r hfc H.size) (cwV n hts (mm.good hlk) rfl rfl rfl mm.2.2.2.2 hR) ⟨xPre_blind, va_recv hK h.1 hc h1, fun U hU hW => ⟨rfl, hPre U hU hW⟩⟩ rfl hn hl.1 hst (lv_room hcat) hdg hcs) h.2.2.1 (fun q _ h => hF q h) hF (fun r1 u t H1 locs1 ht hvm hw hB hz1 hk1 hS1 => ?_)
  obtain ⟨hP1, hD1⟩ := hB
  rw [ht] at hP1
  have hw : r1 = r := hw
  subst hw
  have h9 := h.join hsub hk1 hS1 hP1
  rw [xm_self] at h9
  exact kk _ H1 locs1 hK2 h9
theorem x_callov {α : Type} {z : α} {K : XS → Option α} {fc : Option XS} (E : XE p s m args meth c cc nL own ret D cy s00) (h : XH D cy s00 sh ad S A s H locs) (hl : lv_has ls nL lv) (o k0 : Nat) (hf : fc.bind (fun S2 => xlet (xm o sh'.length S S2) K) = some z) (hsub : xsub o sh' sh) (hM : ∀ (S' : XS), fc = some S' → XV l y cc' nL' ret' d' D cy s00 sh' (fun i => ad (o + i)) (xs o S) (.ref (ad k0) :: As) S') (mm : xMem y C cc' nL' ret' n) (hs : sh[k0]? = some (.inl (ci, fs))) (hc : vwCl[ci]? = some (C, T, N)) (hlk : Cond.methodLink own index y ∈ lwX) (hst : st0 = As.reverse ++ .ref (ad k0) :: rest) (hn : As.length = n) (hcat : (rest.map fun v => v.category).sum ≤ 8) (hR : (xrm d').frames + 1 ≤ R.frames ∧ 8 + (nL' + 11) + (xrm d').locals ≤ R.locals) (hcs : cells ≤ R.cells ∧ slots ≤ R.slots) (hdg : decode cc pc = .ok (.invokevirtual index, 3))
    (kk : ∀ (S' : XS) (H1 : Heap) (locs1 : List Loc), K S' = some z → XH D cy s00 sh ad S' A s H1 locs1 → W p l e R s m args below meth c H1 locs1 cells slots Q (F0 m (pc + 3) ls rest)) : W p l e R s m args below meth c H locs cells slots Q (F0 m pc ls st0) := by
  obtain ⟨hx, hb, hml, hown, hts, hlocks, hrt, hK, hal⟩ := E
  obtain ⟨hF, hP0, hPre⟩ := h.sub hsub hK hal
  have hfc : ∃ (S' : XS), fc = some S' ∧ K (xm o sh'.length S S') = some z := by
    cases fc with
    | none => cases hf
    | some q => exact ⟨q, rfl, hf⟩
  obtain ⟨S', hfc, hK2⟩ := hfc
  have h1 := xw_at cy ad S sh 0 k0 _ hs
  rw [Nat.zero_add] at h1
  refine va_callv (va_runV (As := As) (rest := rest) ⟨hx, hb, hml, hown, hts⟩ (hM S' hfc H.size) (cwV n hts (mm.good hlk) rfl rfl rfl mm.2.2.2.2 hR) ⟨xPre_blind, va_recv hK h.1 hc h1, fun U hU hW => ⟨rfl, hPre U hU hW⟩⟩ rfl hn hl.1 hst (lv_room hcat) hdg hcs) h.2.2.1 (fun q _ h => hF q h) hF (fun u t H1 locs1 ht hvm hw hB hz1 hk1 hS1 => ?_)
  obtain ⟨hP1, hD1⟩ := hB
  rw [ht] at hP1
  exact kk _ H1 locs1 hK2 (h.join hsub hk1 hS1 hP1)
/-- a static method of numbers alone -/
theorem x_callsp {α : Type} {z : α} {K : Int32 → Option α} {fc : Option Int32} (E : XE p s m args meth c cc nL own ret D cy s00) (h : XH D cy s00 sh ad S A s H locs) (hl : lv_has ls nL lv) (hf : fc.bind K = some z) (hM : ∀ (r : Int32), fc = some r → XI l y cc' nL' ret' d' D cy s00 [] (fun i => ad (0 + i)) (xs 0 S) As r (xs 0 S)) (mm : xMemS y cc' nL' ret' n) (hlk : Cond.methodLink own index y ∈ lwX) (hst : st0 = As.reverse ++ rest) (hn : As.length = n) (hcat : (rest.map fun v => v.category).sum ≤ 8) (hR : (xrm d').frames + 1 ≤ R.frames ∧ 8 + (nL' + 11) + (xrm d').locals ≤ R.locals) (hcs : cells ≤ R.cells ∧ slots ≤ R.slots) (hdg : decode cc pc = .ok (.invokestatic index, 3))
    (kk : ∀ (r : Int32) (H1 : Heap) (locs1 : List Loc), K r = some z → XH D cy s00 sh ad S A s H1 locs1 → W p l e R s m args below meth c H1 locs1 cells slots Q (F0 m (pc + 3) ls (.int r :: rest))) : W p l e R s m args below meth c H locs cells slots Q (F0 m pc ls st0) := by
  obtain ⟨hx, hb, hml, hown, hts, hlocks, hrt, hK, hal⟩ := E
  have hsub : xsub 0 [] sh := fun i x hx => by simp at hx
  obtain ⟨hF, hP0, hPre⟩ := h.sub hsub hK hal
  have hfc : ∃ (r : Int32), fc = some r ∧ K r = some z := by
    cases fc with
    | none => cases hf
    | some q => exact ⟨q, rfl, hf⟩
  obtain ⟨r, hfc, hK2⟩ := hfc
  refine va_calli (va_runS (As := As) (rest := rest) ⟨hx, hb, hml, hown, hts⟩ (hM r hfc H.size) (va_cwS n hts (mm.good hlk) rfl rfl rfl mm.2.2.2 hR) ⟨xPre_blind, fun U hU hW => ⟨rfl, hPre U hU hW⟩⟩ rfl hn hl.1 hst (lv_room hcat) hdg hcs) h.2.2.1 (fun q _ h => hF q h) hF (fun r1 u t H1 locs1 ht hvm hw hB hz1 hk1 hS1 => ?_)
  obtain ⟨hP1, hD1⟩ := hB
  rw [ht] at hP1
  have hw : r1 = r := hw
  subst hw
  have h9 := h.join hsub hk1 hS1 hP1
  rw [xm_self] at h9
  exact kk _ H1 locs1 hK2 h9
end XCall
