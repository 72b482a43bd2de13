/-! bundles that lie in one in parts: cell i of the part is cell σ i; τ tells which -/
def xsubF (σ : Nat → Nat) (sh' sh : List XC) : Prop := ∀ (i : Nat) (x : XC), sh'[i]? = some x → sh[σ i]? = some (xrelF σ x)
def xinv (σ : Nat → Nat) (τ : Nat → Option Nat) (n : Nat) : Prop := (∀ i, i < n → τ (σ i) = some i) ∧ ∀ k i, τ k = some i → σ i = k ∧ i < n
theorem xsubF_of {σ : Nat → Nat} {sh' sh : List XC} (h : (List.range sh'.length).map (fun i => sh[σ i]?) = sh'.map (fun x => some (xrelF σ x))) : xsubF σ sh' sh := by
  intro i x hx
  have hi : i < sh'.length := (List.getElem?_eq_some_iff.mp hx).1
  have h1 : (sh'.map (fun x => some (xrelF σ x)))[i]? = some (some (xrelF σ x)) := by rw [List.getElem?_map, hx]; rfl
  rw [← h, List.getElem?_map, List.getElem?_range hi] at h1
  exact Option.some.inj h1
theorem xinv_two {a n1 b n2 : Nat} (h : a + n1 ≤ b ∨ b + n2 ≤ a) : xinv (xσ a n1 b) (xτ a n1 b n2) (n1 + n2) := by
  refine ⟨fun i hi => ?_, fun k i h2 => ?_⟩
  · unfold xσ xτ
    by_cases h1 : i < n1
    · rw [if_pos h1, if_pos (by omega)]; congr 1; omega
    · rw [if_neg h1, if_neg (by omega), if_pos (by omega)]; congr 1; omega
  · unfold xτ at h2
    by_cases h1 : a ≤ k ∧ k < a + n1
    · rw [if_pos h1] at h2
      cases h2
      unfold xσ
      rw [if_pos (by omega)]
      omega
    · rw [if_neg h1] at h2
      by_cases h3 : b ≤ k ∧ k < b + n2
      · rw [if_pos h3] at h2
        cases h2
        unfold xσ
        rw [if_neg (by omega)]
        omega
      · rw [if_neg h3] at h2; cases h2
theorem xfs_relF (ad : Nat → Nat) (σ : Nat → Nat) (f : Nat → Int32) : ∀ (fs : List XF) (j : Nat), xfs (fun i => ad (σ i)) f j fs = xfs ad f j (fs.map (Option.map σ))
  | [], _ => rfl
  | none :: r, j => by simp only [xfs, List.map_cons, Option.map_none]; rw [xfs_relF ad σ f r (j + 1)]
  | some q :: r, j => by simp only [xfs, List.map_cons, Option.map_some]; rw [xfs_relF ad σ f r (j + 1)]
theorem xe_relF (cy : Nat → ClassId) (ad : Nat → Nat) (σ : Nat → Nat) (f : Nat → Int32) (x : XC) : xe cy (fun i => ad (σ i)) f x = xe cy ad f (xrelF σ x) := by
  rcases x with ⟨ci, fs⟩ | ⟨t, n⟩ | ts
  · simp only [xe, xrelF]; rw [xfs_relF]
  · rfl
  · simp only [xe, xrelF, List.length_map, List.getElem?_map, Option.map_map]; rfl
section XSubF
variable {D : va_G} {cy : Nat → ClassId} {s00 : State} {sh sh' : List XC} {ad : Nat → Nat} {S S2 : XS} {A : Nat → Prop} {s : State} {H H1 : Heap} {locs locs1 : List Loc} {σ : Nat → Nat} {τ : Nat → Option Nat}
theorem xw_subF (hs : xsubF σ sh' sh) {i : Nat} {q : Nat × va_E} (h : (xw cy (fun i => ad (σ i)) (fun i => S (σ i)) 0 sh')[i]? = some q) : (xw cy ad S 0 sh)[σ i]? = some q := by
  obtain ⟨x, hx, rfl⟩ := xw_at' _ _ _ _ 0 i q h
  have h2 := xw_at cy ad S sh 0 (σ i) _ (hs i x hx)
  rw [h2, ← xe_relF]
  simp only [Nat.zero_add]
theorem xw_lt {i : Nat} {q : Nat × va_E} {ad : Nat → Nat} {S : XS} (h : (xw cy ad S 0 sh')[i]? = some q) : i < sh'.length := by
  obtain ⟨x, hx, -⟩ := xw_at' _ _ _ _ 0 i q h
  exact (List.getElem?_eq_some_iff.mp hx).1
theorem XH.subF (h : XH D cy s00 sh ad S A s H locs) (hs : xsubF σ sh' sh) (hv : xinv σ τ sh'.length) (hK : va_K D vwCl (xtys cy) s) (hal : xAl s00 s) :
    (∀ q, va_A (xw cy (fun i => ad (σ i)) (fun i => S (σ i)) 0 sh') H.size q → A q) ∧ ∀ U : State, U.heap = H → s.WarmedH U.vm → xPre D cy s00 sh' (fun i => ad (σ i)) (fun i => S (σ i)) H.size U := by
  obtain ⟨hP, hD, hS, hA, h00, hA0⟩ := h
  have hF : ∀ q, va_A (xw cy (fun i => ad (σ i)) (fun i => S (σ i)) 0 sh') H.size q → A q := by
    intro q hq
    rcases hq with ⟨k, e, hq⟩ | hq
    · exact hD.2 (σ k) (q, e) (xw_subF hs hq)
    · exact hA q (Nat.le_trans hS.1 hq)
  refine ⟨hF, fun U hU hW => ⟨by rw [hU], by rw [hU]; exact fun k q hq => hP (σ k) q (xw_subF hs hq), va_K.moved hW.alike hK, ⟨fun i j p q hi hj hpq => ?_, fun _ _ _ => trivial⟩, hal.warm hW, by rw [hU]; exact h00, fun q hq => hA0 q (hF q hq)⟩⟩
  have h1 := hD.1 (σ i) (σ j) p q (xw_subF hs hi) (xw_subF hs hj) hpq
  have h2 := hv.1 i (xw_lt hi)
  have h3 := hv.1 j (xw_lt hj)
  rw [h1, h3] at h2
  exact (Option.some.inj h2).symm
theorem XH.joinF (h : XH D cy s00 sh ad S A s H locs) (hs : xsubF σ sh' sh) (hv : xinv σ τ sh'.length) (hk : ∀ q : Nat, q < H.size → ¬ va_A (xw cy (fun i => ad (σ i)) (fun i => S (σ i)) 0 sh') H.size q → H1[q]? = H[q]?) (hS1 : va_S A s.heap H1 locs1) (hP1 : va_P D vwCl (xw cy (fun i => ad (σ i)) S2 0 sh') H1) : XH D cy s00 sh ad (xmF τ S S2) A s H1 locs1 := by
  refine h.put rfl (Or.inr trivial) (fun k q hq => ?_) (xD_congr h.2.1) hS1
  obtain ⟨hP, hD, hS, hA, h00, hA0⟩ := h
  obtain ⟨x, hx, rfl⟩ := xw_at' _ _ _ _ 0 k q hq
  rw [Nat.zero_add]
  cases ht : τ k with
  | some i =>
    obtain ⟨e, hi⟩ := hv.2 k i ht
    obtain ⟨x', hx'⟩ : ∃ x', sh'[i]? = some x' := ⟨sh'[i], List.getElem?_eq_getElem hi⟩
    have h1 := hs _ _ hx'
    rw [e, hx] at h1
    have h2 := hP1 i _ (xw_at _ _ _ _ 0 i x' hx')
    simp only [Nat.zero_add, e, xe_relF] at h2
    have h3 : xmF τ S S2 k = S2 i := by simp only [xmF, ht]
    rw [h3, Option.some.inj h1]
    exact h2
  | none =>
    have h3 : xmF τ S S2 k = S k := by simp only [xmF, ht]
    rw [h3]
    have h4 := xw_at cy ad S sh 0 k x hx
    rw [Nat.zero_add] at h4
    have h5 := hP k _ h4
    refine h5.kept (hk _ h5.lt (fun h => ?_))
    rcases h with ⟨j, e, h⟩ | h
    · have h6 := xw_subF hs h
      have h7 := hD.1 k (σ j) _ _ h4 h6 rfl
      have h8 := hv.1 j (xw_lt h)
      rw [← h7, ht] at h8
      cases h8
    · have := h5.lt
      simp only at this h
      omega
end XSubF
section XCallF
variable {p : Program} {l : Launch} {e : Env} {R : Room} {s : State} {m : MethodId} {args : Array Value} {below : List Frame} {meth : Method} {c : Code} {H : Heap} {locs : List Loc} {cells slots : Nat} {Q : State → Prop} {pc : Nat} {ls : Array Slot} {rest st0 : List Value} {cc : ByteArray}
variable {nL : Nat} {own : String} {ret : Option FieldType} {D : va_G} {cy : Nat → ClassId} {s00 : State} {sh sh' : List XC} {ad : Nat → Nat} {S : XS} {A : Nat → Prop}
variable {y : MethodName} {cc' : ByteArray} {nL' d' n index ci N : Nat} {ret' : Option FieldType} {C : String} {T : u_T} {fs : List XF} {As : List Value} {lv : List (Nat × Value)} {σ : Nat → Nat} {τ : Nat → Option Nat}
theorem x_callFv {α : Type} {z : α} {K : XS → Option α} {fc : Option XS} (E : XE p s m args meth c cc nL own ret D cy s00) (h : XH D cy s00 sh ad S A s H locs) (hl : lv_has ls nL lv) (k0 : Nat) (hf : fc.bind (fun S2 => xlet (xmF τ S S2) K) = some z) (hsub : xsubF σ sh' sh) (hv : xinv σ τ sh'.length) (hM : ∀ (S' : XS), fc = some S' → XV l y cc' nL' ret' d' D cy s00 sh' (fun i => ad (σ i)) (fun i => S (σ i)) (.ref (ad k0) :: As) S') (mm : xMem y C cc' nL' ret' n) (hs : sh[k0]? = some (.inl (ci, fs))) (hc : vwCl[ci]? = some (C, T, N)) (hlk : Cond.methodLink own index y ∈ lwX) (hst : st0 = As.reverse ++ .ref (ad k0) :: rest) (hn : As.length = n) (hcat : (rest.map fun v => v.category).sum ≤ 8) (hR : (xrm d').frames + 1 ≤ R.frames ∧ 8 + (nL' + 11) + (xrm d').locals ≤ R.locals) (hcs : cells ≤ R.cells ∧ slots ≤ R.slots) (hdg : decode cc pc = .ok (.invokevirtual index, 3))
    (kk : ∀ (S' : XS) (H1 : Heap) (locs1 : List Loc), K S' = some z → XH D cy s00 sh ad S' A s H1 locs1 → W p l e R s m args below meth c H1 locs1 cells slots Q (F0 m (pc + 3) ls rest)) : W p l e R s m args below meth c H locs cells slots Q (F0 m pc ls st0) := by
  obtain ⟨hx, hb, hml, hown, hts, hlocks, hrt, hK, hal⟩ := E
  obtain ⟨hF, hPre⟩ := h.subF hsub hv hK hal
  have hfc : ∃ (S' : XS), fc = some S' ∧ K (xmF τ S S') = some z := by
    cases fc with
    | none => cases hf
    | some q => exact ⟨q, rfl, hf⟩
  obtain ⟨S', hfc, hK2⟩ := hfc
  have h1 := xw_at cy ad S sh 0 k0 _ hs
  rw [Nat.zero_add] at h1
  refine va_callv (va_runV (As := As) (rest := rest) ⟨hx, hb, hml, hown, hts⟩ (hM S' hfc H.size) (cwV n hts (mm.good hlk) rfl rfl rfl mm.2.2.2.2 hR) ⟨xPre_blind, va_recv hK h.1 hc h1, fun U hU hW => ⟨rfl, hPre U hU hW⟩⟩ rfl hn hl.1 hst (lv_room hcat) hdg hcs) h.2.2.1 (fun q _ h => hF q h) hF (fun u t H1 locs1 ht hvm hw hB hz1 hk1 hS1 => ?_)
  obtain ⟨hP1, hD1⟩ := hB
  rw [ht] at hP1
  exact kk _ H1 locs1 hK2 (h.joinF hsub hv hk1 hS1 hP1)
/-- a static method of nothing, of a bundle that lies in this one from o on -/
theorem x_callsov {α : Type} {z : α} {K : XS → Option α} {fc : Option XS} (E : XE p s m args meth c cc nL own ret D cy s00) (h : XH D cy s00 sh ad S A s H locs) (hl : lv_has ls nL lv) (o : Nat) (hf : fc.bind (fun S2 => xlet (xm o sh'.length S S2) K) = some z) (hsub : xsub o sh' sh) (hM : ∀ (S' : XS), fc = some S' → XV l y cc' nL' ret' d' D cy s00 sh' (fun i => ad (o + i)) (xs o S) As S') (mm : xMemS y cc' nL' ret' n) (hlk : Cond.methodLink own index y ∈ lwX) (hst : st0 = As.reverse ++ rest) (hn : As.length = n) (hcat : (rest.map fun v => v.category).sum ≤ 8) (hR : (xrm d').frames + 1 ≤ R.frames ∧ 8 + (nL' + 11) + (xrm d').locals ≤ R.locals) (hcs : cells ≤ R.cells ∧ slots ≤ R.slots) (hdg : decode cc pc = .ok (.invokestatic index, 3))
    (kk : ∀ (S' : XS) (H1 : Heap) (locs1 : List Loc), K S' = some z → XH D cy s00 sh ad S' A s H1 locs1 → W p l e R s m args below meth c H1 locs1 cells slots Q (F0 m (pc + 3) ls rest)) : W p l e R s m args below meth c H locs cells slots Q (F0 m pc ls st0) := by
  obtain ⟨hx, hb, hml, hown, hts, hlocks, hrt, hK, hal⟩ := E
  obtain ⟨hF, hP0, hPre⟩ := h.sub hsub hK hal
  have hfc : ∃ (S' : XS), fc = some S' ∧ K (xm o sh'.length S S') = some z := by
    cases fc with
    | none => cases hf
    | some q => exact ⟨q, rfl, hf⟩
  obtain ⟨S', hfc, hK2⟩ := hfc
  refine va_callv (va_runS (As := As) (rest := rest) ⟨hx, hb, hml, hown, hts⟩ (hM S' hfc H.size) (va_cwS n hts (mm.good hlk) rfl rfl rfl mm.2.2.2 hR) ⟨xPre_blind, fun U hU hW => ⟨rfl, hPre U hU hW⟩⟩ rfl hn hl.1 hst (lv_room hcat) hdg hcs) h.2.2.1 (fun q _ h => hF q h) hF (fun u t H1 locs1 ht hvm hw hB hz1 hk1 hS1 => ?_)
  obtain ⟨hP1, hD1⟩ := hB
  rw [ht] at hP1
  exact kk _ H1 locs1 hK2 (h.join hsub hk1 hS1 hP1)
theorem x_alen (E : XE p s m args meth c cc nL own ret D cy s00) (h : XH D cy s00 sh ad S A s H locs) (k : Nat) {n : Nat} (hs : sh[k]? = some (.inr (.inl (0, n)))) (hdg : decode cc pc = .ok (.arraylength, 1))
    (kk : W p l e R s m args below meth c H locs cells slots Q (F0 m (pc + 1) ls (.int (Int32.ofNat n) :: rest))) : W p l e R s m args below meth c H locs cells slots Q (F0 m pc ls (.ref (ad k) :: rest)) := by
  have h1 := xw_at cy ad S sh 0 k _ hs
  rw [Nat.zero_add] at h1
  exact va_alen (D := D) E.1 E.2.1 E.2.2.2.2.2.2.2.1 h.1 k 0 h1 (ty := .int) rfl rfl hdg kk
/-- System.arraycopy(a, 0, b, 0, n) of two rows of ints -/
theorem x_copy {α : Type} {z : α} {K : XS → α} (E : XE p s m args meth c cc nL own ret D cy s00) (h : XH D cy s00 sh ad S A s H locs) (hl : lv_has ls nL lv) (ks kd n : Nat) {ns nd : Nat} {v : Int32} (hv : v.toNatClampNeg = n) (hv0 : ¬ v < 0) (hf : xlet (xcpy S ks kd n) K = z) (h1 : sh[ks]? = some (.inr (.inl (0, ns)))) (h2 : sh[kd]? = some (.inr (.inl (0, nd)))) (hn1 : n ≤ ns) (hn2 : n ≤ nd)
    (w1 : Cond.methodLink own index arraycopyName ∈ lwX) (w2 : Cond.native arraycopyName ∈ lwX) (w3 : Cond.static arraycopyName ∈ lwX) (w4 : Cond.initialized "java/lang/System" ∈ lwX) (hfr : 1 ≤ R.frames) (hlo : (rest.map fun v => v.category).sum + (nativeFrameWords "java/lang/System" "arraycopy" 5 + 11) ≤ R.locals) (hdg : decode cc pc = .ok (.invokestatic index, 3))
    (kk : ∀ (S' : XS) (H1 : Heap) (locs1 : List Loc), K S' = z → XH D cy s00 sh ad S' A s H1 locs1 → W p l e R s m args below meth c H1 locs1 cells slots Q (F0 m (pc + 3) ls rest)) : W p l e R s m args below meth c H locs cells slots Q (F0 m pc ls (.int v :: .int 0 :: .ref (ad kd) :: .int 0 :: .ref (ad ks) :: rest)) := by
  obtain ⟨hx, hb, hml, hown, hts, hlocks, hrt, hK, hal⟩ := E
  have e1 := xw_at cy ad S sh 0 ks _ h1
  have e2 := xw_at cy ad S sh 0 kd _ h2
  rw [Nat.zero_add] at e1 e2
  have z0 : (0 : Int32).toNatClampNeg = 0 := rfl
  refine va_copyi (D := D) hx hb (hml.trans hl.1.symm) hown (hts _ w1) (hts _ w2) (hts _ w3) (hts _ w4) hK h.1 h.2.1 h.2.2.1 ks kd 0 0 e1 e2 rfl rfl rfl (by decide) (by decide) hv0 (by rw [z0, hv]; omega) (by rw [z0, hv]; omega) (fun _ _ => rfl) hfr hlo hdg (fun H1 locs1 hP hD hS => ?_)
  refine kk (xcpy S ks kd n) H1 locs1 hf (h.put (S' := xcpy S ks kd n) ?_ (Or.inr trivial) hP hD hS)
  have e3 : va_cpy (S ks) (S kd) (0 : Int32).toNatClampNeg (0 : Int32).toNatClampNeg v.toNatClampNeg = xcpy S ks kd n kd := by
    funext b
    rw [z0, hv]
    simp only [va_cpy, xcpy, if_true, Nat.zero_le, true_and, Nat.zero_add, Nat.sub_zero]
  have h4 := xw_set cy ad S (xcpy S ks kd n) sh 0 kd _ h2 (fun i hi => by funext b; simp only [xcpy]; rw [if_neg (by omega)])
  rw [Nat.zero_add] at h4
  rw [← h4, ← e3]
  rfl
end XCallF
