theorem xOF_here {p : Program} {s : State} {m : MethodId} {args : Array Value} {meth : Method} {c : Code} {cc : ByteArray} {nL : Nat} {own : String} {ret : Option FieldType} {D : va_G} {cy : Nat → ClassId} {s00 : State} {sh : List XC} {ad : Nat → Nat} {S : XS} {A : Nat → Prop} {H : Heap} {locs : List Loc} {o n d : String} {v : Value} {t : Nat} (g : va_OF o n d v t (xA00 s00) s00 s00.heap) (E : XE p s m args meth c cc nL own ret D cy s00) (h : XH D cy s00 sh ad S A s H locs) : va_OF o n d v t A s s.heap :=
  ((va_OF.moved E.2.2.2.2.2.2.2.2.1 g).kept h.s0).narrow h.2.2.2.2.2
theorem xO_here {p : Program} {s : State} {m : MethodId} {args : Array Value} {meth : Method} {c : Code} {cc : ByteArray} {nL : Nat} {own : String} {ret : Option FieldType} {D : va_G} {cy : Nat → ClassId} {s00 : State} {sh : List XC} {ad : Nat → Nat} {S : XS} {A : Nat → Prop} {H : Heap} {locs : List Loc} {C : String} {t : Nat} (g : va_O C t (xA00 s00) s00 s00.heap) (E : XE p s m args meth c cc nL own ret D cy s00) (h : XH D cy s00 sh ad S A s H locs) : va_O C t A s s.heap :=
  ((va_O.moved E.2.2.2.2.2.2.2.2.1 g).kept h.s0).narrow h.2.2.2.2.2
theorem xO_recv {C : String} {t : Nat} {A : Nat → Prop} {s : State} {H : Heap} {locs : List Loc} (g : va_O C t A s s.heap) (hS : va_S A s.heap H locs) : ∃ cell : Cell, H[t]? = some cell ∧ cell.vm.isStatics = false ∧ s.vm.findClass C = some cell.cls := by
  obtain ⟨cell, h1, h2, h3, h4⟩ := g
  exact ⟨cell, by rw [hS.2.1 t (Array.getElem?_eq_some_iff.mp h1).1 h4]; exact h1, h2, h3⟩
theorem x_inj {t : xEnT} {s00 : State} (hEn : XEn s00 t) {k j : Nat} (hk : k < 13) (hj : j < 13) : some (t.1 k) = some (t.1 j) ↔ k = j := ⟨fun h => hEn.2.1 k j hk hj (Option.some.inj h), fun h => by rw [h]⟩
theorem x_bre {α : Type} {P P2 : Prop} {inst : Decidable P} {X Y z : α} (e : P2 ↔ P) (hf : (if P then X else Y) = z) {GT GF G : Prop} (row : (P2 → GT) → (¬ P2 → GF) → G) (kt : X = z → GT) (kf : Y = z → GF) : G :=
  row (fun h => kt (by rw [if_pos (e.mp h)] at hf; exact hf)) (fun h => kf (by rw [if_neg (fun q => h (e.mpr q))] at hf; exact hf))
theorem x_brne {α : Type} {P P2 : Prop} {inst : Decidable P} {X Y z : α} (e : P2 ↔ P) (hf : (if P then X else Y) = z) {GT GF G : Prop} (row : (¬ P2 → GT) → (P2 → GF) → G) (kt : Y = z → GT) (kf : X = z → GF) : G :=
  row (fun h => kt (by rw [if_neg (fun q => h (e.mpr q))] at hf; exact hf)) (fun h => kf (by rw [if_pos (e.mp h)] at hf; exact hf))
theorem xif13_in {α : Type} {k : Nat} {b : Option α} {z : α} (h : xif13 k b = some z) : k < 13 ∧ b = some z := by
  unfold xif13 at h
  by_cases g : k < 13
  · rw [if_pos g] at h; exact ⟨g, h⟩
  · rw [if_neg g] at h; cases h
theorem xWord_len (k : Nat) : (xWord.getD k []).length < 2 ^ 31 := by
  have h : ∀ x ∈ [] :: xWord, x.length < 2 ^ 31 := by decide +kernel
  apply h
  rw [List.getD_eq_getElem?_getD]
  cases e : xWord[k]? with
  | none => exact List.mem_cons_self
  | some x => exact List.mem_cons_of_mem _ (List.mem_of_getElem? e)
theorem xPlace_len (k : Nat) : (xPlace.getD k []).length < 2 ^ 31 := by
  have h : ∀ x ∈ [] :: xPlace, x.length < 2 ^ 31 := by decide +kernel
  apply h
  rw [List.getD_eq_getElem?_getD]
  cases e : xPlace[k]? with
  | none => exact List.mem_cons_self
  | some x => exact List.mem_cons_of_mem _ (List.mem_of_getElem? e)
theorem xin_lt {i : Int32} {n : Nat} (h : vp_in i n) : i.toNatClampNeg < n := by
  unfold vp_in at h
  omega
theorem xcr_in {byt : List Int32} {i : Int32} {α : Type} {K : Int32 → Option α} {z : α} (hf : (xcr byt i).bind K = some z) : vp_in i byt.length ∧ K (xch byt i) = some z := by
  unfold xcr at hf
  by_cases h : i < 0 ∨ byt.length ≤ i.toNatClampNeg
  · rw [if_pos h] at hf; cases hf
  · rw [if_neg h] at hf; exact ⟨h, hf⟩
section XStr2
variable {p : Program} {l : Launch} {e : Env} {R : Room} {s : State} {m : MethodId} {args : Array Value} {below : List Frame} {meth : Method} {c : Code} {H : Heap} {locs : List Loc} {cells slots : Nat} {Q : State → Prop} {pc : Nat} {ls : Array Slot} {rest st0 : List Value} {cc : ByteArray}
variable {nL : Nat} {own : String} {ret : Option FieldType} {D : va_G} {cy : Nat → ClassId} {s00 : State} {sh sh' : List XC} {ad : Nat → Nat} {S S' : XS} {A : Nat → Prop}
variable {y : MethodName} {cc' : ByteArray} {nL' d' n index ci N : Nat} {ret' : Option FieldType} {C : String} {T : u_T} {fs : List XF} {As : List Value} {lv : List (Nat × Value)} {adE : Nat → Nat}
theorem x_swt {α : Type} {z : α} {K : Int32 → Option α} {i : Int32} {tE : xEnT} (hEn : XEn s00 tE) (E : XE p s m args meth c cc nL own ret D cy s00) (h : XH D cy s00 sh ad S A s H locs) (hf : (xrd i 13 (fun j => xSw.getD j 0)).bind K = some z) (hdg : decode cc pc = .ok (.iaload, 1))
    (kk : ∀ v : Int32, K v = some z → W p l e R s m args below meth c H locs cells slots Q (F0 m (pc + 1) ls (.int v :: rest))) : W p l e R s m args below meth c H locs cells slots Q (F0 m pc ls (.int i :: .ref tE.2.2.2.2.2.2 :: rest)) := by
  obtain ⟨hin, hf⟩ := xrd_in hf
  exact va_ti E.1 E.2.1 (xT_here hEn.2.2.2.2.2.1 E h) h.2.2.1 hin (v := .int (xSw.getD i.toNatClampNeg 0)) rfl hdg (kk _ hf)
theorem x_ldcS (hG : XG s00) (E : XE p s m args meth c cc nL own ret D cy s00) (j : Nat) {k : Nat} {tx : String} {byt : List Int32} (hj : xlits[j]? = some (own, k, tx, byt)) (hdg : decode cc pc = .ok (.ldc k, 2))
    (kk : ∀ aK aV : Nat, XStr s00 aK aV byt → W p l e R s m args below meth c H locs cells slots Q (F0 m (pc + 2) ls (.ref aK :: rest))) : W p l e R s m args below meth c H locs cells slots Q (F0 m pc ls rest) := by
  obtain ⟨aK, aV, h1, h2⟩ := hG.2.2.1 _ (List.mem_of_getElem? hj)
  exact va_ldcS E.1 E.2.1 E.2.2.2.1 (E.2.2.2.2.2.2.2.2.2 _ _ _ _ h1) hdg (kk aK aV h2)
theorem x_ldcwString {T : State} (X : Stand p l e R s m args below meth c T locs cells slots) (hexec : p.tables.exec = Jvm.exec) {own text : String} {index : Nat} {a : Addr} (hown : s.vm.findClass own = some m.cls)
    (hconst : (Cond.stringRef own index text).before args s = true) (hev : (Term.string own index).eval args s none [] s = some (.ref a)) {g : JFrame} (hg : g.method = m) (hdg : decode c.code g.pc = .ok (.ldc_w index, 3)) :
    ∀ target, Steps p.tables e below (T.setTop { g with pc := g.pc + 3, stack := .ref a :: g.stack }) target → Steps p.tables e below (T.setTop g) target := by
  obtain ⟨k, cf, i, a', hk, hcf, hcp, -, hr, hev'⟩ := Cond.stringRef_spec hown hconst
  cases hev.symm.trans hev'
  obtain ⟨k', hk', he⟩ := X.warmed.alike.2.2 _ _ hk
  have hr' : k'.resolved[index]? = some (some (.string a)) := by
    rcases X.warmed.entry hk hk' index with h | ⟨h, -⟩
    · rw [h]; exact hr
    · rw [hr] at h; cases h
  intro target hrest
  subst hg
  jvm_step X.here [hexec, hdg, ldc_w.wp_string (s := T) (f := g) X.here.top hk' (by rw [he]; exact hcf) hcp hr']
  exact hrest
theorem x_ldcwS (hG : XG s00) (E : XE p s m args meth c cc nL own ret D cy s00) (j : Nat) {k : Nat} {tx : String} {byt : List Int32} (hj : xlits[j]? = some (own, k, tx, byt)) (hdg : decode cc pc = .ok (.ldc_w k, 3))
    (kk : ∀ aK aV : Nat, XStr s00 aK aV byt → W p l e R s m args below meth c H locs cells slots Q (F0 m (pc + 3) ls (.ref aK :: rest))) : W p l e R s m args below meth c H locs cells slots Q (F0 m pc ls rest) := by
  obtain ⟨aK, aV, h1, h2⟩ := hG.2.2.1 _ (List.mem_of_getElem? hj)
  have hZ := E.2.2.2.2.2.2.2.2.2 _ _ _ _ h1
  intro T hT X
  obtain ⟨t, a1, b1⟩ := kk aK aV h2 T hT X
  exact ⟨t, x_ldcwString X E.1 E.2.2.2.1 (text := tx) (a := aK) hZ.1 hZ.2 (g := F0 m pc ls rest) rfl (by rw [E.2.1]; exact hdg) t a1, b1⟩
theorem x_slen (hG : XG s00) {aK aV : Nat} {byt : List Int32} (g : XStr s00 aK aV byt) (E : XE p s m args meth c cc nL own ret D cy s00) (h : XH D cy s00 sh ad S A s H locs) (hl : lv_has ls nL lv) (hlk : Cond.methodLink own index yJ0_length_8abf5 ∈ lwX) (hcat : (rest.map fun v => v.category).sum ≤ 8) (hR : (xrm 1).frames + 1 ≤ R.frames ∧ 8 + (1 + 11) + (xrm 1).locals ≤ R.locals) (hcs : cells ≤ R.cells ∧ slots ≤ R.slots) (hdg : decode cc pc = .ok (.invokevirtual index, 3))
    (kk : ∀ (H1 : Heap) (locs1 : List Loc), XH D cy s00 sh ad S A s H1 locs1 → W p l e R s m args below meth c H1 locs1 cells slots Q (F0 m (pc + 3) ls (.int (Int32.ofNat byt.length) :: rest))) : W p l e R s m args below meth c H locs cells slots Q (F0 m pc ls (.ref aK :: rest)) :=
  x_callxp (z := Int32.ofNat byt.length) (K := fun r => some r) (fc := some (Int32.ofNat byt.length)) E h hl rfl (fun r0 hr => by cases hr; exact c_length l D cy s00 hG _ _ g) m_J0_length_8abf5 (vk_recv (g.here E h) (i := 0) (by decide) h.2.2.1) hlk rfl rfl hcat hR hcs hdg (fun v H locs hf h => by
    have hf : v = _ := Option.some.inj hf
    subst hf
    exact kk H locs h)
theorem x_sch {α : Type} {z : α} {K : Int32 → Option α} {i : Int32} (hG : XG s00) {aK aV : Nat} {byt : List Int32} (g : XStr s00 aK aV byt) (hlen : byt.length < 2 ^ 31) (E : XE p s m args meth c cc nL own ret D cy s00) (h : XH D cy s00 sh ad S A s H locs) (hl : lv_has ls nL lv) (hf : (xcr byt i).bind K = some z) (hlk : Cond.methodLink own index yJ0_charAt_5068e ∈ lwX) (hcat : (rest.map fun v => v.category).sum ≤ 8) (hR : (xrm 3).frames + 1 ≤ R.frames ∧ 8 + (2 + 11) + (xrm 3).locals ≤ R.locals) (hcs : cells ≤ R.cells ∧ slots ≤ R.slots) (hdg : decode cc pc = .ok (.invokevirtual index, 3))
    (kk : ∀ (v : Int32) (H1 : Heap) (locs1 : List Loc), K v = some z → XH D cy s00 sh ad S A s H1 locs1 → W p l e R s m args below meth c H1 locs1 cells slots Q (F0 m (pc + 3) ls (.int v :: rest))) : W p l e R s m args below meth c H locs cells slots Q (F0 m pc ls (.int i :: .ref aK :: rest)) := by
  obtain ⟨hi, hK⟩ := xcr_in hf
  exact x_callxp (z := xch byt i) (K := fun r => some r) (fc := some (xch byt i)) E h hl rfl (fun r0 hr => by cases hr; exact c_charAt l D cy s00 hG _ _ g hlen i hi) m_J0_charAt_5068e (vk_recv (g.here E h) (i := 0) (by decide) h.2.2.1) hlk (As := [.int i]) rfl rfl hcat hR hcs hdg (fun v H locs hf h => by
    have hf : v = _ := Option.some.inj hf
    subst hf
    exact kk _ H locs hK h)
/-- a method that answers a constant of the enum, or null; the contents change -/
theorem x_callo {α : Type} {z : α} {K : Option Nat → XS → Option α} {fc : Option (Option Nat × XS)} (E : XE p s m args meth c cc nL own ret D cy s00) (h : XH D cy s00 sh ad S A s H locs) (hl : lv_has ls nL lv) (k0 : Nat) (hf : xbind2 fc K = some z) (hM : ∀ (r : Option Nat) (S' : XS), fc = some (r, S') → XO l y cc' nL' ret' d' D cy s00 adE sh ad S (.ref (ad k0) :: As) r S') (mm : xMem y C cc' nL' ret' n) (hs : sh[k0]? = some (.inl (ci, fs))) (hc : vwCl[ci]? = some (C, T, N)) (hlk : Cond.methodLink own index y ∈ lwX) (hst : st0 = As.reverse ++ .ref (ad k0) :: rest) (hn : As.length = n) (hcat : (rest.map fun v => v.category).sum ≤ 8) (hR : (xrm d').frames + 1 ≤ R.frames ∧ 8 + (nL' + 11) + (xrm d').locals ≤ R.locals) (hcs : cells ≤ R.cells ∧ slots ≤ R.slots) (hdg : decode cc pc = .ok (.invokevirtual index, 3))
    (kk : ∀ (r : Option Nat) (S' : XS) (H1 : Heap) (locs1 : List Loc), K r S' = some z → XH D cy s00 sh ad S' A s H1 locs1 → W p l e R s m args below meth c H1 locs1 cells slots Q (F0 m (pc + 3) ls (va_re adE r :: rest))) : W p l e R s m args below meth c H locs cells slots Q (F0 m pc ls st0) := by
  obtain ⟨hx, hb, hml, hown, hts, hlocks, hrt, hK, hal⟩ := E
  obtain ⟨hF, hPre⟩ := h.same hK hal
  have hfc : ∃ (r : Option Nat) (S' : XS), fc = some (r, S') ∧ K r S' = some z := by
    cases fc with
    | none => cases hf
    | some q => exact ⟨q.1, q.2, rfl, hf⟩
  obtain ⟨r, S', hfc, hK2⟩ := hfc
  have h1 := xw_at cy ad S sh 0 k0 _ hs
  rw [Nat.zero_add] at h1
  refine va_calle (va_runV (As := As) (rest := rest) ⟨hx, hb, hml, hown, hts⟩ (hM r S' hfc H.size) (cwV n hts (mm.good hlk) rfl rfl rfl mm.2.2.2.2 hR) ⟨xPre_blind, va_recv hK h.1 hc h1, fun U hU hW => ⟨rfl, hPre U hU hW⟩⟩ rfl hn hl.1 hst (lv_room hcat) hdg hcs) h.2.2.1 (fun q _ h => hF q h) hF (fun r1 u t H1 locs1 ht hvm hw hB hz1 hk1 hS1 => ?_)
  obtain ⟨hP1, hD1⟩ := hB
  rw [ht] at hP1
  have hw : r1 = r := hw
  subst hw
  exact kk _ S' H1 locs1 hK2 (h.back hS1 hP1)
theorem x_aret {C9 : String} {v r : Option Nat} (E : XE p s m args meth c cc nL own (some (.object C9)) D cy s00) (h : XH D cy s00 sh ad S A s H locs) (hf : some (v, S) = some (r, S')) (hdg : decode cc pc = .ok (.areturn, 1)) : W p l e R s m args below meth c H locs 0 0 (MQ below (xqo D cy adE sh ad r S' A) args s 0 0 A) (F0 m pc ls [va_re adE v]) := by
  cases hf
  obtain ⟨hx, hb, hml, hown, hts, hlk, hrt, hK, hal⟩ := E
  exact W.aret hx hb hrt (Or.inl ⟨_, rfl⟩) (by cases v; exact Or.inl rfl; exact Or.inr ⟨_, rfl⟩) (fun t ht hW => ⟨⟨v, (), rfl, rfl, by rw [ht]; exact h.1, h.2.1⟩, h.2.2.1.F ht⟩) h.2.2.1.2.2 hdg hlk
end XStr2
def yOrd : MethodName := ⟨"RooftopCats$Command", "ordinal", "()I"⟩
theorem kw609 : Cond.sameMethod "RooftopCats$Command" "java/lang/Enum" "ordinal" "()I" ∈ lwX := kw 609 (by decide +kernel) (by decide +kernel)
theorem kw611 : Cond.selects "RooftopCats$Command" yOrd yJx29ce0_ordinal_8abf5 ∈ lwX := kw 611 (by decide +kernel) (by decide +kernel)
theorem kw612 : Cond.instanceMethod yJx29ce0_ordinal_8abf5 ∈ lwX := kw 612 (by decide +kernel) (by decide +kernel)
theorem kw135 : Cond.initialized RJx29ce0 ∈ lwX := kw 135 (by decide +kernel) (by decide +kernel)
theorem kw613 : Cond.code yJx29ce0_ordinal_8abf5 cJx29ce0_ordinal_8abf5 1 (some .int) ∈ lwX := kw 613 (by decide +kernel) (by decide +kernel)
theorem kw2029 : Cond.fieldLink RJx29ce0 7 "java/lang/Enum" "ordinal" "I" ∈ lwX := kw 2029 (by decide +kernel) (by decide +kernel)
set_option maxHeartbeats 4000000 in
set_option maxRecDepth 100000 in
theorem c_ordinal (l : Launch) (D : va_G) (cy : Nat → ClassId) (s00 : State) (ad : Nat → Nat) {tE : xEnT} (hEn : XEn s00 tE) (S : XS) {k : Nat} (hk : k < 13) : XI l yJx29ce0_ordinal_8abf5 cJx29ce0_ordinal_8abf5 1 (some .int) 0 D cy s00 [] ad S [.ref (tE.1 k)] (nI k) S := by
  refine XI.of (by decide) [(0, .ref (tE.1 k))] rfl (Nat.le_of_ble_eq_true rfl) (fun p e s m args below meth c A ls E h hl => ?_)
  refine lv_aload_n E.1 E.2.1 dJx29ce0_ordinal_8abf5_0 rfl (lv_at hl 0 rfl) ?_
  refine vk_getf E.1 E.2.1 (xOF_here (hEn.1 k hk).2.1 E h) h.2.2.1 E.2.2.2.1 (E.2.2.2.2.1 _ kw2029) (fun _ h9 => h9) dJx29ce0_ordinal_8abf5_1 ?_
  exact x_irp E h rfl dJx29ce0_ordinal_8abf5_4
section XOrd
variable {p : Program} {l : Launch} {e : Env} {R : Room} {s : State} {m : MethodId} {args : Array Value} {below : List Frame} {meth : Method} {c : Code} {H : Heap} {locs : List Loc} {cells slots : Nat} {Q : State → Prop} {pc : Nat} {ls : Array Slot} {rest st0 : List Value} {cc : ByteArray}
variable {nL : Nat} {own : String} {ret : Option FieldType} {D : va_G} {cy : Nat → ClassId} {s00 : State} {sh sh' : List XC} {ad : Nat → Nat} {S S' : XS} {A : Nat → Prop} {index : Nat} {lv : List (Nat × Value)}
theorem x_ord {tE : xEnT} (hEn : XEn s00 tE) {k : Nat} (hk : k < 13) (E : XE p s m args meth c cc nL own ret D cy s00) (h : XH D cy s00 sh ad S A s H locs) (hl : lv_has ls nL lv) (hlk : Cond.methodLink own index yOrd ∈ lwX) (hcat : (rest.map fun v => v.category).sum ≤ 8) (hR : (xrm 0).frames + 1 ≤ R.frames ∧ 8 + (1 + 11) + (xrm 0).locals ≤ R.locals) (hcs : cells ≤ R.cells ∧ slots ≤ R.slots) (hdg : decode cc pc = .ok (.invokevirtual index, 3))
    (kk : ∀ (H1 : Heap) (locs1 : List Loc), XH D cy s00 sh ad S A s H1 locs1 → W p l e R s m args below meth c H1 locs1 cells slots Q (F0 m (pc + 3) ls (.int (nI k) :: rest))) : W p l e R s m args below meth c H locs cells slots Q (F0 m pc ls (.ref (tE.1 k) :: rest)) := by
  obtain ⟨hx, hb, hml, hown, hts, hlocks, hrt, hK, hal⟩ := id E
  have hsub : xsub 0 [] sh := fun i x hx => by simp at hx
  obtain ⟨hF, hP0, hPre⟩ := h.sub hsub hK hal
  have hT : GoodIn lwX (va_wsU own index "RooftopCats$Command" "java/lang/Enum" yOrd yJx29ce0_ordinal_8abf5 (xws yJx29ce0_ordinal_8abf5 cJx29ce0_ordinal_8abf5 1 (some .int))) := by
    refine xgood (fun w hw => ?_)
    rcases List.mem_append.mp hw with hw | hw
    · simp only [List.mem_cons, List.not_mem_nil, or_false] at hw
      rcases hw with rfl | rfl | rfl | rfl | rfl
      · exact hlk
      · exact kw609
      · exact kw611
      · exact kw612
      · exact kw135
    · exact xws_in kw613 w hw
  refine va_calli (va_runU (As := []) (rest := rest) ⟨hx, hb, hml, hown, hts⟩ (c_ordinal l D cy s00 (fun i => ad (0 + i)) hEn (xs 0 S) hk H.size) (va_cwU 0 hts hT rfl rfl rfl (by decide +kernel) (by decide +kernel) hR) ⟨xPre_blind, xO_recv (xO_here (hEn.1 k hk).1 E h) h.2.2.1, fun U hU hW => ⟨rfl, hPre U hU hW⟩⟩ rfl rfl hl.1 rfl (lv_room hcat) hdg hcs) h.2.2.1 (fun q _ h => hF q h) hF (fun r1 u t H1 locs1 ht hvm hw hB hz1 hk1 hS1 => ?_)
  obtain ⟨hP1, hD1⟩ := hB
  rw [ht] at hP1
  have hw : r1 = nI k := hw
  subst hw
  have h9 := h.join hsub hk1 hS1 hP1
  rw [xm_self] at h9
  exact kk H1 locs1 h9
end XOrd
theorem xdn_in {α : Type} {v : UInt64} {K : UInt64 → Option α} {z : α} (hf : (xdn v).bind K = some z) : vf_n64 v ∧ K v = some z := by
  unfold xdn at hf
  by_cases h : v &&& 0x7fffffffffffffff ≤ 0x7ff0000000000000
  · rw [if_pos h] at hf; exact ⟨h, hf⟩
  · rw [if_neg h] at hf; cases hf
theorem xfn_in {α : Type} {v : UInt32} {K : UInt32 → Option α} {z : α} (hf : (xfn v).bind K = some z) : vf_n32 v ∧ K v = some z := by
  unfold xfn at hf
  by_cases h : v &&& 0x7fffffff ≤ 0x7f800000
  · rw [if_pos h] at hf; exact ⟨h, hf⟩
  · rw [if_neg h] at hf; cases hf
def xqd (D : va_G) (cy : Nat → ClassId) (sh : List XC) (ad : Nat → Nat) (r : UInt64) (S' : XS) (A : Nat → Prop) : Array Value → State → Outcome → State → Prop := va_Qd (fun (r' : UInt64) (_ : Unit) => r' = r) (xPost D cy sh ad S' A) A
def xqf (D : va_G) (cy : Nat → ClassId) (sh : List XC) (ad : Nat → Nat) (r : UInt32) (S' : XS) (A : Nat → Prop) : Array Value → State → Outcome → State → Prop := va_Qf (fun (r' : UInt32) (_ : Unit) => r' = r) (xPost D cy sh ad S' A) A
def XD (l : Launch) (y : MethodName) (cc : ByteArray) (nL : Nat) (ret : Option FieldType) (d : Nat) (D : va_G) (cy : Nat → ClassId) (s00 : State) (sh : List XC) (ad : Nat → Nat) (S : XS) (av : List Value) (r : UInt64) (S' : XS) : Prop :=
  ∀ sz : Nat, Met l y (xws y cc nL ret) (xrm d) (va_Pc av (xPre D cy s00 sh ad S sz)) (xqd D cy sh ad r S' (va_A (xw cy ad S 0 sh) sz)) 0 0 (va_A (xw cy ad S 0 sh) sz)
def XFl (l : Launch) (y : MethodName) (cc : ByteArray) (nL : Nat) (ret : Option FieldType) (d : Nat) (D : va_G) (cy : Nat → ClassId) (s00 : State) (sh : List XC) (ad : Nat → Nat) (S : XS) (av : List Value) (r : UInt32) (S' : XS) : Prop :=
  ∀ sz : Nat, Met l y (xws y cc nL ret) (xrm d) (va_Pc av (xPre D cy s00 sh ad S sz)) (xqf D cy sh ad r S' (va_A (xw cy ad S 0 sh) sz)) 0 0 (va_A (xw cy ad S 0 sh) sz)
theorem x_lt8 {j : Nat} (h : j < 8) : j = 0 ∨ j = 1 ∨ j = 2 ∨ j = 3 ∨ j = 4 ∨ j = 5 ∨ j = 6 ∨ j = 7 := by omega
theorem xsub_hr1 : ∀ j, j < 8 → xsubF (xσ (2 + 13 * j) 13 106) shRoof2 shHistRoof := by
  intro j hj
  rcases x_lt8 hj with rfl | rfl | rfl | rfl | rfl | rfl | rfl | rfl <;> exact xsubF_of (by decide +kernel)
theorem xsub_hr2 : ∀ j, j < 8 → xsubF (xσ 106 13 (2 + 13 * j)) shRoof2 shHistRoof := by
  intro j hj
  rcases x_lt8 hj with rfl | rfl | rfl | rfl | rfl | rfl | rfl | rfl <;> exact xsubF_of (by decide +kernel)
theorem xhs_hr : ∀ j, j < 8 → shHistRoof[2 + 13 * j]? = some (.inl (4, ([none, some 1, some 2, none, some 3, some 4, some 5, none, some 6, some 7, some 8, some 9, some 10, none, none, none, some 11] : List XF).map (Option.map (2 + 13 * j + ·)))) := by
  intro j hj
  rcases x_lt8 hj with rfl | rfl | rfl | rfl | rfl | rfl | rfl | rfl <;> rfl
section XDb
variable {p : Program} {l : Launch} {e : Env} {R : Room} {s : State} {m : MethodId} {args : Array Value} {below : List Frame} {meth : Method} {c : Code} {H : Heap} {locs : List Loc} {cells slots : Nat} {Q : State → Prop} {pc : Nat} {ls : Array Slot} {rest st0 : List Value} {cc : ByteArray}
variable {nL d : Nat} {own : String} {ret : Option FieldType} {D : va_G} {cy : Nat → ClassId} {s00 : State} {sh sh' : List XC} {ad : Nat → Nat} {S S' : XS} {A : Nat → Prop} {y : MethodName} {av : List Value}
theorem XD.of {r : UInt64} (hy : plainName y.cls = true) (lv : List (Nat × Value)) (hlv : lv_args 0 av = lv) (hn : (lg_sl av).length ≤ nL)
    (body : ∀ (p : Program) (e : Env) (s : State) (m : MethodId) (args : Array Value) (below : List Frame) (meth : Method) (c : Code) (A : Nat → Prop) (ls : Array Slot), XE p s m args meth c cc nL y.cls ret D cy s00 → XH D cy s00 sh ad S A s s.heap [] → lv_has ls nL lv → W p l e (xrm d) s m args below meth c s.heap [] 0 0 (MQ below (xqd D cy sh ad r S' A) args s 0 0 A) (F0 m 0 ls [])) :
    XD l y cc nL ret d D cy s00 sh ad S av r S' := by
  intro sz
  refine Met.ofW (cc := cc) (maxL := nL) (ret := ret) hy rfl ?_
  intro p e s m args below meth c s₁ B hml hv
  obtain ⟨rfl, hsz, hP, hK, hD0, hal, h00, hA0⟩ := hv
  have hts := atoms_spec (ws := xws y cc nL ret) B.pre
  subst hsz
  have hl := lv_entry av (n := nL) hn
  rw [lg_entry_eq]
  rw [hlv] at hl
  exact body p e s m av.toArray below meth c _ _ ⟨B.exec, B.bytes, hml, findClass_of_methodNamed B.named, fun w hw => hts w (List.mem_cons_of_mem _ hw), B.notSynchronized, B.returns, hK, hal⟩
    ⟨hP, hD0.self, va_S.rf, fun q hq => Or.inr hq, h00, hA0⟩ hl
theorem XFl.of {r : UInt32} (hy : plainName y.cls = true) (lv : List (Nat × Value)) (hlv : lv_args 0 av = lv) (hn : (lg_sl av).length ≤ nL)
    (body : ∀ (p : Program) (e : Env) (s : State) (m : MethodId) (args : Array Value) (below : List Frame) (meth : Method) (c : Code) (A : Nat → Prop) (ls : Array Slot), XE p s m args meth c cc nL y.cls ret D cy s00 → XH D cy s00 sh ad S A s s.heap [] → lv_has ls nL lv → W p l e (xrm d) s m args below meth c s.heap [] 0 0 (MQ below (xqf D cy sh ad r S' A) args s 0 0 A) (F0 m 0 ls [])) :
    XFl l y cc nL ret d D cy s00 sh ad S av r S' := by
  intro sz
  refine Met.ofW (cc := cc) (maxL := nL) (ret := ret) hy rfl ?_
  intro p e s m args below meth c s₁ B hml hv
  obtain ⟨rfl, hsz, hP, hK, hD0, hal, h00, hA0⟩ := hv
  have hts := atoms_spec (ws := xws y cc nL ret) B.pre
  subst hsz
  have hl := lv_entry av (n := nL) hn
  rw [lg_entry_eq]
  rw [hlv] at hl
  exact body p e s m av.toArray below meth c _ _ ⟨B.exec, B.bytes, hml, findClass_of_methodNamed B.named, fun w hw => hts w (List.mem_cons_of_mem _ hw), B.notSynchronized, B.returns, hK, hal⟩
    ⟨hP, hD0.self, va_S.rf, fun q hq => Or.inr hq, h00, hA0⟩ hl
theorem x_dret {v r : UInt64} (E : XE p s m args meth c cc nL own (some .double) D cy s00) (h : XH D cy s00 sh ad S A s H locs) (hf : some (v, S) = some (r, S')) (hdg : decode cc pc = .ok (.dreturn, 1)) : W p l e R s m args below meth c H locs 0 0 (MQ below (xqd D cy sh ad r S' A) args s 0 0 A) (F0 m pc ls [.double v]) := by
  cases hf
  obtain ⟨hx, hb, hml, hown, hts, hlk, hrt, hK, hal⟩ := E
  exact W.dret hx hb hrt (fun t ht hW => ⟨⟨v, (), rfl, rfl, by rw [ht]; exact h.1, h.2.1⟩, h.2.2.1.F ht⟩) h.2.2.1.2.2 hdg hlk
theorem x_fret {v r : UInt32} (E : XE p s m args meth c cc nL own (some .float) D cy s00) (h : XH D cy s00 sh ad S A s H locs) (hf : some (v, S) = some (r, S')) (hdg : decode cc pc = .ok (.freturn, 1)) : W p l e R s m args below meth c H locs 0 0 (MQ below (xqf D cy sh ad r S' A) args s 0 0 A) (F0 m pc ls [.float v]) := by
  cases hf
  obtain ⟨hx, hb, hml, hown, hts, hlk, hrt, hK, hal⟩ := E
  exact W.fret hx hb hrt (fun t ht hW => ⟨⟨v, (), rfl, rfl, by rw [ht]; exact h.1, h.2.1⟩, h.2.2.1.F ht⟩) h.2.2.1.2.2 hdg hlk
theorem x_pald {α : Type} {z : α} {K : Nat → Option α} {i : Int32} (E : XE p s m args meth c cc nL own ret D cy s00) (h : XH D cy s00 shHistRoof ad S A s H locs) (hf : (xwr i 8).bind K = some z) (hdg : decode cc pc = .ok (.aaload, 1))
    (kk : ∀ j : Nat, j < 8 → K j = some z → W p l e R s m args below meth c H locs cells slots Q (F0 m (pc + 1) ls (.ref (ad (2 + 13 * j)) :: rest))) : W p l e R s m args below meth c H locs cells slots Q (F0 m pc ls (.int i :: .ref (ad 1) :: rest)) := by
  obtain ⟨hin, hf⟩ := xwr_in hf
  have hlt := xin_lt hin
  have h1 := xw_at cy ad S shHistRoof 0 1 (.inr (.inr [2, 15, 28, 41, 54, 67, 80, 93])) rfl
  rw [Nat.zero_add] at h1
  have kj := kk _ hlt hf
  refine va_aldq (D := D) E.1 E.2.1 E.2.2.2.2.2.2.2.1 h.1 1 4 h1 (C := "RooftopCats$Roof") rfl hin hdg ?_
  generalize i.toNatClampNeg = j at hlt kj ⊢
  have e : va_rf ((([2, 15, 28, 41, 54, 67, 80, 93] : List Nat)[j]?).map ad) = .ref (ad (2 + 13 * j)) := by
    rcases (show j = 0 ∨ j = 1 ∨ j = 2 ∨ j = 3 ∨ j = 4 ∨ j = 5 ∨ j = 6 ∨ j = 7 by omega) with rfl | rfl | rfl | rfl | rfl | rfl | rfl | rfl <;> rfl
  rw [e]
  exact kj
end XDb
