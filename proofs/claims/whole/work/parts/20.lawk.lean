/-! the law's own methods: a call of the class, what it throws caught -/
def xwsH (y : MethodName) (cc : ByteArray) (n : Nat) (ret : Option FieldType) (hh : List (Nat × Nat × Nat × Nat)) : List Cond := .codeWith y cc n ret hh :: lwX
def XWr (l : Launch) (y : MethodName) (cc : ByteArray) (nL : Nat) (hh : List (Nat × Nat × Nat × Nat)) (d k : Nat) (D : va_G) (cy : Nat → ClassId) (s00 : State) (sh : List XC) (ad : Nat → Nat) (S : XS) (av : List Value) (r : Int32) (S' : XS) : Prop :=
  ∀ sz : Nat, Met l y (xwsH y cc nL (some .int) hh) (xrx d k) (va_Pc av (xPre D cy s00 sh ad S sz)) (xqi D cy sh ad r S' (va_A (xw cy ad S 0 sh) sz)) k (6 * k) (va_A (xw cy ad S 0 sh) sz)
def XNc (s00 : State) : Prop := ∀ i j, 1 ≤ i → i ≤ 4 → 1 ≤ j → j ≤ 4 → i ≠ j → va_Nc (xEn i) (xEn j) s00
theorem xNc_here {s00 s : State} (h : XNc s00) (hal : xAl s00 s) (i j : Nat) (h1 : 1 ≤ i) (h2 : i ≤ 4) (h3 : 1 ≤ j) (h4 : j ≤ 4) (h5 : i ≠ j) : va_Nc (xEn i) (xEn j) s := va_Nc.moved hal.1 (h i j h1 h2 h3 h4 h5)
section XWBody
variable {l : Launch} {y : MethodName} {cc : ByteArray} {nL d k : Nat} {hh : List (Nat × Nat × Nat × Nat)} {D : va_G} {cy : Nat → ClassId} {s00 : State} {sh : List XC} {ad : Nat → Nat} {S S' : XS} {av : List Value} {r : Int32}
theorem XWr.of (hy : plainName y.cls = true) (lv : List (Nat × Value)) (hlv : lv_args 0 av = lv) (hn : (lg_sl av).length ≤ nL)
    (body : ∀ (p : Program) (e : Env) (s : State) (m : MethodId) (args : Array Value) (below : List Frame) (meth : Method) (c : Code) (A : Nat → Prop) (ls : Array Slot), XE p s m args meth c cc nL y.cls (some .int) D cy s00 → XH D cy s00 sh ad S A s s.heap [] → lv_has ls nL lv → c.exceptionTable.toList = tableOf hh → W p l e (xrx d k) s m args below meth c s.heap [] 0 0 (MQ below (xqi D cy sh ad r S' A) args s k (6 * k) A) (F0 m 0 ls [])) :
    XWr l y cc nL hh d k D cy s00 sh ad S av r S' := by
  intro sz
  refine va_MetW (cc := cc) (maxL := nL) (ret := some .int) (hh := hh) hy rfl ?_
  intro p e s m args below meth c s₁ B hml hv
  obtain ⟨rfl, hsz, hP, hK, hD0, hal, h00, hA0⟩ := hv
  have hts := atoms_spec (ws := xwsH y cc nL (some .int) hh) B.pre
  subst hsz
  have hl := lv_entry av (n := nL) hn
  rw [lg_entry_eq]
  rw [hlv] at hl
  exact body p e s m av.toArray below meth c _ _ ⟨B.exec, B.bytes, hml, findClass_of_methodNamed B.named, fun w hw => hts w (List.mem_cons_of_mem _ hw), B.notSynchronized, B.returns, hK, hal⟩
    ⟨hP, hD0.self, va_S.rf, fun q hq => Or.inr hq, h00, hA0⟩ hl (vx_table (x := y) B (hts _ List.mem_cons_self))
end XWBody
section XWRow
variable {p : Program} {l : Launch} {e : Env} {R : Room} {s : State} {m : MethodId} {args : Array Value} {below : List Frame} {meth : Method} {c : Code} {H : Heap} {locs : List Loc} {cells slots : Nat} {Q : State → Prop} {pc : Nat} {ls : Array Slot} {rest st0 : List Value} {cc : ByteArray}
variable {nL : Nat} {own : String} {ret : Option FieldType} {D : va_G} {cy : Nat → ClassId} {s00 : State} {sh sh' : List XC} {ad : Nat → Nat} {S S' : XS} {A : Nat → Prop} {hh : List (Nat × Nat × Nat × Nat)}
variable {y : MethodName} {cc' : ByteArray} {nL' d' k' n index ci N : Nat} {ret' : Option FieldType} {C : String} {T : u_T} {fs : List XF} {As : List Value} {lv : List (Nat × Value)}
theorem x_wret {mk : Nat} {v r : Int32} (E : XE p s m args meth c cc nL own (some .int) D cy s00) (h : XH D cy s00 sh ad S A s H locs) (hf : some (v, S) = some (r, S')) (hc : cells ≤ mk ∧ slots ≤ 6 * mk) (hdg : decode cc pc = .ok (.ireturn, 1)) : W p l e R s m args below meth c H locs cells slots (MQ below (xqi D cy sh ad r S' A) args s mk (6 * mk) A) (F0 m pc ls [.int v]) := by
  cases hf
  obtain ⟨hx, hb, hml, hown, hts, hlk, hrt, hK, hal⟩ := E
  exact x_wid hc (W.iret (v := v) hx hb hrt (fun t ht hW => ⟨⟨v, (), rfl, rfl, by rw [ht]; exact h.1, h.2.1⟩, h.2.2.1.F ht⟩) h.2.2.1.2.2 hdg hlk)
/-- a method of a bundle that lies in this one, from o on, that may throw: both ends -/
theorem x_xcallW {α : Type} {z : α} {K0 : Int32 → XS → Option α} {KX : Nat → XS → Option α} {fc : Option XO4} (E : XE p s m args meth c cc nL own ret D cy s00) (h : XH D cy s00 sh ad S A s H locs) (hl : lv_has ls nL lv) (o k0 : Nat) (hf : xbW fc (fun r S2 => xlet (xm o sh'.length S S2) (K0 r)) (fun E1 S2 => xlet (xm o sh'.length S S2) (KX E1)) = some z) (hsub : xsub o sh' sh) (hM : ∀ (E1 : Nat) (r1 : Int32) (S1 : XS), fc = some (E1, r1, S1) → XXI l y cc' nL' ret' d' k' D cy s00 sh' (fun i => ad (o + i)) (xs o S) (.ref (ad k0) :: As) E1 r1 S1) (mm : xMem y C cc' nL' ret' n) (hs : sh[k0]? = some (.inl (ci, fs))) (hc : vwCl[ci]? = some (C, T, N)) (hlk : Cond.methodLink own index y ∈ lwX) (hst : st0 = As.reverse ++ .ref (ad k0) :: rest) (hn : As.length = n) (hcat : (rest.map fun v => v.category).sum ≤ 8) (hR : (xrx d' k').frames + 1 ≤ R.frames ∧ 8 + (nL' + 11) + (xrx d' k').locals ≤ R.locals) (hcs : cells + k' ≤ R.cells ∧ slots + 6 * k' ≤ R.slots) (hdg : decode cc pc = .ok (.invokevirtual index, 3))
    (kk : ∀ (r1 : Int32) (S1 : XS) (H1 : Heap) (locs1 : List Loc), K0 r1 S1 = some z → XH D cy s00 sh ad S1 A s H1 locs1 → W p l e R s m args below meth c H1 locs1 (cells + k') (slots + 6 * k') Q (F0 m (pc + 3) ls (.int r1 :: rest)))
    (kx : ∀ (E1 : Nat) (S1 : XS) (ce : Cell) (q : Addr) (H1 : Heap) (locs1 : List Loc), KX E1 S1 = some z → XH D cy s00 sh ad S1 A s H1 locs1 → H1[q]? = some ce → ce.vm = .none → s.vm.findClass (xEn E1) = some ce.cls → vx_W p l e R s m args below meth c H1 locs1 (cells + k') (slots + 6 * k') Q (F0 m pc ls rest) q) : W p l e R s m args below meth c H locs cells slots Q (F0 m pc ls st0) := by
  obtain ⟨hx, hb, hml, hown, hts, hlocks, hrt, hK, hal⟩ := E
  obtain ⟨hF, hP0, hPre⟩ := h.sub hsub hK hal
  obtain ⟨E1, r1, S1, hfc, hf2⟩ : ∃ (E1 : Nat) (r1 : Int32) (S1 : XS), fc = some (E1, r1, S1) ∧ (if E1 = 0 then K0 r1 (xm o sh'.length S S1) else KX E1 (xm o sh'.length S S1)) = some z := by
    cases fc with
    | none => cases hf
    | some q => exact ⟨q.1, q.2.1, q.2.2, rfl, hf⟩
  have h1 := xw_at cy ad S sh 0 k0 _ hs
  rw [Nat.zero_add] at h1
  refine vx_calli (vx_runV (As := As) (rest := rest) ⟨hx, hb, hml, hown, hts⟩ (hM E1 r1 S1 hfc H.size) (cwV n hts (mm.good hlk) rfl rfl rfl mm.2.2.2.2 hR) ⟨xPre_blind, va_recv hK h.1 hc h1, fun U hU hW => ⟨rfl, hPre U hU hW⟩⟩ rfl hn hl.1 hst (lv_room hcat) hdg hcs) h.2.2.1 (fun q _ h => hF q h) hF (fun q _ h => hF q h) (fun E ce q9 u t H1 locs1 ht hvm hw hB hz1 hk1 hS1 hce hcv hcl => ?_) (fun r u t H1 locs1 ht hvm hw hB hz1 hk1 hS1 => ?_)
  · obtain ⟨⟨hne, hE⟩, hP1, hD1⟩ := hB
    rw [ht] at hP1
    rw [if_neg hne] at hf2
    rw [hE] at hcl
    exact kx E1 _ ce q9 H1 locs1 hf2 (h.join hsub hk1 hS1 hP1) hce hcv hcl
  · obtain ⟨hP1, hD1⟩ := hB
    rw [ht] at hP1
    obtain ⟨hw1, hw2⟩ : E1 = 0 ∧ r = r1 := hw
    subst hw2
    rw [if_pos hw1] at hf2
    exact kk r _ H1 locs1 hf2 (h.join hsub hk1 hS1 hP1)
theorem x_last1 {α : Type} {z : α} {K : XS → α} {v : Int32} {x : Int64} (E : XE p s m args meth c cc nL own ret D cy s00) (h : XH D cy s00 sh ad S A s H locs) (k : Nat) (hf : xlet (xput S k 0 v) K = z) (hx : v.toInt64 = x) (hs : sh[k]? = some (.inr (.inl (3, 1)))) (hdg : decode cc pc = .ok (.lastore, 1))
    (kk : ∀ (S' : XS) (H1 : Heap) (locs1 : List Loc), K S' = z → XH D cy s00 sh ad S' A s H1 locs1 → W p l e R s m args below meth c H1 locs1 cells slots Q (F0 m (pc + 1) ls rest)) : W p l e R s m args below meth c H locs cells slots Q (F0 m pc ls (.long x :: .int 0 :: .ref (ad k) :: rest)) := by
  obtain ⟨hx9, hb, hml, hown, hts, hlk, hrt, hK, hal⟩ := E
  have h1 := xw_at cy ad S sh 0 k _ hs
  rw [Nat.zero_add] at h1
  have z0 : (0 : Int32).toNatClampNeg = 0 := rfl
  refine va_last (D := D) hx9 hb hK h.1 h.2.1 h.2.2.1 k 3 h1 rfl (show ¬ ((0 : Int32) < 0 ∨ 1 ≤ (0 : Int32).toNatClampNeg) by decide) hdg (fun H1 locs1 hP hD hS => ?_)
  refine kk _ H1 locs1 hf (h.put (S' := xput S k 0 v) ?_ (Or.inr trivial) hP hD hS)
  have h4 := xw_set cy ad S (xput S k 0 v) sh 0 k _ hs (fun i hi => xput_ne S 0 v (by omega))
  rw [Nat.zero_add] at h4
  rw [← h4]
  congr 2
  have e : vp_updL (fun i => (S k i).toInt64) (0 : Int32).toNatClampNeg x = fun i => (xput S k 0 v k i).toInt64 := by
    funext i
    rw [z0, ← hx]
    simp only [vp_updL, xput, if_true]
    by_cases hi : i = 0
    · rw [if_pos hi, if_pos hi]
    · rw [if_neg hi, if_neg hi]
  simp only [xe, if_true]
  rw [e]
theorem x_lald1 (E : XE p s m args meth c cc nL own ret D cy s00) (h : XH D cy s00 sh ad S A s H locs) (k : Nat) (hs : sh[k]? = some (.inr (.inl (3, 1)))) (hdg : decode cc pc = .ok (.laload, 1))
    (kk : W p l e R s m args below meth c H locs cells slots Q (F0 m (pc + 1) ls (.long (S k 0).toInt64 :: rest))) : W p l e R s m args below meth c H locs cells slots Q (F0 m pc ls (.int 0 :: .ref (ad k) :: rest)) := by
  obtain ⟨hx9, hb, hml, hown, hts, hlk, hrt, hK, hal⟩ := E
  have h1 := xw_at cy ad S sh 0 k _ hs
  rw [Nat.zero_add] at h1
  exact va_lald (D := D) hx9 hb hK h.1 k 3 h1 rfl (show ¬ ((0 : Int32) < 0 ∨ 1 ≤ (0 : Int32).toNatClampNeg) by decide) hdg kk
/-- caught by one of the rows -/
theorem x_catch {E1 : Nat} {ce : Cell} {q : Addr} (hNc : XNc s00) (hD : XDW s00) (E : XE p s m args meth c cc nL own ret D cy s00) (hex : c.exceptionTable.toList = tableOf hh) (j t : Nat) {a0 a1 hp ct : Nat} (hj : hh[j]? = some (a0, a1, hp, ct)) (hE : E1 = t) (ht1 : 1 ≤ t) (ht4 : t ≤ 4) (hcov : (hh.take j).all (fun z => decide (z.2.2.2 ≠ 0)) = true) (hpass : ∀ z ∈ hh.take j, ∃ t' : Nat, 1 ≤ t' ∧ t' ≤ 4 ∧ t ≠ t' ∧ Cond.classLink own z.2.2.2 (xEn t') ∈ lwX) (hx : covers ⟨a0, a1, hp, ct⟩ pc = true) (h0 : ct ≠ 0) (wl : Cond.classLink own ct (xEn t) ∈ lwX) (wc : Cond.castable (xEn t) (xEn t) ∈ xDw) (hcell : H[q]? = some ce) (hv : ce.vm = .none) (hcl : s.vm.findClass (xEn E1) = some ce.cls)
    (kk : W p l e R s m args below meth c H locs cells slots Q (F0 m hp ls [.ref q])) : vx_W p l e R s m args below meth c H locs cells slots Q (F0 m pc ls rest) q := by
  subst hE
  have hlen : j < hh.length := (List.getElem?_eq_some_iff.mp hj).1
  have hsp : c.exceptionTable.toList = tableOf (hh.take j) ++ (⟨a0, a1, hp, ct⟩ : ExceptionTableEntry) :: tableOf (hh.drop (j + 1)) := by
    rw [hex]
    have h1 : hh = hh.take j ++ (a0, a1, hp, ct) :: hh.drop (j + 1) := by
      have h2 := (List.getElem?_eq_some_iff.mp hj).2
      rw [← h2, List.getElem_cons_drop]
      exact (List.take_append_drop j hh).symm
    have h3 : tableOf hh = tableOf (hh.take j ++ (a0, a1, hp, ct) :: hh.drop (j + 1)) := congrArg tableOf h1
    rw [h3]
    simp only [tableOf, List.map_append, List.map_cons]
  refine vx_catch E.2.2.2.1 _ _ _ hsp (fun z hz => ?_) hx h0 (E.2.2.2.2.1 _ wl) (x_dw hD E.2.2.2.2.2.2.2.2 _ wc) hcell hv hcl kk
  obtain ⟨w, hw, rfl⟩ := List.mem_map.mp hz
  obtain ⟨t', h1, h2, h3, h4⟩ := hpass w hw
  have h5 := List.all_eq_true.mp hcov w hw
  exact Or.inr ⟨of_decide_eq_true h5, xEn t', E.2.2.2.2.1 _ h4, xNc_here hNc E.2.2.2.2.2.2.2.2 _ _ ht1 ht4 h1 h2 h3⟩
/-- a static method with a table -/
theorem x_callW {α : Type} {z : α} {K : Int32 → XS → Option α} {fc : Option (Int32 × XS)} (E : XE p s m args meth c cc nL own ret D cy s00) (h : XH D cy s00 sh ad S A s H locs) (hl : lv_has ls nL lv) (hf : xbind2 fc (fun r S2 => xlet (xm 0 sh'.length S S2) (K r)) = some z) (hsub : xsub 0 sh' sh) (hM : ∀ (r1 : Int32) (S1 : XS), fc = some (r1, S1) → XWr l y cc' nL' hh d' k' D cy s00 sh' (fun i => ad (0 + i)) (xs 0 S) As r1 S1) (mm : Cond.static y ∈ lwX ∧ Cond.initialized y.cls ∈ lwX ∧ Cond.codeWith y cc' nL' (some .int) hh ∈ lwX) (hd : y.cls ≠ "java/lang/invoke/MethodHandle" ∧ y.cls ≠ "java/lang/invoke/VarHandle" ∧ (parseMethodDescriptor y.desc).map (fun d => d.parameters.length) = some n) (hlk : Cond.methodLink own index y ∈ lwX) (hst : st0 = As.reverse ++ rest) (hn : As.length = n) (hcat : (rest.map fun v => v.category).sum ≤ 8) (hR : (xrx d' k').frames + 1 ≤ R.frames ∧ 8 + (nL' + 11) + (xrx d' k').locals ≤ R.locals) (hcs : cells + k' ≤ R.cells ∧ slots + 6 * k' ≤ R.slots) (hdg : decode cc pc = .ok (.invokestatic index, 3))
    (kk : ∀ (r1 : Int32) (S1 : XS) (H1 : Heap) (locs1 : List Loc), K r1 S1 = some z → XH D cy s00 sh ad S1 A s H1 locs1 → W p l e R s m args below meth c H1 locs1 (cells + k') (slots + 6 * k') Q (F0 m (pc + 3) ls (.int r1 :: rest))) : W p l e R s m args below meth c H locs cells slots Q (F0 m pc ls st0) := by
  obtain ⟨hx, hb, hml, hown, hts, hlocks, hrt, hK, hal⟩ := E
  obtain ⟨hF, hP0, hPre⟩ := h.sub hsub hK hal
  obtain ⟨r1, S1, hfc, hf2⟩ : ∃ (r1 : Int32) (S1 : XS), fc = some (r1, S1) ∧ K r1 (xm 0 sh'.length S S1) = some z := by
    cases fc with
    | none => cases hf
    | some q => exact ⟨q.1, q.2, rfl, hf⟩
  have hT : GoodIn lwX (va_wsS own index y (xwsH y cc' nL' (some .int) hh)) := by
    refine xgood (fun w hw => ?_)
    rcases List.mem_append.mp hw with hw | hw
    · simp only [List.mem_cons, List.not_mem_nil, or_false] at hw
      rcases hw with rfl | rfl | rfl
      · exact hlk
      · exact mm.1
      · exact mm.2.1
    · rcases List.mem_cons.mp hw with rfl | hw
      · exact mm.2.2
      · exact hw
  refine va_calli (vx_runSW (As := As) (rest := rest) ⟨hx, hb, hml, hown, hts⟩ (hM r1 S1 hfc H.size) (vx_cwSW n hts hT rfl rfl rfl hd hR) ⟨xPre_blind, fun U hU hW => ⟨rfl, hPre U hU hW⟩⟩ rfl hn hl.1 hst (lv_room hcat) hdg hcs) h.2.2.1 (fun q _ h => hF q h) hF (fun r u t H1 locs1 ht hvm hw hB hz1 hk1 hS1 => ?_)
  obtain ⟨hP1, hD1⟩ := hB
  rw [ht] at hP1
  have hw : r = r1 := hw
  subst hw
  exact kk r _ H1 locs1 hf2 (h.join hsub hk1 hS1 hP1)
theorem x_callod {α : Type} {z : α} {K : UInt64 → XS → Option α} {fc : Option (UInt64 × XS)} (E : XE p s m args meth c cc nL own ret D cy s00) (h : XH D cy s00 sh ad S A s H locs) (hl : lv_has ls nL lv) (o k0 : Nat) (hf : xbind2 fc (fun r S2 => xlet (xm o sh'.length S S2) (K r)) = some z) (hsub : xsub o sh' sh) (hM : ∀ (r : UInt64) (S' : XS), fc = some (r, S') → XD l y cc' nL' ret' d' D cy s00 sh' (fun i => ad (o + i)) (xs o S) (.ref (ad k0) :: As) r S') (mm : xMem y C cc' nL' ret' n) (hs : sh[k0]? = some (.inl (ci, fs))) (hc : vwCl[ci]? = some (C, T, N)) (hlk : Cond.methodLink own index y ∈ lwX) (hst : st0 = As.reverse ++ .ref (ad k0) :: rest) (hn : As.length = n) (hcat : (rest.map fun v => v.category).sum ≤ 8) (hR : (xrm d').frames + 1 ≤ R.frames ∧ 8 + (nL' + 11) + (xrm d').locals ≤ R.locals) (hcs : cells ≤ R.cells ∧ slots ≤ R.slots) (hdg : decode cc pc = .ok (.invokevirtual index, 3))
    (kk : ∀ (r : UInt64) (S' : XS) (H1 : Heap) (locs1 : List Loc), K r S' = some z → XH D cy s00 sh ad S' A s H1 locs1 → W p l e R s m args below meth c H1 locs1 cells slots Q (F0 m (pc + 3) ls (.double r :: rest))) : W p l e R s m args below meth c H locs cells slots Q (F0 m pc ls st0) := by
  obtain ⟨hx, hb, hml, hown, hts, hlocks, hrt, hK, hal⟩ := E
  obtain ⟨hF, hP0, hPre⟩ := h.sub hsub hK hal
  have hfc : ∃ (r : UInt64) (S' : XS), fc = some (r, S') ∧ K r (xm o sh'.length S S') = some z := by
    cases fc with
    | none => cases hf
    | some q => exact ⟨q.1, q.2, rfl, hf⟩
  obtain ⟨r, S', hfc, hK2⟩ := hfc
  have h1 := xw_at cy ad S sh 0 k0 _ hs
  rw [Nat.zero_add] at h1
  refine va_calld (va_runV (As := As) (rest := rest) ⟨hx, hb, hml, hown, hts⟩ (hM r S' hfc H.size) (cwV n hts (mm.good hlk) rfl rfl rfl mm.2.2.2.2 hR) ⟨xPre_blind, va_recv hK h.1 hc h1, fun U hU hW => ⟨rfl, hPre U hU hW⟩⟩ rfl hn hl.1 hst (lv_room hcat) hdg hcs) h.2.2.1 (fun q _ h => hF q h) hF (fun r1 u t H1 locs1 ht hvm hw hB hz1 hk1 hS1 => ?_)
  obtain ⟨hP1, hD1⟩ := hB
  rw [ht] at hP1
  have hw : r1 = r := hw
  subst hw
  exact kk _ _ H1 locs1 hK2 (h.join hsub hk1 hS1 hP1)
theorem x_callofl {α : Type} {z : α} {K : UInt32 → XS → Option α} {fc : Option (UInt32 × XS)} (E : XE p s m args meth c cc nL own ret D cy s00) (h : XH D cy s00 sh ad S A s H locs) (hl : lv_has ls nL lv) (o k0 : Nat) (hf : xbind2 fc (fun r S2 => xlet (xm o sh'.length S S2) (K r)) = some z) (hsub : xsub o sh' sh) (hM : ∀ (r : UInt32) (S' : XS), fc = some (r, S') → XFl l y cc' nL' ret' d' D cy s00 sh' (fun i => ad (o + i)) (xs o S) (.ref (ad k0) :: As) r S') (mm : xMem y C cc' nL' ret' n) (hs : sh[k0]? = some (.inl (ci, fs))) (hc : vwCl[ci]? = some (C, T, N)) (hlk : Cond.methodLink own index y ∈ lwX) (hst : st0 = As.reverse ++ .ref (ad k0) :: rest) (hn : As.length = n) (hcat : (rest.map fun v => v.category).sum ≤ 8) (hR : (xrm d').frames + 1 ≤ R.frames ∧ 8 + (nL' + 11) + (xrm d').locals ≤ R.locals) (hcs : cells ≤ R.cells ∧ slots ≤ R.slots) (hdg : decode cc pc = .ok (.invokevirtual index, 3))
    (kk : ∀ (r : UInt32) (S' : XS) (H1 : Heap) (locs1 : List Loc), K r S' = some z → XH D cy s00 sh ad S' A s H1 locs1 → W p l e R s m args below meth c H1 locs1 cells slots Q (F0 m (pc + 3) ls (.float r :: rest))) : W p l e R s m args below meth c H locs cells slots Q (F0 m pc ls st0) := by
  obtain ⟨hx, hb, hml, hown, hts, hlocks, hrt, hK, hal⟩ := E
  obtain ⟨hF, hP0, hPre⟩ := h.sub hsub hK hal
  have hfc : ∃ (r : UInt32) (S' : XS), fc = some (r, S') ∧ K r (xm o sh'.length S S') = some z := by
    cases fc with
    | none => cases hf
    | some q => exact ⟨q.1, q.2, rfl, hf⟩
  obtain ⟨r, S', hfc, hK2⟩ := hfc
  have h1 := xw_at cy ad S sh 0 k0 _ hs
  rw [Nat.zero_add] at h1
  refine va_callf (va_runV (As := As) (rest := rest) ⟨hx, hb, hml, hown, hts⟩ (hM r S' hfc H.size) (cwV n hts (mm.good hlk) rfl rfl rfl mm.2.2.2.2 hR) ⟨xPre_blind, va_recv hK h.1 hc h1, fun U hU hW => ⟨rfl, hPre U hU hW⟩⟩ rfl hn hl.1 hst (lv_room hcat) hdg hcs) h.2.2.1 (fun q _ h => hF q h) hF (fun r1 u t H1 locs1 ht hvm hw hB hz1 hk1 hS1 => ?_)
  obtain ⟨hP1, hD1⟩ := hB
  rw [ht] at hP1
  have hw : r1 = r := hw
  subst hw
  exact kk _ _ H1 locs1 hK2 (h.join hsub hk1 hS1 hP1)
theorem lg_cmp0 (x y : Int32) : lg_cmp x.toInt64 y.toInt64 = 0 ↔ x = y := by
  have h : ∀ a b : Int64, lg_cmp a b = 0 ↔ a = b := by
    intro a b
    unfold lg_cmp
    by_cases h1 : a > b
    · rw [if_pos h1]
      exact ⟨fun h => absurd h (by decide), fun h => by subst h; exact absurd h1 (by simp)⟩
    · rw [if_neg h1]
      by_cases h2 : a = b
      · rw [if_pos h2]; exact ⟨fun _ => h2, fun _ => rfl⟩
      · rw [if_neg h2]; exact ⟨fun h => absurd h (by decide), fun h => absurd h h2⟩
  rw [h]
  exact ⟨fun h => Int32.toInt_inj.mp (by rw [← Int32.toInt_toInt64 x, ← Int32.toInt_toInt64 y, h]), fun h => by rw [h]⟩
theorem x_sld {α : Type} {z : α} {K : Int32 → Option α} {i : Int32} {b L : Nat} {sx : Nat → Int32} (hX : va_X b L sx s s.heap) (hb : b < s.heap.size ∧ ¬ A b) (E : XE p s m args meth c cc nL own ret D cy s00) (h : XH D cy s00 sh ad S A s H locs) (hf : (xrd i L sx).bind K = some z) (hdg : decode cc pc = .ok (.iaload, 1))
    (kk : ∀ v : Int32, K v = some z → W p l e R s m args below meth c H locs cells slots Q (F0 m (pc + 1) ls (.int v :: rest))) : W p l e R s m args below meth c H locs cells slots Q (F0 m pc ls (.int i :: .ref b :: rest)) := by
  obtain ⟨hin, hf⟩ := xrd_in hf
  exact va_sld E.1 E.2.1 hX hb.1 hb.2 h.2.2.1 hin hdg (kk _ hf)
theorem xsub_lawX : xsub 0 shCats shLaw := xsub_of (by decide +kernel)
theorem xsub_lawW : xsub 0 shW shLaw := xsub_of (by decide +kernel)
theorem xsub_lawM : xsub 155 shMod shLaw := xsub_of (by decide +kernel)
theorem xsub_W : xsub 0 shCats shW := xsub_of (by decide +kernel)
end XWRow
