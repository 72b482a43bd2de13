/-! x_: methods that return or throw: an outcome is (number of the class of exceptions, 0: returned; answer; contents) -/
def xEns : List String := ["", "java/lang/IndexOutOfBoundsException", "java/lang/IllegalArgumentException", "java/lang/IllegalStateException", "java/util/NoSuchElementException"]
def xEn (k : Nat) : String := xEns.getD k ""
def xNames : List String := ["java/lang/RuntimeException", "java/lang/Exception"]
def xrx (d k : Nat) : Room := { frames := d, cells := k, slots := 6 * k, locals := 60 * d }
def xqxi (D : va_G) (cy : Nat → ClassId) (sh : List XC) (ad : Nat → Nat) (E9 : Nat) (r : Int32) (S' : XS) (A : Nat → Prop) : Array Value → State → Outcome → State → Prop := va_Qi (fun (r' : Int32) (_ : Unit) => E9 = 0 ∧ r' = r) (xPost D cy sh ad S' A) A
def xqxv (D : va_G) (cy : Nat → ClassId) (sh : List XC) (ad : Nat → Nat) (E9 : Nat) (S' : XS) (A : Nat → Prop) : Array Value → State → Outcome → State → Prop := va_Qv (fun (_ : Unit) => E9 = 0) (xPost D cy sh ad S' A) A
def xXC (D : va_G) (cy : Nat → ClassId) (sh : List XC) (ad : Nat → Nat) (E9 : Nat) (S' : XS) (A : Nat → Prop) : String → State → State → Prop := vx_X (fun (_ : Unit) => True) (fun E u t => (E9 ≠ 0 ∧ E = xEn E9) ∧ xPost D cy sh ad S' A u t) A
def XXI (l : Launch) (y : MethodName) (cc : ByteArray) (nL : Nat) (ret : Option FieldType) (d k : Nat) (D : va_G) (cy : Nat → ClassId) (s00 : State) (sh : List XC) (ad : Nat → Nat) (S : XS) (av : List Value) (E9 : Nat) (r : Int32) (S' : XS) : Prop :=
  ∀ sz : Nat, vx_Met l y (xws y cc nL ret) (xrx d k) (va_Pc av (xPre D cy s00 sh ad S sz)) (xqxi D cy sh ad E9 r S' (va_A (xw cy ad S 0 sh) sz)) (xXC D cy sh ad E9 S' (va_A (xw cy ad S 0 sh) sz)) k (6 * k) (va_A (xw cy ad S 0 sh) sz)
def XXV (l : Launch) (y : MethodName) (cc : ByteArray) (nL : Nat) (ret : Option FieldType) (d k : Nat) (D : va_G) (cy : Nat → ClassId) (s00 : State) (sh : List XC) (ad : Nat → Nat) (S : XS) (av : List Value) (E9 : Nat) (S' : XS) : Prop :=
  ∀ sz : Nat, vx_Met l y (xws y cc nL ret) (xrx d k) (va_Pc av (xPre D cy s00 sh ad S sz)) (xqxv D cy sh ad E9 S' (va_A (xw cy ad S 0 sh) sz)) (xXC D cy sh ad E9 S' (va_A (xw cy ad S 0 sh) sz)) k (6 * k) (va_A (xw cy ad S 0 sh) sz)
theorem x_wid {p : Program} {l : Launch} {e : Env} {R : Room} {s : State} {m : MethodId} {args : Array Value} {below : List Frame} {meth : Method} {c : Code} {H : Heap} {locs : List Loc} {cells slots k n : Nat} {Q : State → Prop} {g : JFrame} (h : cells ≤ k ∧ slots ≤ n) (kk : W p l e R s m args below meth c H locs k n Q g) : W p l e R s m args below meth c H locs cells slots Q g := fun T hT X => kk T hT (stand_widen X h.1 h.2)
section XXBody
variable {l : Launch} {y : MethodName} {cc : ByteArray} {nL d k : Nat} {ret : Option FieldType} {D : va_G} {cy : Nat → ClassId} {s00 : State} {sh : List XC} {ad : Nat → Nat} {S S' : XS} {av : List Value} {r : Int32} {E9 : Nat}
theorem XXI.of (hy : plainName y.cls = true) (lv : List (Nat × Value)) (hlv : lv_args 0 av = lv) (hn : (lg_sl av).length ≤ nL)
    (body : ∀ (p : Program) (e : Env) (s : State) (m : MethodId) (args : Array Value) (below : List Frame) (meth : Method) (c : Code) (A : Nat → Prop) (ls : Array Slot), XE p s m args meth c cc nL y.cls ret D cy s00 → XH D cy s00 sh ad S A s s.heap [] → lv_has ls nL lv → (∀ x ∈ c.exceptionTable.toList, False) → W p l e (xrx d k) s m args below meth c s.heap [] 0 0 (vx_MQ below (xqxi D cy sh ad E9 r S' A) (xXC D cy sh ad E9 S' A) args s k (6 * k) A) (F0 m 0 ls [])) :
    XXI l y cc nL ret d k D cy s00 sh ad S av E9 r S' := by
  intro sz
  refine vx_ofW (cc := cc) (maxL := nL) (ret := ret) hy rfl ?_
  intro p e s m args below meth c s₁ B hml hex hv
  obtain ⟨rfl, hsz, hP, hK, hD0, hal, h00, hA0⟩ := hv
  have hts := atoms_spec (ws := xws y cc nL ret) B.pre
  subst hsz
  have hl := lv_entry av (n := nL) hn
  rw [lg_entry_eq]
  rw [hlv] at hl
  exact body p e s m av.toArray below meth c _ _ ⟨B.exec, B.bytes, hml, findClass_of_methodNamed B.named, fun w hw => hts w (List.mem_cons_of_mem _ hw), B.notSynchronized, B.returns, hK, hal⟩
    ⟨hP, hD0.self, va_S.rf, fun q hq => Or.inr hq, h00, hA0⟩ hl hex
theorem XXV.of (hy : plainName y.cls = true) (lv : List (Nat × Value)) (hlv : lv_args 0 av = lv) (hn : (lg_sl av).length ≤ nL)
    (body : ∀ (p : Program) (e : Env) (s : State) (m : MethodId) (args : Array Value) (below : List Frame) (meth : Method) (c : Code) (A : Nat → Prop) (ls : Array Slot), XE p s m args meth c cc nL y.cls ret D cy s00 → XH D cy s00 sh ad S A s s.heap [] → lv_has ls nL lv → (∀ x ∈ c.exceptionTable.toList, False) → W p l e (xrx d k) s m args below meth c s.heap [] 0 0 (vx_MQ below (xqxv D cy sh ad E9 S' A) (xXC D cy sh ad E9 S' A) args s k (6 * k) A) (F0 m 0 ls [])) :
    XXV l y cc nL ret d k D cy s00 sh ad S av E9 S' := by
  intro sz
  refine vx_ofW (cc := cc) (maxL := nL) (ret := ret) hy rfl ?_
  intro p e s m args below meth c s₁ B hml hex hv
  obtain ⟨rfl, hsz, hP, hK, hD0, hal, h00, hA0⟩ := hv
  have hts := atoms_spec (ws := xws y cc nL ret) B.pre
  subst hsz
  have hl := lv_entry av (n := nL) hn
  rw [lg_entry_eq]
  rw [hlv] at hl
  exact body p e s m av.toArray below meth c _ _ ⟨B.exec, B.bytes, hml, findClass_of_methodNamed B.named, fun w hw => hts w (List.mem_cons_of_mem _ hw), B.notSynchronized, B.returns, hK, hal⟩
    ⟨hP, hD0.self, va_S.rf, fun q hq => Or.inr hq, h00, hA0⟩ hl hex
end XXBody
def xDw : List Cond := [.declares (Bundle.initS "java/lang/RuntimeException"), .declares (Bundle.initS "java/lang/Exception"), .declares (Bundle.initS "java/lang/Throwable"), .castable "java/lang/IndexOutOfBoundsException" "java/lang/IndexOutOfBoundsException", .castable "java/lang/IllegalArgumentException" "java/lang/IllegalArgumentException", .castable "java/lang/IllegalStateException" "java/lang/IllegalStateException", .castable "java/util/NoSuchElementException" "java/util/NoSuchElementException"]
def XDW (s00 : State) : Prop := ∀ w ∈ xDw, w.before #[] s00 = true
theorem x_dw {s00 s : State} {args : Array Value} (hD : XDW s00) (hal : xAl s00 s) : ∀ w ∈ xDw, w.before args s = true := by
  have hvm := hal.1
  have tr : ∀ {c : Cond}, c.onTables = true → c.before #[] (s00.setVm s.vm) = true → c.before args s = true := by
    intro c hc h
    have e := Cond.onTables_vm (A := #[]) (A' := args) (U := s00) (U' := s) s.vm c hc
    have hU : s.setVm s.vm = s := rfl
    rw [hU] at e
    rw [← e]
    exact h
  intro w hw
  have h1 := hD w hw
  simp only [xDw, List.mem_cons, List.not_mem_nil, or_false] at hw
  rcases hw with rfl | rfl | rfl | rfl | rfl | rfl | rfl
  · exact tr rfl (by rw [Cond.declares_setVm hvm]; exact h1)
  · exact tr rfl (by rw [Cond.declares_setVm hvm]; exact h1)
  · exact tr rfl (by rw [Cond.declares_setVm hvm]; exact h1)
  · exact tr rfl (by rw [Cond.castable_setVm hvm]; exact h1)
  · exact tr rfl (by rw [Cond.castable_setVm hvm]; exact h1)
  · exact tr rfl (by rw [Cond.castable_setVm hvm]; exact h1)
  · exact tr rfl (by rw [Cond.castable_setVm hvm]; exact h1)
theorem xDw_ot : ∀ w ∈ xDw, vx_ot w = true := by decide +kernel
theorem xin_or {ws : List Cond} (ps : List Nat) (hp : ws = ps.filterMap (fun i => lw_tbl[i]?)) (h : ws.all (fun w => goodWord w || decide (w ∈ xDw)) = true) : ∀ w ∈ ws, w ∈ lwX ∨ w ∈ xDw := by
  intro w hw
  have h1 := List.all_eq_true.mp h w hw
  simp only [Bool.or_eq_true, decide_eq_true_eq] at h1
  rcases h1 with h1 | h1
  · rw [hp] at hw
    obtain ⟨i, -, hi⟩ := List.mem_filterMap.mp hw
    exact Or.inl (kw i hi h1)
  · exact Or.inr h1
section XXRow
variable {p : Program} {l : Launch} {e : Env} {R : Room} {s : State} {m : MethodId} {args : Array Value} {below : List Frame} {meth : Method} {c : Code} {H : Heap} {locs : List Loc} {cells slots mk : Nat} {pc : Nat} {ls : Array Slot} {rest st0 : List Value} {cc : ByteArray}
variable {nL : Nat} {own : String} {ret : Option FieldType} {D : va_G} {cy : Nat → ClassId} {s00 : State} {sh : List XC} {ad : Nat → Nat} {S S' S9 : XS} {A : Nat → Prop} {E9 : Nat} {r9 : Int32} {Qc : Array Value → State → Outcome → State → Prop}
variable {y : MethodName} {cc' : ByteArray} {nL' d' k' n index ci N : Nat} {ret' : Option FieldType} {C : String} {T : u_T} {fs : List XF} {As : List Value} {lv : List (Nat × Value)}
theorem x_xiret {v r : Int32} (E : XE p s m args meth c cc nL own (some .int) D cy s00) (h : XH D cy s00 sh ad S A s H locs) (hf : some ((0 : Nat), v, S) = some (E9, r, S')) (hc : cells ≤ mk ∧ slots ≤ 6 * mk) (hdg : decode cc pc = .ok (.ireturn, 1)) : W p l e R s m args below meth c H locs cells slots (vx_MQ below (xqxi D cy sh ad E9 r S' A) (xXC D cy sh ad E9 S' A) args s mk (6 * mk) A) (F0 m pc ls [.int v]) := by
  cases hf
  obtain ⟨hx, hb, hml, hown, hts, hlk, hrt, hK, hal⟩ := E
  exact x_wid hc (vx_ret (W.iret (v := v) hx hb hrt (fun t ht hW => ⟨⟨v, (), rfl, ⟨rfl, rfl⟩, by rw [ht]; exact h.1, h.2.1⟩, h.2.2.1.F ht⟩) h.2.2.1.2.2 hdg hlk))
theorem x_xzret {v r : Int32} (E : XE p s m args meth c cc nL own (some .boolean) D cy s00) (h : XH D cy s00 sh ad S A s H locs) (hf : (xz v).bind (fun v => some ((0 : Nat), v, S)) = some (E9, r, S')) (hc : cells ≤ mk ∧ slots ≤ 6 * mk) (hdg : decode cc pc = .ok (.ireturn, 1)) : W p l e R s m args below meth c H locs cells slots (vx_MQ below (xqxi D cy sh ad E9 r S' A) (xXC D cy sh ad E9 S' A) args s mk (6 * mk) A) (F0 m pc ls [.int v]) := by
  obtain ⟨hz, hf⟩ := xz_in hf
  cases hf
  obtain ⟨hx, hb, hml, hown, hts, hlk, hrt, hK, hal⟩ := E
  exact x_wid hc (vx_ret (W.zret (v := v) hx hb hrt hz (fun t ht hW => ⟨⟨v, (), rfl, ⟨rfl, rfl⟩, by rw [ht]; exact h.1, h.2.1⟩, h.2.2.1.F ht⟩) h.2.2.1.2.2 hdg hlk))
theorem x_xzic {v r : Int32} (E : XE p s m args meth c cc nL own (some .boolean) D cy s00) (h : XH D cy s00 sh ad S A s H locs) (hz : narrow .boolean (.int v) = .int v) (hf : some ((0 : Nat), v, S) = some (E9, r, S')) (hc : cells ≤ mk ∧ slots ≤ 6 * mk) (hdg : decode cc pc = .ok (.ireturn, 1)) : W p l e R s m args below meth c H locs cells slots (vx_MQ below (xqxi D cy sh ad E9 r S' A) (xXC D cy sh ad E9 S' A) args s mk (6 * mk) A) (F0 m pc ls [.int v]) :=
  x_xzret E h (by rw [xz, if_pos hz]; exact hf) hc hdg
theorem x_xvret {r : Int32} (E : XE p s m args meth c cc nL own none D cy s00) (h : XH D cy s00 sh ad S A s H locs) (hf : some ((0 : Nat), (0 : Int32), S) = some (E9, r, S')) (hc : cells ≤ mk ∧ slots ≤ 6 * mk) (hdg : decode cc pc = .ok (.return_, 1)) : W p l e R s m args below meth c H locs cells slots (vx_MQ below (xqxv D cy sh ad E9 S' A) (xXC D cy sh ad E9 S' A) args s mk (6 * mk) A) (F0 m pc ls []) := by
  cases hf
  obtain ⟨hx, hb, hml, hown, hts, hlk, hrt, hK, hal⟩ := E
  exact x_wid hc (vx_ret (W.vret hx hb hrt (fun t ht hW => ⟨⟨(), rfl, rfl, by rw [ht]; exact h.1, h.2.1⟩, h.2.2.1.F ht⟩) h.2.2.1.2.2 hdg hlk))
/-- a method of nothing that may throw, of the same bundle; what it throws goes on to the caller -/
theorem x_xcallv {K : Int32 → XS → Option XO4} {fc : Option XO4} (E : XE p s m args meth c cc nL own ret D cy s00) (h : XH D cy s00 sh ad S A s H locs) (hl : lv_has ls nL lv) (hex : ∀ x ∈ c.exceptionTable.toList, False) (k0 : Nat) (hf : xbx fc K = some (E9, r9, S9)) (hM : ∀ (E1 : Nat) (r1 : Int32) (S1 : XS), fc = some (E1, r1, S1) → XXV l y cc' nL' ret' d' k' D cy s00 sh ad S (.ref (ad k0) :: As) E1 S1) (mm : xMem y C cc' nL' ret' n) (hs : sh[k0]? = some (.inl (ci, fs))) (hc : vwCl[ci]? = some (C, T, N)) (hlk : Cond.methodLink own index y ∈ lwX) (hst : st0 = As.reverse ++ .ref (ad k0) :: rest) (hn : As.length = n) (hcat : (rest.map fun v => v.category).sum ≤ 8) (hR : (xrx d' k').frames + 1 ≤ R.frames ∧ 8 + (nL' + 11) + (xrx d' k').locals ≤ R.locals) (hcs : cells + k' ≤ R.cells ∧ slots + 6 * k' ≤ R.slots) (hcm : cells + k' ≤ mk ∧ slots + 6 * k' ≤ 6 * mk) (hdg : decode cc pc = .ok (.invokevirtual index, 3))
    (kk : ∀ (r1 : Int32) (S1 : XS) (H1 : Heap) (locs1 : List Loc), K r1 S1 = some (E9, r9, S9) → XH D cy s00 sh ad S1 A s H1 locs1 → W p l e R s m args below meth c H1 locs1 (cells + k') (slots + 6 * k') (vx_MQ below Qc (xXC D cy sh ad E9 S9 A) args s mk (6 * mk) A) (F0 m (pc + 3) ls rest)) : W p l e R s m args below meth c H locs cells slots (vx_MQ below Qc (xXC D cy sh ad E9 S9 A) args s mk (6 * mk) A) (F0 m pc ls st0) := by
  obtain ⟨hx, hb, hml, hown, hts, hlocks, hrt, hK, hal⟩ := E
  obtain ⟨hF, hPre⟩ := h.same hK hal
  obtain ⟨E1, r1, S1, hfc, hf2⟩ : ∃ (E1 : Nat) (r1 : Int32) (S1 : XS), fc = some (E1, r1, S1) ∧ (if E1 = 0 then K r1 S1 else some (E1, r1, S1)) = some (E9, r9, S9) := by
    cases fc with
    | none => cases hf
    | some q => exact ⟨q.1, q.2.1, q.2.2, rfl, hf⟩
  have h1 := xw_at cy ad S sh 0 k0 _ hs
  rw [Nat.zero_add] at h1
  refine vx_callv (vx_runV (As := As) (rest := rest) ⟨hx, hb, hml, hown, hts⟩ (hM E1 r1 S1 hfc H.size) (cwV n hts (mm.good hlk) rfl rfl rfl mm.2.2.2.2 hR) ⟨xPre_blind, va_recv hK h.1 hc h1, fun U hU hW => ⟨rfl, hPre U hU hW⟩⟩ rfl hn hl.1 hst (lv_room hcat) hdg hcs) h.2.2.1 (fun q _ h => hF q h) hF (fun q _ h => hF q h) (fun E ce q9 u t H1 locs1 ht hvm hw hB hz1 hk1 hS1 hce hcv hcl => ?_) (fun u t H1 locs1 ht hvm hw hB hz1 hk1 hS1 => ?_)
  · obtain ⟨⟨hne, hE⟩, hP1, hD1⟩ := hB
    rw [ht] at hP1
    rw [if_neg hne] at hf2
    cases hf2
    have h2 := h.back hS1 hP1
    exact vx_out (fun x hx => (hex x hx).elim) hlocks hce hcv hcl (fun t' ht' hvm' => ⟨(), trivial, ⟨⟨hne, hE⟩, by rw [ht']; exact h2.1, h2.2.1⟩, h2.2.2.1.F ht'⟩) h2.2.2.1.2.2 hcm.1 hcm.2
  · obtain ⟨hP1, hD1⟩ := hB
    rw [ht] at hP1
    have hw : E1 = 0 := hw
    rw [if_pos hw] at hf2
    exact kk r1 S1 H1 locs1 hf2 (h.back hS1 hP1)
theorem x_ot {w : Cond} (h : w ∈ lwX) : vx_ot w = true := by unfold vx_ot; rw [kw_good h, Bool.or_true]
theorem x_xzq {C n d : String} (g : vx_Zq C n d (xA00 s00) s00 s00.heap) (E : XE p s m args meth c cc nL own ret D cy s00) (h : XH D cy s00 sh ad S A s H locs) : vx_Zq C n d A s s.heap :=
  ((vx_Zq.moved E.2.2.2.2.2.2.2.2.1 g).kept h.s0).narrow h.2.2.2.2.2
theorem x_xpost (h : XH D cy s00 sh ad S A s H locs) (hne : E9 ≠ 0) (t : State) (hz : H.size ≤ t.heap.size) (hk : ∀ q : Nat, q < H.size → t.heap[q]? = H[q]?) : xXC D cy sh ad E9 S A (xEn E9) s t := by
  refine ⟨(), trivial, ⟨⟨hne, rfl⟩, h.1.kept (fun k q hq => hk _ (h.1 k q hq).lt), h.2.1⟩, ?_⟩
  obtain ⟨h1, h2, h3⟩ := h.2.2.1
  exact ⟨Nat.le_trans h1 hz, fun q hq hA => by rw [hk q (Nat.lt_of_lt_of_le hq h1)]; exact h2 q hq hA⟩
/-- 'throw new E("text")' -/
theorem x_thr (hT : l.stackTraces = false ∧ XDW s00) (hG : XG s00) (E : XE p s m args meth c cc nL own ret D cy s00) (h : XH D cy s00 sh ad S A s H locs) (hl : lv_has ls nL lv) (hex : ∀ x ∈ c.exceptionTable.toList, False) (En : Nat) {cls tx : String} {ik is ic : Nat} {byt : List Int32} (hcls : xEn En = cls) (hne : En ≠ 0) (hfit : Bundle.fit cls = true) (j : Nat) (hj : xlits[j]? = some (own, is, tx, byt)) (wk : Cond.classLink own ik cls ∈ lwX) (wi : Cond.initialized cls ∈ lwX) (hat : ∀ w ∈ vx_atS own ic cls xNames, w ∈ lwX ∨ w ∈ xDw) (hf : some (En, (0 : Int32), S) = some (E9, r9, S9)) (hR : 5 < R.frames ∧ (rest.map fun v => v.category).sum + 82 ≤ R.locals) (hcs : cells + 1 ≤ R.cells ∧ slots + 6 ≤ R.slots) (hcm : cells + 1 ≤ mk ∧ slots + 6 ≤ 6 * mk)
    (d0 : decode cc pc = .ok (.new ik, 3)) (d3 : decode cc (pc + 3) = .ok (.dup, 1)) (d4 : decode cc (pc + 4) = .ok (.ldc is, 2)) (d6 : decode cc (pc + 6) = .ok (.invokespecial ic, 3)) (d9 : decode cc (pc + 9) = .ok (.athrow, 1)) : W p l e R s m args below meth c H locs cells slots (vx_MQ below Qc (xXC D cy sh ad E9 S9 A) args s mk (6 * mk) A) (F0 m pc ls rest) := by
  cases hf
  subst hcls
  obtain ⟨aK, aV, h1, h2⟩ := hG.2.2.1 _ (List.mem_of_getElem? hj)
  exact vx_throwS (names := xNames) E.1 E.2.1 hT.1 E.2.2.2.1 hfit (by decide +kernel) (E.2.2.2.2.1 _ wk) (E.2.2.2.2.1 _ wi) (E.2.2.2.2.2.2.2.2.2 _ _ _ _ h1) (fun w hw => (hat w hw).elim (fun h9 => E.2.2.2.2.1 w h9) (fun h9 => x_dw hT.2 E.2.2.2.2.2.2.2.2 w h9))
    (fun w hw => by
      rcases List.mem_cons.mp hw with rfl | hw
      · exact x_ot wk
      · rcases List.mem_cons.mp hw with rfl | hw
        · exact x_ot wi
        · exact (hat w hw).elim x_ot (xDw_ot w)) (x_xzq hG.2.2.2.1 E h) (x_xzq hG.2.2.2.2 E h) h.2.2.1 (hl.1.trans E.2.2.1.symm) d0 d3 d4 d6 d9 (fun x hx => (hex x hx).elim) hR.1 hR.2 hcs.1 hcs.2 E.2.2.2.2.2.1 (fun t _ hz hk => x_xpost h hne t hz hk) h.2.2.1.2.2 hcm.1 hcm.2
theorem x_thrW (hT : l.stackTraces = false ∧ XDW s00) (hG : XG s00) (E : XE p s m args meth c cc nL own ret D cy s00) (h : XH D cy s00 sh ad S A s H locs) (hl : lv_has ls nL lv) (hex : ∀ x ∈ c.exceptionTable.toList, False) (En : Nat) {cls tx : String} {ik is ic : Nat} {byt : List Int32} (hcls : xEn En = cls) (hne : En ≠ 0) (hfit : Bundle.fit cls = true) (j : Nat) (hj : xlits[j]? = some (own, is, tx, byt)) (wk : Cond.classLink own ik cls ∈ lwX) (wi : Cond.initialized cls ∈ lwX) (hat : ∀ w ∈ vx_atS own ic cls xNames, w ∈ lwX ∨ w ∈ xDw) (hf : some (En, (0 : Int32), S) = some (E9, r9, S9)) (hR : 5 < R.frames ∧ (rest.map fun v => v.category).sum + 82 ≤ R.locals) (hcs : cells + 1 ≤ R.cells ∧ slots + 6 ≤ R.slots) (hcm : cells + 1 ≤ mk ∧ slots + 6 ≤ 6 * mk)
    (d0 : decode cc pc = .ok (.new ik, 3)) (d3 : decode cc (pc + 3) = .ok (.dup, 1)) (d4 : decode cc (pc + 4) = .ok (.ldc_w is, 3)) (d6 : decode cc (pc + 7) = .ok (.invokespecial ic, 3)) (d9 : decode cc (pc + 10) = .ok (.athrow, 1)) : W p l e R s m args below meth c H locs cells slots (vx_MQ below Qc (xXC D cy sh ad E9 S9 A) args s mk (6 * mk) A) (F0 m pc ls rest) := by
  cases hf
  subst hcls
  obtain ⟨aK, aV, h1, h2⟩ := hG.2.2.1 _ (List.mem_of_getElem? hj)
  exact vx_throwSW (names := xNames) E.1 E.2.1 hT.1 E.2.2.2.1 hfit (by decide +kernel) (E.2.2.2.2.1 _ wk) (E.2.2.2.2.1 _ wi) (E.2.2.2.2.2.2.2.2.2 _ _ _ _ h1) (fun w hw => (hat w hw).elim (fun h9 => E.2.2.2.2.1 w h9) (fun h9 => x_dw hT.2 E.2.2.2.2.2.2.2.2 w h9))
    (fun w hw => by
      rcases List.mem_cons.mp hw with rfl | hw
      · exact x_ot wk
      · rcases List.mem_cons.mp hw with rfl | hw
        · exact x_ot wi
        · exact (hat w hw).elim x_ot (xDw_ot w)) (x_xzq hG.2.2.2.1 E h) (x_xzq hG.2.2.2.2 E h) h.2.2.1 (hl.1.trans E.2.2.1.symm) d0 d3 d4 d6 d9 (fun x hx => (hex x hx).elim) hR.1 hR.2 hcs.1 hcs.2 E.2.2.2.2.2.1 (fun t _ hz hk => x_xpost h hne t hz hk) h.2.2.1.2.2 hcm.1 hcm.2
end XXRow
theorem xat1 : ∀ w ∈ vx_atS RX8 296 "java/lang/IndexOutOfBoundsException" xNames, w ∈ lwX ∨ w ∈ xDw := xin_or [130, 899, 908, 913, 916, 918, 900, 901, 148, 149, 902, 907, 914, 934, 889, 935, 891, 936, 893, 903, 905, 895, 930, 931, 933, 895, 1002, 1003, 1004, 924, 881, 924, 925, 926, 927, 883, 927, 928, 929, 930, 885, 1001, 992, 993, 994, 911, 995, 996, 997, 998, 898, 897, 999] (by decide +kernel) (by decide +kernel)
theorem xat2 : ∀ w ∈ vx_atS RX8 83 "java/lang/IllegalArgumentException" xNames, w ∈ lwX ∨ w ∈ xDw := xin_or [130, 899, 908, 913, 916, 918, 900, 901, 148, 149, 902, 907, 914, 934, 889, 935, 891, 936, 893, 903, 905, 895, 930, 931, 933, 895, 921, 922, 923, 924, 881, 924, 925, 926, 927, 883, 927, 928, 929, 930, 885, 920, 878, 879, 886, 887, 888, 890, 892, 894, 898, 897, 896] (by decide +kernel) (by decide +kernel)
theorem xat3 : ∀ w ∈ vx_atS RX8 315 "java/lang/IllegalStateException" xNames, w ∈ lwX ∨ w ∈ xDw := xin_or [130, 899, 908, 913, 916, 918, 900, 901, 148, 149, 902, 907, 914, 934, 889, 935, 891, 936, 893, 903, 905, 895, 930, 931, 933, 895, 973, 974, 975, 924, 881, 924, 925, 926, 927, 883, 927, 928, 929, 930, 885, 972, 963, 964, 965, 910, 966, 967, 968, 969, 898, 897, 970] (by decide +kernel) (by decide +kernel)
