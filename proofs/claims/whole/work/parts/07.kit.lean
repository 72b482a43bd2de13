/-! x_: a bundle of cells: a shape (sh), addresses (ad), contents (S: cell, place) -/
def lwX : List Cond := lw_tbl.filter goodWord
def xws (y : MethodName) (cc : ByteArray) (n : Nat) (ret : Option FieldType) : List Cond := .code y cc n ret :: lwX
theorem kw (i : Nat) {w : Cond} (h : lw_tbl[i]? = some w) (hg : goodWord w = true) : w ∈ lwX := List.mem_filter.mpr ⟨List.mem_of_getElem? h, hg⟩
theorem kw_good {w : Cond} (h : w ∈ lwX) : goodWord w = true := (List.mem_filter.mp h).2
def xfs (ad : Nat → Nat) (f : Nat → Int32) : Nat → List XF → List Value
  | _, [] => []
  | j, none :: r => .int (f j) :: xfs ad f (j + 1) r
  | j, some q :: r => .ref (ad q) :: xfs ad f (j + 1) r
def xe (cy : Nat → ClassId) (ad : Nat → Nat) (f : Nat → Int32) (x : XC) : va_E := match x with
  | .inl (ci, fs) => .inr (ci, xfs ad f 0 fs)
  | .inr (.inl (t, n)) => .inl (cy t, n, if t = 3 then .inr (.inl (fun i => (f i).toInt64)) else .inl f)
  | .inr (.inr ts) => .inl (cy 4, ts.length, .inr (.inr (.inr (.inr (fun i => (ts[i]?).map ad)))))
def xw (cy : Nat → ClassId) (ad : Nat → Nat) (S : XS) : Nat → List XC → va_W
  | _, [] => []
  | k, x :: r => (ad k, xe cy ad (S k) x) :: xw cy ad S (k + 1) r
theorem xput_at (S : XS) (k i : Nat) (v : Int32) : xput S k i v k = fun b => if b = i then v else S k b := by funext b; simp [xput]
theorem xput_ne (S : XS) {k j : Nat} (i : Nat) (v : Int32) (h : j ≠ k) : xput S k i v j = S j := by funext b; simp [xput, h]
theorem xw_len (cy : Nat → ClassId) (ad : Nat → Nat) (S : XS) : ∀ (sh : List XC) (k0 : Nat), (xw cy ad S k0 sh).length = sh.length
  | [], _ => rfl
  | x :: r, k0 => by simp [xw, xw_len cy ad S r (k0 + 1)]
theorem xw_at (cy : Nat → ClassId) (ad : Nat → Nat) (S : XS) : ∀ (sh : List XC) (k0 k : Nat) (x : XC), sh[k]? = some x → (xw cy ad S k0 sh)[k]? = some (ad (k0 + k), xe cy ad (S (k0 + k)) x)
  | [], _, _, _, h => by simp at h
  | y :: r, k0, 0, x, h => by simp only [List.getElem?_cons_zero, Option.some.injEq] at h; subst h; simp [xw]
  | y :: r, k0, k + 1, x, h => by
    rw [List.getElem?_cons_succ] at h
    simp only [xw, List.getElem?_cons_succ]
    rw [xw_at cy ad S r (k0 + 1) k x h, Nat.add_assoc, Nat.add_comm 1 k]
theorem xw_at' (cy : Nat → ClassId) (ad : Nat → Nat) (S : XS) : ∀ (sh : List XC) (k0 k : Nat) (q : Nat × va_E), (xw cy ad S k0 sh)[k]? = some q → ∃ x, sh[k]? = some x ∧ q = (ad (k0 + k), xe cy ad (S (k0 + k)) x) := by
  intro sh k0 k q h
  have hk : k < sh.length := by rw [← xw_len cy ad S sh k0]; exact (List.getElem?_eq_some_iff.mp h).1
  refine ⟨sh[k], List.getElem?_eq_getElem hk, ?_⟩
  have h2 := xw_at cy ad S sh k0 k _ (List.getElem?_eq_getElem hk)
  rw [h2] at h
  exact (Option.some.inj h).symm
theorem xw_set (cy : Nat → ClassId) (ad : Nat → Nat) (S S' : XS) : ∀ (sh : List XC) (k0 k : Nat) (x : XC), sh[k]? = some x → (∀ j, j ≠ k0 + k → S' j = S j) → (xw cy ad S k0 sh).set k (ad (k0 + k), xe cy ad (S' (k0 + k)) x) = xw cy ad S' k0 sh := by
  intro sh k0 k x hx hs
  apply List.ext_getElem?
  intro i
  have hk : k < sh.length := (List.getElem?_eq_some_iff.mp hx).1
  by_cases hi : i < sh.length
  · have hs1 := List.getElem?_eq_getElem hi
    rw [xw_at cy ad S' sh k0 i _ hs1]
    by_cases hik : k = i
    · subst hik
      rw [List.getElem?_set_self (by rw [xw_len]; exact hk)]
      rw [hx] at hs1
      rw [← Option.some.inj hs1]
    · rw [List.getElem?_set_ne hik, xw_at cy ad S sh k0 i _ hs1, hs (k0 + i) (by omega)]
  · rw [List.getElem?_eq_none (by rw [List.length_set, xw_len]; omega), List.getElem?_eq_none (by rw [xw_len]; omega)]
theorem xfs_len (ad : Nat → Nat) (f : Nat → Int32) : ∀ (fs : List XF) (j0 : Nat), (xfs ad f j0 fs).length = fs.length
  | [], _ => rfl
  | none :: r, j0 => by simp [xfs, xfs_len ad f r (j0 + 1)]
  | some q :: r, j0 => by simp [xfs, xfs_len ad f r (j0 + 1)]
theorem xfs_at (ad : Nat → Nat) (f : Nat → Int32) : ∀ (fs : List XF) (j0 j : Nat) (x : XF), fs[j]? = some x → (xfs ad f j0 fs)[j]? = some (match x with | none => .int (f (j0 + j)) | some q => .ref (ad q))
  | [], _, _, _, h => by simp at h
  | none :: r, j0, 0, x, h => by simp only [List.getElem?_cons_zero, Option.some.injEq] at h; subst h; simp [xfs]
  | some q :: r, j0, 0, x, h => by simp only [List.getElem?_cons_zero, Option.some.injEq] at h; subst h; simp [xfs]
  | none :: r, j0, j + 1, x, h => by
    rw [List.getElem?_cons_succ] at h
    simp only [xfs, List.getElem?_cons_succ]
    rw [xfs_at ad f r (j0 + 1) j x h, Nat.add_assoc, Nat.add_comm 1 j]
  | some q :: r, j0, j + 1, x, h => by
    rw [List.getElem?_cons_succ] at h
    simp only [xfs, List.getElem?_cons_succ]
    rw [xfs_at ad f r (j0 + 1) j x h, Nat.add_assoc, Nat.add_comm 1 j]
theorem xfs_congr (ad : Nat → Nat) {f g : Nat → Int32} : ∀ (fs : List XF) (j0 : Nat), (∀ j, j0 ≤ j → f j = g j) → xfs ad f j0 fs = xfs ad g j0 fs
  | [], _, _ => rfl
  | none :: r, j0, h => by simp only [xfs]; rw [h j0 (Nat.le_refl _), xfs_congr ad r (j0 + 1) (fun j hj => h j (by omega))]
  | some q :: r, j0, h => by simp only [xfs]; rw [xfs_congr ad r (j0 + 1) (fun j hj => h j (by omega))]
theorem xfs_set (ad : Nat → Nat) (f : Nat → Int32) (v : Int32) : ∀ (fs : List XF) (j0 j : Nat), fs[j]? = some none → (xfs ad f j0 fs).set j (.int v) = xfs ad (fun i => if i = j0 + j then v else f i) j0 fs
  | [], _, _, h => by simp at h
  | none :: r, j0, 0, h => by
    simp only [xfs, List.set_cons_zero, Nat.add_zero, if_true]
    rw [xfs_congr ad (g := fun i => if i = j0 then v else f i) r (j0 + 1) (fun j hj => (if_neg (by omega)).symm)]
  | some q :: r, j0, 0, h => by simp at h
  | none :: r, j0, j + 1, h => by
    rw [List.getElem?_cons_succ] at h
    simp only [xfs, List.set_cons_succ]
    rw [xfs_set ad f v r (j0 + 1) j h, if_neg (by omega), Nat.add_assoc, Nat.add_comm 1 j]
  | some q :: r, j0, j + 1, h => by
    rw [List.getElem?_cons_succ] at h
    simp only [xfs, List.set_cons_succ]
    rw [xfs_set ad f v r (j0 + 1) j h, Nat.add_assoc, Nat.add_comm 1 j]
theorem xD_congr {cy : Nat → ClassId} {ad : Nat → Nat} {S S' : XS} {sh : List XC} {A : Nat → Prop} (h : va_D A (xw cy ad S 0 sh)) : va_D A (xw cy ad S' 0 sh) := by
  have key : ∀ (k : Nat) (q : Nat × va_E), (xw cy ad S' 0 sh)[k]? = some q → ∃ q0, (xw cy ad S 0 sh)[k]? = some q0 ∧ q0.1 = q.1 := by
    intro k q hq
    obtain ⟨x, hx, rfl⟩ := xw_at' cy ad S' sh 0 k q hq
    exact ⟨_, xw_at cy ad S sh 0 k x hx, rfl⟩
  refine ⟨fun i j p q hi hj hpq => ?_, fun k q hk => ?_⟩
  · obtain ⟨p0, h1, h2⟩ := key i p hi
    obtain ⟨q0, h3, h4⟩ := key j q hj
    exact h.1 i j p0 q0 h1 h3 (h2.trans (hpq.trans h4.symm))
  · obtain ⟨q0, h1, h2⟩ := key k q hk
    rw [← h2]
    exact h.2 k q0 h1
theorem xA_congr {cy : Nat → ClassId} {ad : Nat → Nat} {S S' : XS} {sh : List XC} {sz q : Nat} (h : va_A (xw cy ad S 0 sh) sz q) : va_A (xw cy ad S' 0 sh) sz q := by
  rcases h with ⟨k, e, h⟩ | h
  · obtain ⟨x, hx, he⟩ := xw_at' cy ad S sh 0 k _ h
    refine Or.inl ⟨k, xe cy ad (S' (0 + k)) x, ?_⟩
    rw [xw_at cy ad S' sh 0 k x hx]
    cases he
    rfl
  · exact Or.inr h
def xtys (cy : Nat → ClassId) : List (ClassId × FieldType) := [(cy 0, .int), (cy 1, .byte), (cy 2, .char), (cy 3, .long), (cy 4, .object "RooftopCats$Roof")]
def xrm (d : Nat) : Room := { frames := d, cells := 0, slots := 0, locals := 60 * d }
/-- the tables have gone on from the launch's: what text constants were, they are -/
def xAl (s00 U : State) : Prop := s00.vm.Alike U.vm ∧ ∀ (own : String) (k : Nat) (tx : String) (a : Nat), vk_R own k tx a s00 → vk_R own k tx a U
theorem xAl.warm {s00 s U : State} (h : xAl s00 s) (hW : s.WarmedH U.vm) : xAl s00 U := ⟨h.1.trans hW.alike, fun own k tx a g => vk_R.warm hW (h.2 own k tx a g)⟩
/-- what holds in a method's run: the machine, the code, the words, the classes, the launch's own cells -/
def XE (p : Program) (s : State) (m : MethodId) (args : Array Value) (meth : Method) (c : Code) (cc : ByteArray) (nL : Nat) (own : String) (ret : Option FieldType) (D : va_G) (cy : Nat → ClassId) (s00 : State) : Prop :=
  p.tables.exec = Jvm.exec ∧ c.code = cc ∧ c.maxLocals = nL ∧ s.vm.findClass own = some m.cls ∧ (∀ w ∈ lwX, w.before args s = true) ∧ meth.locks = false ∧ meth.sig.returnType = ret ∧ va_K D vwCl (xtys cy) s ∧ xAl s00 s
/-- what holds of the heap -/
def XH (D : va_G) (cy : Nat → ClassId) (s00 : State) (sh : List XC) (ad : Nat → Nat) (S : XS) (A : Nat → Prop) (s : State) (H : Heap) (locs : List Loc) : Prop :=
  va_P D vwCl (xw cy ad S 0 sh) H ∧ va_D A (xw cy ad S 0 sh) ∧ va_S A s.heap H locs ∧ (∀ q, s.heap.size ≤ q → A q) ∧ (∀ q, q < s00.heap.size → H[q]? = s00.heap[q]?) ∧ (∀ q, A q → s00.heap.size ≤ q)
def xPre (D : va_G) (cy : Nat → ClassId) (s00 : State) (sh : List XC) (ad : Nat → Nat) (S : XS) (sz : Nat) (U : State) : Prop :=
  U.heap.size = sz ∧ va_P D vwCl (xw cy ad S 0 sh) U.heap ∧ va_K D vwCl (xtys cy) U ∧ va_D (fun _ => True) (xw cy ad S 0 sh) ∧ xAl s00 U ∧ (∀ q, q < s00.heap.size → U.heap[q]? = s00.heap[q]?) ∧ (∀ q, va_A (xw cy ad S 0 sh) sz q → s00.heap.size ≤ q)
def xPost (D : va_G) (cy : Nat → ClassId) (sh : List XC) (ad : Nat → Nat) (S' : XS) (A : Nat → Prop) (_ : Unit) (t : State) : Prop := va_P D vwCl (xw cy ad S' 0 sh) t.heap ∧ va_D A (xw cy ad S' 0 sh)
def xqi (D : va_G) (cy : Nat → ClassId) (sh : List XC) (ad : Nat → Nat) (r : Int32) (S' : XS) (A : Nat → Prop) : Array Value → State → Outcome → State → Prop := va_Qi (fun (r' : Int32) (_ : Unit) => r' = r) (xPost D cy sh ad S' A) A
def xqv (D : va_G) (cy : Nat → ClassId) (sh : List XC) (ad : Nat → Nat) (S' : XS) (A : Nat → Prop) : Array Value → State → Outcome → State → Prop := va_Qv (fun (_ : Unit) => True) (xPost D cy sh ad S' A) A
/-- a contract: with contents S the method answers r, with contents S' -/
def XI (l : Launch) (y : MethodName) (cc : ByteArray) (nL : Nat) (ret : Option FieldType) (d : Nat) (D : va_G) (cy : Nat → ClassId) (s00 : State) (sh : List XC) (ad : Nat → Nat) (S : XS) (av : List Value) (r : Int32) (S' : XS) : Prop :=
  ∀ sz : Nat, Met l y (xws y cc nL ret) (xrm d) (va_Pc av (xPre D cy s00 sh ad S sz)) (xqi D cy sh ad r S' (va_A (xw cy ad S 0 sh) sz)) 0 0 (va_A (xw cy ad S 0 sh) sz)
def XV (l : Launch) (y : MethodName) (cc : ByteArray) (nL : Nat) (ret : Option FieldType) (d : Nat) (D : va_G) (cy : Nat → ClassId) (s00 : State) (sh : List XC) (ad : Nat → Nat) (S : XS) (av : List Value) (S' : XS) : Prop :=
  ∀ sz : Nat, Met l y (xws y cc nL ret) (xrm d) (va_Pc av (xPre D cy s00 sh ad S sz)) (xqv D cy sh ad S' (va_A (xw cy ad S 0 sh) sz)) 0 0 (va_A (xw cy ad S 0 sh) sz)
theorem xPre_blind {D : va_G} {cy : Nat → ClassId} {s00 : State} {sh : List XC} {ad : Nat → Nat} {S : XS} {sz : Nat} {av : List Value} : FrameBlind (va_Pc av (xPre D cy s00 sh ad S sz)) := fun av' U gg mk q => by
  obtain ⟨q0, q1, q2, q3, q4, q5, q6, q7⟩ := q
  exact ⟨q0, q1, q2, va_K.moved (u := U) (U := U.calling gg mk av') (Vm.Alike.refl U.vm) q3, q4, ⟨q5.1, fun own k tx a g => vk_R.same (u := U) (U := U.calling _ mk _) rfl (q5.2 own k tx a g)⟩, q6, q7⟩
section XBody
variable {l : Launch} {y : MethodName} {cc : ByteArray} {nL d : Nat} {ret : Option FieldType} {D : va_G} {cy : Nat → ClassId} {s00 : State} {sh : List XC} {ad : Nat → Nat} {S S' : XS} {av : List Value} {r : Int32}
theorem XI.of (hy : plainName y.cls = true) (lv : List (Nat × Value)) (hlv : lv_args 0 av = lv) (hn : (lg_sl av).length ≤ nL)
    (body : ∀ (p : Program) (e : Env) (s : State) (m : MethodId) (args : Array Value) (below : List Frame) (meth : Method) (c : Code) (A : Nat → Prop) (ls : Array Slot), XE p s m args meth c cc nL y.cls ret D cy s00 → XH D cy s00 sh ad S A s s.heap [] → lv_has ls nL lv → W p l e (xrm d) s m args below meth c s.heap [] 0 0 (MQ below (xqi D cy sh ad r S' A) args s 0 0 A) (F0 m 0 ls [])) :
    XI l y cc nL ret d D cy s00 sh ad S av r S' := by
  intro sz
  refine Met.ofW (cc := cc) (maxL := nL) (ret := ret) hy rfl ?_
  intro p e s m args below meth c s₁ B hml hv
  obtain ⟨rfl, hsz, hP, hK, hD0, hal, h00, hA0⟩ := hv
  have hts := atoms_spec (ws := xws y cc nL ret) B.pre
  subst hsz
  have hl := lv_entry av (n := nL) hn
  rw [lg_entry_eq]
  rw [hlv] at hl
  exact body p e s m av.toArray below meth c _ _ ⟨B.exec, B.bytes, hml, findClass_of_methodNamed B.named, fun w hw => hts w (List.mem_cons_of_mem _ hw), B.notSynchronized, B.returns, hK, hal⟩
    ⟨hP, hD0.self, va_S.rf, fun q hq => Or.inr hq, h00, hA0⟩ hl
theorem XV.of (hy : plainName y.cls = true) (lv : List (Nat × Value)) (hlv : lv_args 0 av = lv) (hn : (lg_sl av).length ≤ nL)
    (body : ∀ (p : Program) (e : Env) (s : State) (m : MethodId) (args : Array Value) (below : List Frame) (meth : Method) (c : Code) (A : Nat → Prop) (ls : Array Slot), XE p s m args meth c cc nL y.cls ret D cy s00 → XH D cy s00 sh ad S A s s.heap [] → lv_has ls nL lv → W p l e (xrm d) s m args below meth c s.heap [] 0 0 (MQ below (xqv D cy sh ad S' A) args s 0 0 A) (F0 m 0 ls [])) :
    XV l y cc nL ret d D cy s00 sh ad S av S' := by
  intro sz
  refine Met.ofW (cc := cc) (maxL := nL) (ret := ret) hy rfl ?_
  intro p e s m args below meth c s₁ B hml hv
  obtain ⟨rfl, hsz, hP, hK, hD0, hal, h00, hA0⟩ := hv
  have hts := atoms_spec (ws := xws y cc nL ret) B.pre
  subst hsz
  have hl := lv_entry av (n := nL) hn
  rw [lg_entry_eq]
  rw [hlv] at hl
  exact body p e s m av.toArray below meth c _ _ ⟨B.exec, B.bytes, hml, findClass_of_methodNamed B.named, fun w hw => hts w (List.mem_cons_of_mem _ hw), B.notSynchronized, B.returns, hK, hal⟩
    ⟨hP, hD0.self, va_S.rf, fun q hq => Or.inr hq, h00, hA0⟩ hl
end XBody
section XRow
variable {p : Program} {l : Launch} {e : Env} {R : Room} {s : State} {m : MethodId} {args : Array Value} {below : List Frame} {meth : Method} {c : Code} {H : Heap} {locs : List Loc} {cells slots : Nat} {Q : State → Prop} {pc : Nat} {ls : Array Slot} {rest : List Value} {cc : ByteArray}
variable {nL : Nat} {own : String} {ret : Option FieldType} {D : va_G} {cy : Nat → ClassId} {s00 : State} {sh : List XC} {ad : Nat → Nat} {S S' : XS} {A : Nat → Prop}
theorem x_br {α : Type} {P : Prop} {inst : Decidable P} {X Y z : α} (hf : (if P then X else Y) = z) {GT GF G : Prop} (row : (P → GT) → (¬ P → GF) → G) (kt : X = z → GT) (kf : Y = z → GF) : G :=
  row (fun h => kt (by rw [if_pos h] at hf; exact hf)) (fun h => kf (by rw [if_neg h] at hf; exact hf))
theorem x_brn {α : Type} {P : Prop} {inst : Decidable P} {X Y z : α} (hf : (if P then X else Y) = z) {GT GF G : Prop} (row : (¬ P → GT) → (P → GF) → G) (kt : Y = z → GT) (kf : X = z → GF) : G :=
  row (fun h => kt (by rw [if_neg h] at hf; exact hf)) (fun h => kf (by rw [if_pos h] at hf; exact hf))
theorem x_nm {α : Type} {x : Int32} {K : Int32 → α} {z : α} (hf : xlet x K = z) (k : ∀ y : Int32, K y = z → W p l e R s m args below meth c H locs cells slots Q (F0 m pc ls (.int y :: rest))) : W p l e R s m args below meth c H locs cells slots Q (F0 m pc ls (.int x :: rest)) := k x hf
theorem x_nv {α β : Type} {x : β} {K : β → α} {z : α} (hf : xlet x K = z) {G : Prop} (k : ∀ y : β, y = x → K y = z → G) : G := k x rfl hf
theorem x_get (E : XE p s m args meth c cc nL own ret D cy s00) (h : XH D cy s00 sh ad S A s H locs) (k j : Nat) {ci N index : Nat} {fs : List XF} {C : String} {T : u_T} (hs : sh[k]? = some (.inl (ci, fs))) (hj : fs[j]? = some none) (hc : vwCl[ci]? = some (C, T, N)) (hN : j < N) (hin : ∀ w ∈ u_ws C T N, w ∈ lwX) (hl : Cond.fieldLink own index (T j).1 (T j).2.1 (T j).2.2.1 ∈ lwX) (hdg : decode cc pc = .ok (.getfield index, 3))
    (kk : W p l e R s m args below meth c H locs cells slots Q (F0 m (pc + 3) ls (.int (S k j) :: rest))) : W p l e R s m args below meth c H locs cells slots Q (F0 m pc ls (.ref (ad k) :: rest)) := by
  obtain ⟨hx, hb, hml, hown, hts, hlk, hrt, hK, hal⟩ := E
  have h1 := xw_at cy ad S sh 0 k _ hs
  have h2 := xfs_at ad (S (0 + k)) fs 0 j _ hj
  rw [Nat.zero_add] at h1 h2
  rw [Nat.zero_add] at h2
  exact va_get (D := D) hx hb hts hin hown hK h.1 k h1 hc j hN (hts _ hl) (fun _ h9 => h9) h2 hdg kk
theorem x_getr (E : XE p s m args meth c cc nL own ret D cy s00) (h : XH D cy s00 sh ad S A s H locs) (k j q : Nat) {ci N index : Nat} {fs : List XF} {C : String} {T : u_T} (hs : sh[k]? = some (.inl (ci, fs))) (hj : fs[j]? = some (some q)) (hc : vwCl[ci]? = some (C, T, N)) (hN : j < N) (hin : ∀ w ∈ u_ws C T N, w ∈ lwX) (hl : Cond.fieldLink own index (T j).1 (T j).2.1 (T j).2.2.1 ∈ lwX) (hdg : decode cc pc = .ok (.getfield index, 3))
    (kk : W p l e R s m args below meth c H locs cells slots Q (F0 m (pc + 3) ls (.ref (ad q) :: rest))) : W p l e R s m args below meth c H locs cells slots Q (F0 m pc ls (.ref (ad k) :: rest)) := by
  obtain ⟨hx, hb, hml, hown, hts, hlk, hrt, hK, hal⟩ := E
  have h1 := xw_at cy ad S sh 0 k _ hs
  have h2 := xfs_at ad (S (0 + k)) fs 0 j _ hj
  rw [Nat.zero_add] at h1 h2
  exact va_get (D := D) hx hb hts hin hown hK h.1 k h1 hc j hN (hts _ hl) (fun _ h9 => h9) h2 hdg kk
theorem XH.put (h : XH D cy s00 sh ad S A s H locs) {H1 : Heap} {locs1 : List Loc} {w : va_W} (hw : w = xw cy ad S' 0 sh) (hq : H.size ≤ H1.size ∨ True) (hP : va_P D vwCl w H1) (hD : va_D A w) (hS : va_S A s.heap H1 locs1) : XH D cy s00 sh ad S' A s H1 locs1 := by
  subst hw
  obtain ⟨-, -, hS0, hA, h00, hA0⟩ := h
  refine ⟨hP, hD, hS, hA, fun q hq => ?_, hA0⟩
  have h1 : ¬ A q := fun h => absurd (hA0 q h) (by omega)
  have h2 : q < s.heap.size := by
    rcases Nat.lt_or_ge q s.heap.size with h | h
    · exact h
    · exact absurd (hA q h) h1
  rw [hS.2.1 q h2 h1, ← hS0.2.1 q h2 h1]
  exact h00 q hq
theorem x_put {α : Type} {K : XS → α} {z : α} (E : XE p s m args meth c cc nL own ret D cy s00) (h : XH D cy s00 sh ad S A s H locs) (k j : Nat) {ci N index : Nat} {fs : List XF} {C : String} {T : u_T} {ty0 : Nat → FieldType} {ty : FieldType} {v : Int32} (hf : xlet (xput S k j v) K = z) (hs : sh[k]? = some (.inl (ci, fs))) (hj : fs[j]? = some none) (hc : vwCl[ci]? = some (C, T, N)) (hN : j < N) (hin : ∀ w ∈ u_ws C T N, w ∈ lwX) (hty : ∀ k, k < N → parseFieldDescriptor (T k).2.2.1 = some (ty0 k)) (hnm : ∀ a, a < N → ∀ b, b < N → a ≠ b → (T a).2.1 ≠ (T b).2.1) (hl : Cond.fieldLink own index (T j).1 (T j).2.1 (T j).2.2.1 ∈ lwX) (hfin : (T j).2.2.2 = false) (hd : parseFieldDescriptor (T j).2.2.1 = some ty) (hn : narrow ty (.int v) = .int v) (hfit : fits ty (.int v) = true) (hdg : decode cc pc = .ok (.putfield index, 3))
    (kk : ∀ (S' : XS) (H1 : Heap) (locs1 : List Loc), K S' = z → XH D cy s00 sh ad S' A s H1 locs1 → W p l e R s m args below meth c H1 locs1 cells slots Q (F0 m (pc + 3) ls rest)) : W p l e R s m args below meth c H locs cells slots Q (F0 m pc ls (.int v :: .ref (ad k) :: rest)) := by
  obtain ⟨hx, hb, hml, hown, hts, hlk, hrt, hK, hal⟩ := E
  have h1 := xw_at cy ad S sh 0 k _ hs
  have h2 := xfs_at ad (S (0 + k)) fs 0 j _ hj
  rw [Nat.zero_add] at h1
  have hlen : j < (xfs ad (S k) 0 fs).length := by rw [xfs_len]; exact (List.getElem?_eq_some_iff.mp hj).1
  refine va_put (D := D) hx hb hts hin ty0 hty hnm hown hK h.1 h.2.1 h.2.2.1 k h1 hc j hN (hts _ hl) (fun _ h9 => h9) hfin hd hn hfit hlen hdg (fun H1 locs1 hP hD hS => ?_)
  refine kk _ H1 locs1 hf (h.put (S' := xput S k j v) ?_ (Or.inr trivial) hP hD hS)
  have h3 := xfs_set ad (S k) v fs 0 j hj
  rw [Nat.zero_add] at h3
  rw [h3, ← xput_at S k j v]
  have h4 := xw_set cy ad S (xput S k j v) sh 0 k _ hs (fun i hi => xput_ne S j v (by omega))
  rw [Nat.zero_add] at h4
  exact h4
theorem xrd_in {i : Int32} {n : Nat} {f : Nat → Int32} {α : Type} {K : Int32 → Option α} {z : α} (hf : (xrd i n f).bind K = some z) : vp_in i n ∧ K (f i.toNatClampNeg) = some z := by
  unfold xrd at hf
  by_cases h : i < 0 ∨ n ≤ i.toNatClampNeg
  · rw [if_pos h] at hf; cases hf
  · rw [if_neg h] at hf; exact ⟨h, hf⟩
theorem xwr_in {i : Int32} {n : Nat} {α : Type} {K : Nat → Option α} {z : α} (hf : (xwr i n).bind K = some z) : vp_in i n ∧ K i.toNatClampNeg = some z := by
  unfold xwr at hf
  by_cases h : i < 0 ∨ n ≤ i.toNatClampNeg
  · rw [if_pos h] at hf; cases hf
  · rw [if_neg h] at hf; exact ⟨h, hf⟩
theorem x_iald {α : Type} {z : α} {K : Int32 → Option α} {i : Int32} (E : XE p s m args meth c cc nL own ret D cy s00) (h : XH D cy s00 sh ad S A s H locs) (k : Nat) {n : Nat} (hf : (xrd i n (S k)).bind K = some z) (hs : sh[k]? = some (.inr (.inl (0, n)))) (hdg : decode cc pc = .ok (.iaload, 1))
    (kk : ∀ v : Int32, K v = some z → W p l e R s m args below meth c H locs cells slots Q (F0 m (pc + 1) ls (.int v :: rest))) : W p l e R s m args below meth c H locs cells slots Q (F0 m pc ls (.int i :: .ref (ad k) :: rest)) := by
  obtain ⟨hin, hf⟩ := xrd_in hf
  have h1 := xw_at cy ad S sh 0 k _ hs
  rw [Nat.zero_add] at h1
  exact va_iald (D := D) E.1 E.2.1 E.2.2.2.2.2.2.2.1 h.1 k 0 h1 rfl hin hdg (kk _ hf)
theorem x_bald {α : Type} {z : α} {K : Int32 → Option α} {i : Int32} (E : XE p s m args meth c cc nL own ret D cy s00) (h : XH D cy s00 sh ad S A s H locs) (k : Nat) {n : Nat} (hf : (xrd i n (S k)).bind K = some z) (hs : sh[k]? = some (.inr (.inl (1, n)))) (hdg : decode cc pc = .ok (.baload, 1))
    (kk : ∀ v : Int32, K v = some z → W p l e R s m args below meth c H locs cells slots Q (F0 m (pc + 1) ls (.int v :: rest))) : W p l e R s m args below meth c H locs cells slots Q (F0 m pc ls (.int i :: .ref (ad k) :: rest)) := by
  obtain ⟨hin, hf⟩ := xrd_in hf
  have h1 := xw_at cy ad S sh 0 k _ hs
  rw [Nat.zero_add] at h1
  exact va_bald (D := D) E.1 E.2.1 E.2.2.2.2.2.2.2.1 h.1 k 1 h1 rfl hin hdg (kk _ hf)
theorem x_cald {α : Type} {z : α} {K : Int32 → Option α} {i : Int32} (E : XE p s m args meth c cc nL own ret D cy s00) (h : XH D cy s00 sh ad S A s H locs) (k : Nat) {n : Nat} (hf : (xrd i n (S k)).bind K = some z) (hs : sh[k]? = some (.inr (.inl (2, n)))) (hdg : decode cc pc = .ok (.caload, 1))
    (kk : ∀ v : Int32, K v = some z → W p l e R s m args below meth c H locs cells slots Q (F0 m (pc + 1) ls (.int v :: rest))) : W p l e R s m args below meth c H locs cells slots Q (F0 m pc ls (.int i :: .ref (ad k) :: rest)) := by
  obtain ⟨hin, hf⟩ := xrd_in hf
  have h1 := xw_at cy ad S sh 0 k _ hs
  rw [Nat.zero_add] at h1
  exact va_cald (D := D) E.1 E.2.1 E.2.2.2.2.2.2.2.1 h.1 k 2 h1 rfl hin hdg (kk _ hf)
theorem xput_arr {t n k j : Nat} {v : Int32} (ht : t ≠ 3) (hs : sh[k]? = some (.inr (.inl (t, n)))) : (xw cy ad S 0 sh).set k (ad k, .inl (cy t, n, .inl (upd (S k) j v))) = xw cy ad (xput S k j v) 0 sh := by
  have h4 := xw_set cy ad S (xput S k j v) sh 0 k _ hs (fun i hi => xput_ne S j v (by omega))
  rw [Nat.zero_add, xput_at] at h4
  rw [← h4]
  simp only [xe, if_neg ht]
  rfl
theorem x_iast {α : Type} {z : α} {K : XS → Option α} {i v : Int32} (E : XE p s m args meth c cc nL own ret D cy s00) (h : XH D cy s00 sh ad S A s H locs) (k : Nat) {n : Nat} (hf : (xwr i n).bind (fun j => xlet (xput S k j v) K) = some z) (hs : sh[k]? = some (.inr (.inl (0, n)))) (hdg : decode cc pc = .ok (.iastore, 1))
    (kk : ∀ (S' : XS) (H1 : Heap) (locs1 : List Loc), K S' = some z → XH D cy s00 sh ad S' A s H1 locs1 → W p l e R s m args below meth c H1 locs1 cells slots Q (F0 m (pc + 1) ls rest)) : W p l e R s m args below meth c H locs cells slots Q (F0 m pc ls (.int v :: .int i :: .ref (ad k) :: rest)) := by
  obtain ⟨hin, hf⟩ := xwr_in hf
  have h1 := xw_at cy ad S sh 0 k _ hs
  rw [Nat.zero_add] at h1
  refine va_iast (D := D) E.1 E.2.1 E.2.2.2.2.2.2.2.1 h.1 h.2.1 h.2.2.1 k 0 h1 rfl hin hdg (fun H1 locs1 hP hD hS => ?_)
  exact kk _ H1 locs1 hf (h.put (S' := xput S k i.toNatClampNeg v) (xput_arr (by decide) hs) (Or.inr trivial) hP hD hS)
theorem x_bast {α : Type} {z : α} {K : XS → Option α} {i v : Int32} (E : XE p s m args meth c cc nL own ret D cy s00) (h : XH D cy s00 sh ad S A s H locs) (k : Nat) {n : Nat} (hf : (xwr i n).bind (fun j => xlet (xput S k j (vp_nar .byte v)) K) = some z) (hs : sh[k]? = some (.inr (.inl (1, n)))) (hdg : decode cc pc = .ok (.bastore, 1))
    (kk : ∀ (S' : XS) (H1 : Heap) (locs1 : List Loc), K S' = some z → XH D cy s00 sh ad S' A s H1 locs1 → W p l e R s m args below meth c H1 locs1 cells slots Q (F0 m (pc + 1) ls rest)) : W p l e R s m args below meth c H locs cells slots Q (F0 m pc ls (.int v :: .int i :: .ref (ad k) :: rest)) := by
  obtain ⟨hin, hf⟩ := xwr_in hf
  have h1 := xw_at cy ad S sh 0 k _ hs
  rw [Nat.zero_add] at h1
  refine va_bast (D := D) E.1 E.2.1 E.2.2.2.2.2.2.2.1 h.1 h.2.1 h.2.2.1 k 1 h1 rfl hin hdg (fun H1 locs1 hP hD hS => ?_)
  exact kk _ H1 locs1 hf (h.put (S' := xput S k i.toNatClampNeg (vp_nar .byte v)) (xput_arr (by decide) hs) (Or.inr trivial) hP hD hS)
theorem x_cast {α : Type} {z : α} {K : XS → Option α} {i v : Int32} (E : XE p s m args meth c cc nL own ret D cy s00) (h : XH D cy s00 sh ad S A s H locs) (k : Nat) {n : Nat} (hf : (xwr i n).bind (fun j => xlet (xput S k j (vp_nar .char v)) K) = some z) (hs : sh[k]? = some (.inr (.inl (2, n)))) (hdg : decode cc pc = .ok (.castore, 1))
    (kk : ∀ (S' : XS) (H1 : Heap) (locs1 : List Loc), K S' = some z → XH D cy s00 sh ad S' A s H1 locs1 → W p l e R s m args below meth c H1 locs1 cells slots Q (F0 m (pc + 1) ls rest)) : W p l e R s m args below meth c H locs cells slots Q (F0 m pc ls (.int v :: .int i :: .ref (ad k) :: rest)) := by
  obtain ⟨hin, hf⟩ := xwr_in hf
  have h1 := xw_at cy ad S sh 0 k _ hs
  rw [Nat.zero_add] at h1
  refine va_cast (D := D) E.1 E.2.1 E.2.2.2.2.2.2.2.1 h.1 h.2.1 h.2.2.1 k 2 h1 rfl hin hdg (fun H1 locs1 hP hD hS => ?_)
  exact kk _ H1 locs1 hf (h.put (S' := xput S k i.toNatClampNeg (vp_nar .char v)) (xput_arr (by decide) hs) (Or.inr trivial) hP hD hS)
theorem x_iret {v r : Int32} (E : XE p s m args meth c cc nL own (some .int) D cy s00) (h : XH D cy s00 sh ad S A s H locs) (hf : some (v, S) = some (r, S')) (hdg : decode cc pc = .ok (.ireturn, 1)) : W p l e R s m args below meth c H locs 0 0 (MQ below (xqi D cy sh ad r S' A) args s 0 0 A) (F0 m pc ls [.int v]) := by
  cases hf
  obtain ⟨hx, hb, hml, hown, hts, hlk, hrt, hK, hal⟩ := E
  exact W.iret (v := v) hx hb hrt (fun t ht hW => ⟨⟨v, (), rfl, rfl, by rw [ht]; exact h.1, h.2.1⟩, h.2.2.1.F ht⟩) h.2.2.1.2.2 hdg hlk
theorem x_irp {v r : Int32} (E : XE p s m args meth c cc nL own (some .int) D cy s00) (h : XH D cy s00 sh ad S A s H locs) (hf : some v = some r) (hdg : decode cc pc = .ok (.ireturn, 1)) : W p l e R s m args below meth c H locs 0 0 (MQ below (xqi D cy sh ad r S A) args s 0 0 A) (F0 m pc ls [.int v]) := by
  cases hf
  exact x_iret E h rfl hdg
theorem xz_in {v : Int32} {α : Type} {K : Int32 → Option α} {z : α} (hf : (xz v).bind K = some z) : narrow .boolean (.int v) = .int v ∧ K v = some z := by
  unfold xz at hf
  by_cases h : narrow .boolean (.int v) = .int v
  · rw [if_pos h] at hf; exact ⟨h, hf⟩
  · rw [if_neg h] at hf; cases hf
theorem x_zret {v r : Int32} (E : XE p s m args meth c cc nL own (some .boolean) D cy s00) (h : XH D cy s00 sh ad S A s H locs) (hf : ((xz v).bind fun v => some (v, S)) = some (r, S')) (hdg : decode cc pc = .ok (.ireturn, 1)) : W p l e R s m args below meth c H locs 0 0 (MQ below (xqi D cy sh ad r S' A) args s 0 0 A) (F0 m pc ls [.int v]) := by
  obtain ⟨hz, hf⟩ := xz_in hf
  cases hf
  obtain ⟨hx, hb, hml, hown, hts, hlk, hrt, hK, hal⟩ := E
  exact W.zret (v := v) hx hb hrt hz (fun t ht hW => ⟨⟨v, (), rfl, rfl, by rw [ht]; exact h.1, h.2.1⟩, h.2.2.1.F ht⟩) h.2.2.1.2.2 hdg hlk
theorem x_zrp {v r : Int32} (E : XE p s m args meth c cc nL own (some .boolean) D cy s00) (h : XH D cy s00 sh ad S A s H locs) (hf : xz v = some r) (hdg : decode cc pc = .ok (.ireturn, 1)) : W p l e R s m args below meth c H locs 0 0 (MQ below (xqi D cy sh ad r S A) args s 0 0 A) (F0 m pc ls [.int v]) :=
  x_zret E h (by rw [hf]; rfl) hdg
theorem x_vret (E : XE p s m args meth c cc nL own none D cy s00) (h : XH D cy s00 sh ad S A s H locs) (hf : some S = some S') (hdg : decode cc pc = .ok (.return_, 1)) : W p l e R s m args below meth c H locs 0 0 (MQ below (xqv D cy sh ad S' A) args s 0 0 A) (F0 m pc ls []) := by
  cases hf
  obtain ⟨hx, hb, hml, hown, hts, hlk, hrt, hK, hal⟩ := E
  exact W.vret hx hb hrt (fun t ht hW => ⟨⟨(), rfl, trivial, by rw [ht]; exact h.1, h.2.1⟩, h.2.2.1.F ht⟩) h.2.2.1.2.2 hdg hlk
end XRow
