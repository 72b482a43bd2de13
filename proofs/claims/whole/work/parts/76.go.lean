def R_law : String := "RooftopCatsLaw"
def lw_P (b : Addr) (xs : List Int32) (args : Array Value) (s : State) : Prop := args = #[.ref b] ∧ s.IntsAt b xs ∧ xs.length ≤ 3072 ∧ (Jvm.Cond.and given_1 narrow_1).before args s = true
/-- what a walk over the start with the record d0 says of its end, said of the start itself -/
theorem lw_closed {s t : State} {o : Outcome} {d0 : Drawn} {L : List Loc} {k n : Nat} (hd0 : s.drawn.sameBut d0 lw_cs) (hv : ∃ v, o = .returned v) (hW : (s.setDrawn d0).WarmedH t.vm) (hs : (s.setDrawn d0).sameButNew ({ t with vm := s.vm } : State) L k n) : State.butDraws s t lw_cs (fun t1 => Framed s o t1 L k n) := by
  have h2 : t.drawn = d0 := congrArg State.drawn hs.1
  refine ⟨⟨hv, hW, State.sameButNew.setDrawn hs s.drawn⟩, ?_, by decide⟩
  rw [h2]
  exact hd0
def lw_Q (_ : Array Value) (s : State) (o : Outcome) (t : State) : Prop := o = .returned (some (.int 1)) ∧ State.butDraws s t lw_cs (fun t1 => Framed s o t1 [] 601024 7293034)
def lw_Z (below : List Frame) (a : Array Value) (s : State) : State → Prop := fun t => ∃ o, t.status = .running ∧ Ended t below o ∧ lw_Q a s o t
/-- the law's own end, with 1 on the stack, nothing written that was there before, its room as the claim has it; d0: the record of draws at this point (at the entry s.drawn: begin with 'refine W.base ?_' and 'have hd0 := Drawn.sameBut.refl s.drawn lw_cs') -/
theorem lw_ret {p : Program} {l : Launch} {e : Env} {s : State} {m : MethodId} {below : List Frame} {meth : Method} {c : Code} {b : Nat} {d0 : Drawn} (hd0 : s.drawn.sameBut d0 lw_cs) (hx : p.tables.exec = Jvm.exec) (hb : c.code = code) (hr : meth.sig.returnType = ret) (hlocks : meth.locks = false) {pc : Nat} {H : Heap} {ls : Array Slot} (hdg : decode code pc = .ok (.ireturn, 1)) : W p l e room_1 (s.setDrawn d0) m #[Value.ref b] below meth c H [] 601024 7293034 (lw_Z below #[Value.ref b] s) (F0 m pc ls [.int 1]) := by
  intro T hT X
  obtain ⟨fs, hret, hrun, hended, hW, hframe⟩ := X.leave (v := some (.int 1)) (hlocks := hlocks) (fun h => by rw [hr] at h; cases h)
  have hmeth' : T.vm.method? m = some meth := X.method'
  refine ⟨T.setFrames fs, ?_, .returned (some (.int 1)), hrun, hended, rfl, lw_closed hd0 ⟨_, rfl⟩ hW hframe⟩
  jvm_step X.here [X.here.top, hx, hb, hdg, hmeth', hr, ret, narrow_b1]
  (try refine ⟨rfl, ?_⟩); (try refine ⟨rfl, ?_⟩)
  first | (intro acts; rw [hret _ acts rfl rfl rfl]) | rw [hret _ _ rfl rfl rfl]
  exact Steps.refl _
/-- what holds at the law's entry: the machine, the code, the tables' words (any of lw_tbl by 'hts w (by decide +kernel)'), the script of L ints xs at the cell b, what the Statement gives of the start (any of its parts by flat_of_before) -/
def lw_At (p : Program) (s : State) (m : MethodId) (meth : Method) (c : Code) (b L : Nat) (xs : Nat → Int32) : Prop :=
  p.tables.exec = Jvm.exec ∧ c.code = code ∧ meth.sig.returnType = ret ∧ c.maxLocals = 9 ∧ s.vm.findClass R_law = some m.cls ∧ (∀ w ∈ lw_tbl, w.before #[Value.ref b] s = true) ∧ va_X b L xs s s.heap ∧ b < s.heap.size ∧ meth.locks = false ∧ (Jvm.Cond.and given_1 narrow_1).before #[Value.ref b] s = true
theorem kw142 : Cond.classLink RL 8 "RooftopCats" ∈ lwX := kw 142 (by decide +kernel) (by decide +kernel)
theorem kw143 : Cond.instantiable "RooftopCats" 6 ∈ lwX := kw 143 (by decide +kernel) (by decide +kernel)
theorem kw144 : Cond.methodLink RL 130 yX8_init ∈ lwX := kw 144 (by decide +kernel) (by decide +kernel)
theorem kw145 : Cond.instanceMethod yX8_init ∈ lwX := kw 145 (by decide +kernel) (by decide +kernel)
theorem kw146 : Cond.code yX8_init cX8_init 1 none ∈ lwX := kw 146 (by decide +kernel) (by decide +kernel)
theorem kw1303 : Cond.classLink RL 131 "RooftopCatsModel" ∈ lwX := kw 1303 (by decide +kernel) (by decide +kernel)
theorem kw1304 : Cond.instantiable "RooftopCatsModel" 23 ∈ lwX := kw 1304 (by decide +kernel) (by decide +kernel)
theorem kw1305 : Cond.methodLink RL 133 yX9_init ∈ lwX := kw 1305 (by decide +kernel) (by decide +kernel)
theorem kw1306 : Cond.instanceMethod yX9_init ∈ lwX := kw 1306 (by decide +kernel) (by decide +kernel)
theorem kw1307 : Cond.code yX9_init cX9_init 1 none ∈ lwX := kw 1307 (by decide +kernel) (by decide +kernel)
theorem kw2008 : Cond.arrayClass (newarray.typeOf .long) ∈ lwX := kw 2008 (by decide +kernel) (by decide +kernel)
theorem xb_swap {D : va_G} {s00 : State} {A : Nat → Prop} {s : State} {H : Heap} {locs : List Loc} {a b c : va_W} (h : XB D s00 ((a ++ b) ++ c) A s H locs) : XB D s00 ((a ++ c) ++ b) A s H locs := by
  obtain ⟨hP, hD, h3⟩ := h
  have hp : ((a ++ b) ++ c).Perm ((a ++ c) ++ b) := by
    rw [List.append_assoc, List.append_assoc]
    exact List.Perm.append_left a List.perm_append_comm
  have hm : ∀ q, q ∈ (a ++ c) ++ b → ∃ k, ((a ++ b) ++ c)[k]? = some q := fun q hq => List.mem_iff_getElem?.mp (hp.mem_iff.mpr hq)
  refine ⟨fun k q hk => ?_, ⟨fun i j p q hi hj hpq => ?_, fun k q hk => ?_⟩, h3⟩
  · obtain ⟨k', hk'⟩ := hm q (List.mem_of_getElem? hk)
    exact hP k' q hk'
  · have pw : List.Pairwise (fun (p q : Nat × va_E) => p.1 ≠ q.1) ((a ++ b) ++ c) := by
      rw [List.pairwise_iff_getElem]
      intro i j hi hj hij he
      have := hD.1 i j _ _ (List.getElem?_eq_getElem hi) (List.getElem?_eq_getElem hj) he
      omega
    have pw2 := (hp.pairwise_iff (fun {x y} (h : x.1 ≠ y.1) => Ne.symm h)).mp pw
    rw [List.pairwise_iff_getElem] at pw2
    obtain ⟨hi1, hi2⟩ := List.getElem?_eq_some_iff.mp hi
    obtain ⟨hj1, hj2⟩ := List.getElem?_eq_some_iff.mp hj
    by_cases hl : i < j
    · exact absurd hpq (by rw [← hi2, ← hj2]; exact pw2 i j hi1 hj1 hl)
    · by_cases hl2 : j < i
      · exact absurd hpq.symm (by rw [← hi2, ← hj2]; exact pw2 j i hj1 hi1 hl2)
      · omega
  · obtain ⟨k', hk'⟩ := hm q (List.mem_of_getElem? hk)
    exact hD.2 k' q hk'
def glL (q : Nat) (adC adM : Nat → Nat) : Nat → Nat := fun i => if i < 154 then adC i else if i < 155 then q else adM (i - 155)
def glS (SC SM : XS) : XS := fun i => if i < 154 then SC i else if i < 155 then (fun _ => 0) else SM (i - 155)
set_option maxHeartbeats 4000000 in
set_option maxRecDepth 100000 in
theorem eL_law (cy : Nat → ClassId) (q : Nat) (adC adM : Nat → Nat) (SC SM : XS) : (([] ++ xw cy adC SC 0 shCats) ++ [((q, .inl (cy 3, 1, .inr (.inl (fun _ => 0)))) : Nat × va_E)]) ++ xw cy adM SM 0 shMod = xw cy (glL q adC adM) (glS SC SM) 0 shLaw := by
  have hs : shLaw = (shCats.map (xrelF (0 + ·)) ++ shOut) ++ shMod.map (xrelF (155 + ·)) := by decide +kernel
  have b0 : xw cy (glL q adC adM) (glS SC SM) 0 (shCats.map (xrelF (0 + ·))) = xw cy adC SC 0 shCats := by
    refine xw_block (o := 0) (n := 154) (fun i hi => ?_) (fun i hi b => ?_) shCats 0 (by decide +kernel) (by decide +kernel)
    · unfold glL
      rw [Nat.zero_add, if_pos hi]
    · unfold glS
      rw [Nat.zero_add, if_pos hi]
  have b1 : xw cy (glL q adC adM) (glS SC SM) 155 (shMod.map (xrelF (155 + ·))) = xw cy adM SM 0 shMod := by
    refine xw_block (o := 155) (n := 11) (fun i hi => ?_) (fun i hi b => ?_) shMod 0 (by decide +kernel) (by decide +kernel)
    · unfold glL
      rw [if_neg (by omega), if_neg (by omega), show 155 + i - 155 = i by omega]
    · unfold glS
      rw [if_neg (by omega), if_neg (by omega), show 155 + i - 155 = i by omega]
  have b2 : xw cy (glL q adC adM) (glS SC SM) 154 shOut = [((q, .inl (cy 3, 1, .inr (.inl (fun _ => 0)))) : Nat × va_E)] := by
    have e1 : glL q adC adM 154 = q := by
      unfold glL
      rw [if_neg (by decide), if_pos (by decide)]
    have e2 : glS SC SM 154 = fun _ => 0 := by
      unfold glS
      rw [if_neg (by decide), if_pos (by decide)]
    have e4 : (0 : Int32).toInt64 = 0 := by decide
    have e3 : xe cy (glL q adC adM) (fun _ => 0) (.inr (.inl (3, 1))) = .inl (cy 3, 1, .inr (.inl (fun _ => (0 : Int32).toInt64))) := rfl
    show [(glL q adC adM 154, xe cy (glL q adC adM) (glS SC SM 154) (.inr (.inl (3, 1))))] = _
    rw [e1, e2, e3, e4]
  have e9 : xw cy (glL q adC adM) (glS SC SM) 0 ((shCats.map (xrelF (0 + ·)) ++ shOut) ++ shMod.map (xrelF (155 + ·))) = (xw cy (glL q adC adM) (glS SC SM) 0 (shCats.map (xrelF (0 + ·))) ++ xw cy (glL q adC adM) (glS SC SM) 154 shOut) ++ xw cy (glL q adC adM) (glS SC SM) 155 (shMod.map (xrelF (155 + ·))) := by
    rw [xw_app, xw_app]
    rfl
  rw [hs, e9, b0, b1, b2, List.nil_append]
set_option maxHeartbeats 8000000 in
set_option maxRecDepth 100000 in
theorem whole_go {p : Program} {e : Env} {s : State} {m : MethodId} {below : List Frame} {meth : Method} {c : Code} (l : Launch) (hflags : l.flags = flags0) {b L : Nat} {xs : Nat → Int32} (hL : L ≤ 3072) (C0 : lw_At p s m meth c b L xs) {SC SM : XS} (h8 : f_X8_init (xput (fun _ _ => 0) 133 3 (-1)) = some SC) (h9 : f_X9_init (xput (fun _ _ => 0) 0 13 (-1)) = some SM) (hlaw : f_law_L L xs 513 (nI (6 * 0)) (glS SC SM) = some ()) : W p l e room_1 s m #[Value.ref b] below meth c s.heap [] 0 0 (lw_Z below #[Value.ref b] s) (entryFrame m ([Value.ref b] : List Value).toArray 9) := by
  obtain ⟨hx, hb, hr, hml, hown, hts, hX, hbl, hlocks, hgv⟩ := C0
  have hs : ∀ w ∈ xnwL, w.before #[Value.ref b] s = true := flat_of_before _ hgv
  obtain ⟨D, hD⟩ := xD_ok hs hts
  obtain ⟨cy, hcy⟩ := xcy_ok hs hts
  obtain ⟨tE, hEn⟩ := xEn_ok hs hts
  have hG := xG_ok hs hts
  have hNc := xNc_ok hs hts
  have hDW := xDW_ok hs hts
  have hNW := xNW_ok hs hts
  have hAO := xAO_ok hs hts
  have hst : l.stackTraces = false := by
    unfold Launch.stackTraces
    rw [hflags]
    decide +kernel
  have E : XE p s m #[Value.ref b] meth c cL_law 9 RL ret D cy s := ⟨hx, hb, hml, hown, fun w hw => hts w (List.mem_filter.mp hw).1, hlocks, hr, ⟨hD, hcy⟩, Vm.Alike.refl s.vm, fun _ _ _ _ g => g⟩
  have hB : XB D s ([] : va_W) (fun q => s.heap.size ≤ q) s s.heap [] := ⟨fun k q hk => absurd hk (by simp), ⟨fun i j x y hi _ _ => absurd hi (by simp), fun k q hk => absurd hk (by simp)⟩, va_S.rf, fun q h => h, fun q _ => rfl, fun q h => h⟩
  have hl := lv_entry [Value.ref b] (n := 9) (Nat.le_of_ble_eq_true rfl)
  rw [lg_entry_eq]
  have hl : lv_has _ 9 [(0, .ref b)] := hl
  refine x_bnew E hNW hB hl (c_X8_init l D cy s hAO SC h8) rfl xinX8 tyX8_ok (fun j hj => by rcases (show j = 0 ∨ j = 1 ∨ j = 2 ∨ j = 3 ∨ j = 4 ∨ j = 5 by omega) with rfl | rfl | rfl | rfl | rfl | rfl <;> rfl) kw142 kw143 kw116 kw144 kw145 kw146 ⟨rfl, rfl⟩ (by decide +kernel) (Nat.le_of_ble_eq_true rfl) ⟨Nat.le_of_ble_eq_true rfl, Nat.le_of_ble_eq_true rfl⟩ ⟨Nat.le_of_ble_eq_true rfl, Nat.le_of_ble_eq_true rfl⟩ ⟨Nat.le_of_ble_eq_true rfl, Nat.le_of_ble_eq_true rfl⟩ dL_law_0 dL_law_3 dL_law_4 (fun adC H locs hB => ?_)
  refine lv_astore_n (lv' := [(1, .ref (adC 0)), (0, .ref b)]) E.1 E.2.1 dL_law_7 rfl hl (by decide) rfl (fun ls hl => ?_)
  refine x_bnew E hNW hB hl (c_X9_init l D cy s hG SM h9) rfl xinX9 tyX9_ok (fun j hj => by rcases (show j = 0 ∨ j = 1 ∨ j = 2 ∨ j = 3 ∨ j = 4 ∨ j = 5 ∨ j = 6 ∨ j = 7 ∨ j = 8 ∨ j = 9 ∨ j = 10 ∨ j = 11 ∨ j = 12 ∨ j = 13 ∨ j = 14 ∨ j = 15 ∨ j = 16 ∨ j = 17 ∨ j = 18 ∨ j = 19 ∨ j = 20 ∨ j = 21 ∨ j = 22 by omega) with rfl | rfl | rfl | rfl | rfl | rfl | rfl | rfl | rfl | rfl | rfl | rfl | rfl | rfl | rfl | rfl | rfl | rfl | rfl | rfl | rfl | rfl | rfl <;> rfl) kw1303 kw1304 kw125 kw1305 kw1306 kw1307 ⟨rfl, rfl⟩ (by decide +kernel) (Nat.le_of_ble_eq_true rfl) ⟨Nat.le_of_ble_eq_true rfl, Nat.le_of_ble_eq_true rfl⟩ ⟨Nat.le_of_ble_eq_true rfl, Nat.le_of_ble_eq_true rfl⟩ ⟨Nat.le_of_ble_eq_true rfl, Nat.le_of_ble_eq_true rfl⟩ dL_law_8 dL_law_11 dL_law_12 (fun adM H locs hB => ?_)
  refine lv_astore_n (lv' := [(2, .ref (adM 0)), (1, .ref (adC 0)), (0, .ref b)]) E.1 E.2.1 dL_law_15 rfl hl (by decide) rfl (fun ls hl => ?_)
  refine lv_iconst (v := 1) E.1 E.2.1 dL_law_16 (by decide) ?_
  refine x_bnewa (atype := .long) (ty := .long) (N' := 1) (f := .inr (.inl (fun _ => 0))) E hB 3 rfl rfl (fun _ _ h9 => h9) kw2008 (fun _ => rfl) (by decide) rfl (Nat.le_of_ble_eq_true rfl) ⟨Nat.le_of_ble_eq_true rfl, Nat.le_of_ble_eq_true rfl⟩ dL_law_17 (fun q H locs hB => ?_)
  refine lv_astore_n (lv' := [(3, .ref q), (2, .ref (adM 0)), (1, .ref (adC 0)), (0, .ref b)]) E.1 E.2.1 dL_law_19 rfl hl (by decide) rfl (fun ls hl => ?_)
  refine lv_iconst (v := 0) E.1 E.2.1 dL_law_20 (by decide) ?_
  refine lv_istore (lv' := [(4, .int (nI (6 * 0))), (3, .ref q), (2, .ref (adM 0)), (1, .ref (adC 0)), (0, .ref b)]) E.1 E.2.1 dL_law_21 hl (by decide) rfl (fun ls hl => ?_)
  have hB := xb_swap hB
  rw [eL_law] at hB
  have g1 : glL q adC adM 154 = q := by
    unfold glL
    rw [if_neg (by decide), if_pos (by decide)]
  have g2 : glL q adC adM 155 = adM 0 := by
    unfold glL
    rw [if_neg (by decide), if_neg (by decide)]
  have g3 : glL q adC adM 0 = adC 0 := by
    unfold glL
    rw [if_pos (by decide)]
  have hH : XH D cy s shLaw (glL q adC adM) (glS SC SM) (fun q => s.heap.size ≤ q) s H locs := hB
  rw [← g1, ← g2, ← g3] at hl
  generalize glL q adC adM = ad at hH hl
  refine w_law_L (C0 := 166) (M0 := 6507) (Q := lw_Z below #[Value.ref b] s) hX ⟨hbl, fun h => absurd h (by omega)⟩ ⟨hst, hDW⟩ hG hEn hNc (Nat.le_of_ble_eq_true rfl) (Nat.le_of_ble_eq_true rfl) hL E (fun S1 H locs ls c1 m1 hc1 hm1 h => ?_) 513 0 _ H locs ls (by decide) hlaw hH hl
  refine lv_iconst (v := 1) E.1 E.2.1 dL_law_2963 (by decide) ?_
  refine W.forget (locs := []) h.2.2.1.2.2 ?_
  refine W.widen (k := 601024) (n := 7293034) (by omega) (by omega) ?_
  refine W.base ?_
  exact lw_ret (Drawn.sameBut.refl s.drawn lw_cs) hx hb hr hlocks dL_law_2964
