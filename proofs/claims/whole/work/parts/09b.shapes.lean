theorem xin_of {ws : List Cond} (ps : List Nat) (hp : ws = ps.filterMap (fun i => lw_tbl[i]?)) (h : ws.all goodWord = true) : ∀ w ∈ ws, w ∈ lwX := by
  intro w hw
  have h1 := List.all_eq_true.mp h w hw
  rw [hp] at hw
  obtain ⟨i, -, hi⟩ := List.mem_filterMap.mp hw
  exact kw i hi h1
theorem xinX2 : ∀ w ∈ u_ws RX2 TX2 3, w ∈ lwX := xin_of [267, 269, 271] (by decide +kernel) (by decide +kernel)
theorem xinX3 : ∀ w ∈ u_ws RX3 TX3 4, w ∈ lwX := xin_of [172, 174, 176, 178] (by decide +kernel) (by decide +kernel)
theorem xinX4 : ∀ w ∈ u_ws RX4 TX4 6, w ∈ lwX := xin_of [297, 299, 301, 303, 305, 307] (by decide +kernel) (by decide +kernel)
theorem xinX5 : ∀ w ∈ u_ws RX5 TX5 2, w ∈ lwX := xin_of [358, 360] (by decide +kernel) (by decide +kernel)
theorem xinX6 : ∀ w ∈ u_ws RX6 TX6 17, w ∈ lwX := xin_of [219, 221, 223, 225, 227, 229, 231, 233, 235, 237, 239, 241, 243, 245, 247, 249, 251] (by decide +kernel) (by decide +kernel)
theorem xinX7 : ∀ w ∈ u_ws RX7 TX7 10, w ∈ lwX := xin_of [327, 329, 331, 333, 335, 337, 339, 341, 343, 345] (by decide +kernel) (by decide +kernel)
theorem xinX8 : ∀ w ∈ u_ws RX8 TX8 6, w ∈ lwX := xin_of [437, 439, 441, 443, 445, 447] (by decide +kernel) (by decide +kernel)
theorem xinX9 : ∀ w ∈ u_ws RX9 TX9 23, w ∈ lwX := xin_of [1633, 1635, 1637, 1639, 1641, 1643, 1645, 1647, 1649, 1651, 1653, 1655, 1657, 1659, 1661, 1663, 1665, 1667, 1669, 1671, 1673, 1675, 1677] (by decide +kernel) (by decide +kernel)
theorem x_bool {v : Int32} (h : narrow .boolean (.int v) = .int v) : v = 0 ∨ v = 1 := by
  have h1 : v &&& 1 = v := by simpa [narrow] using h
  obtain ⟨j, hj, e⟩ := pk_andE v (m := 1) 1 (by decide)
  rw [h1] at e
  rcases (show j = 0 ∨ j = 1 by omega) with rfl | rfl
  · exact Or.inl e
  · exact Or.inr e
theorem xfit {v : Int32} (h : narrow .boolean (.int v) = .int v) : fits .boolean (.int v) = true := by
  rcases x_bool h with rfl | rfl <;> decide
theorem x_case {α : Type} {P : Prop} {inst : Decidable P} {X Y z : α} (hf : (if P then X else Y) = z) {G : Prop} (kt : P → X = z → G) (kf : ¬ P → Y = z → G) : G := by
  by_cases h : P
  · exact kt h (by rw [if_pos h] at hf; exact hf)
  · exact kf h (by rw [if_neg h] at hf; exact hf)
theorem x_out {x : Int32} {lo hi : Int} (h : ∀ z : Int, lo ≤ z → z ≤ hi → ¬ x = Int32.ofInt z) : x.toInt < lo ∨ hi < x.toInt := by
  rcases Int.lt_or_le x.toInt lo with h1 | h1
  · exact Or.inl h1
  · rcases Int.lt_or_le hi x.toInt with h2 | h2
    · exact Or.inr h2
    · exact absurd (Int32.ofInt_toInt x).symm (h _ h1 h2)
theorem x_lkout {l : List (Int × Int)} {dflt : Int} {x : Int32} {ks : List Int} (hk : l.map (·.1) = ks) (h : ∀ z ∈ ks, ¬ x = Int32.ofInt z) : Op.lookupswitch.offset l dflt x.toInt = dflt := by
  refine Op.lookupswitch.offset_none (List.find?_eq_none.mpr (fun a ha hq => ?_))
  refine h a.1 (by rw [← hk]; exact List.mem_map.mpr ⟨a, ha, rfl⟩) ?_
  rw [eq_of_beq hq]
  exact (Int32.ofInt_toInt x).symm
section XRet
variable {p : Program} {l : Launch} {e : Env} {R : Room} {s : State} {m : MethodId} {args : Array Value} {below : List Frame} {meth : Method} {c : Code} {H : Heap} {locs : List Loc} {pc : Nat} {ls : Array Slot} {cc : ByteArray}
variable {nL : Nat} {own : String} {D : va_G} {cy : Nat → ClassId} {s00 : State} {sh : List XC} {ad : Nat → Nat} {S S' : XS} {A : Nat → Prop}
theorem x_zic {v r : Int32} (E : XE p s m args meth c cc nL own (some .boolean) D cy s00) (h : XH D cy s00 sh ad S A s H locs) (hz : narrow .boolean (.int v) = .int v) (hf : some (v, S) = some (r, S')) (hdg : decode cc pc = .ok (.ireturn, 1)) : W p l e R s m args below meth c H locs 0 0 (MQ below (xqi D cy sh ad r S' A) args s 0 0 A) (F0 m pc ls [.int v]) :=
  x_zret E h (by rw [xz, if_pos hz]; exact hf) hdg
theorem x_zrc {v r : Int32} (E : XE p s m args meth c cc nL own (some .boolean) D cy s00) (h : XH D cy s00 sh ad S A s H locs) (hz : narrow .boolean (.int v) = .int v) (hf : some v = some r) (hdg : decode cc pc = .ok (.ireturn, 1)) : W p l e R s m args below meth c H locs 0 0 (MQ below (xqi D cy sh ad r S A) args s 0 0 A) (F0 m pc ls [.int v]) := by
  cases hf
  exact x_zic E h hz rfl hdg
end XRet
