/-! level 2: both at the start -/
theorem st_ok : ∃ C T : XS, f_X8_init (xput (fun _ _ => 0) 133 3 (-1)) = some C ∧ f_X9_init (xput (fun _ _ => 0) 0 13 (-1)) = some T ∧ GI C T := by
  generalize hC : (xput (fun _ _ => 0) 133 3 (-1) : XS) = C0
  generalize hT : (xput (fun _ _ => 0) 0 13 (-1) : XS) = T0
  have c0 : ∀ a y, a ≠ 133 → C0 a y = 0 := fun a y ha => by rw [← hC, xp_n ha]
  have c1 : ∀ y, C0 133 y = if y = 3 then -1 else 0 := fun y => by rw [← hC, xp_s]
  have t1 : ∀ y, T0 0 y = if y = 13 then -1 else 0 := fun y => by rw [← hT, xp_s]
  obtain ⟨T, e2, m2, a12, a13, -, a2⟩ := in_T (T := T0) (by rw [t1, if_neg (by decide)]; rfl)
  obtain ⟨C, e1, r1, b1⟩ := in_C (S := C0) (rc_q0 (fun y => Or.inl (c0 1 y (by decide))) (fun i _ => c0 11 i (by decide)) (c0 12 0 (by decide)) (fun c _ => c0 13 c (by decide)))
  have tt : ∀ y, y < 16 → y ≠ 11 → y ≠ 12 → y ≠ 13 → T 0 y = 0 := fun y h h1 h2 h3 => by rw [a2 y h1 h2 h3 (by omega) (by omega), t1, if_neg h3]
  have cc : ∀ a y, (a < 1 ∨ 14 ≤ a) → a ≠ 133 → C a y = 0 := fun a y h h1 => by rw [b1 a h]; exact c0 a y h1
  refine ⟨C, T, e1, e2, u_17, r1, m2, wu_17.1, wu_17.2, ⟨false, ?_, ?_, fun h => by cases h⟩, ⟨0, 0, by decide, by decide, ?_, ?_, ?_, fun j hj => by omega⟩, ⟨0, by decide, ?_, ?_, fun i hi => by omega⟩, ⟨0, by decide, ?_, ?_, fun i hi => by omega⟩, ?_, ?_⟩
  · exact (cc 0 2 (by decide) (by decide)).trans rfl
  · exact (tt 6 (by decide) (by decide) (by decide) (by decide)).trans rfl
  · exact (cc 27 2 (by decide) (by decide)).trans rfl
  · exact (cc 27 1 (by decide) (by decide)).trans rfl
  · exact (tt 5 (by decide) (by decide) (by decide) (by decide)).trans rfl
  · exact (cc 134 1 (by decide) (by decide)).trans rfl
  · exact (tt 10 (by decide) (by decide) (by decide) (by decide)).trans rfl
  · exact (cc 152 1 (by decide) (by decide)).trans rfl
  · exact (tt 15 (by decide) (by decide) (by decide) (by decide)).trans rfl
  · rw [b1 133 (Or.inr (by decide)), c1, if_neg (by decide), a12]; rfl
  · rw [b1 133 (Or.inr (by decide)), c1, if_pos rfl, a13]; rfl
theorem st_GS {C T : XS} (g : GI C T) {S : XS} (h1 : ∀ a, a < 154 → S a = C a) (h2 : ∀ a, a < 11 → S (155 + a) = T a) : GS S := GI_cg (fun a ha => (h1 a ha).symm) (fun a ha => (h2 a ha).symm) g
