theorem kw504 : Cond.instanceMethod yJ0_length_8abf5 ∈ lwX := kw 504 (by decide +kernel) (by decide +kernel)
theorem kw505 : Cond.selects RJ0 yJ0_length_8abf5 yJ0_length_8abf5 ∈ lwX := kw 505 (by decide +kernel) (by decide +kernel)
theorem kw126 : Cond.initialized RJ0 ∈ lwX := kw 126 (by decide +kernel) (by decide +kernel)
theorem kw506 : Cond.code yJ0_length_8abf5 cJ0_length_8abf5 1 (some .int) ∈ lwX := kw 506 (by decide +kernel) (by decide +kernel)
theorem kw514 : Cond.instanceMethod yJ0_charAt_5068e ∈ lwX := kw 514 (by decide +kernel) (by decide +kernel)
theorem kw515 : Cond.selects RJ0 yJ0_charAt_5068e yJ0_charAt_5068e ∈ lwX := kw 515 (by decide +kernel) (by decide +kernel)
theorem kw516 : Cond.code yJ0_charAt_5068e cJ0_charAt_5068e 2 (some .char) ∈ lwX := kw 516 (by decide +kernel) (by decide +kernel)
theorem kw508 : Cond.instanceMethod yJ0_coder_7d493 ∈ lwX := kw 508 (by decide +kernel) (by decide +kernel)
theorem kw509 : Cond.selects RJ0 yJ0_coder_7d493 yJ0_coder_7d493 ∈ lwX := kw 509 (by decide +kernel) (by decide +kernel)
theorem kw510 : Cond.code yJ0_coder_7d493 cJ0_coder_7d493 1 (some .byte) ∈ lwX := kw 510 (by decide +kernel) (by decide +kernel)
theorem kw518 : Cond.instanceMethod yJ0_isLatin1_aae02 ∈ lwX := kw 518 (by decide +kernel) (by decide +kernel)
theorem kw519 : Cond.selects RJ0 yJ0_isLatin1_aae02 yJ0_isLatin1_aae02 ∈ lwX := kw 519 (by decide +kernel) (by decide +kernel)
theorem kw520 : Cond.code yJ0_isLatin1_aae02 cJ0_isLatin1_aae02 1 (some .boolean) ∈ lwX := kw 520 (by decide +kernel) (by decide +kernel)
theorem kw525 : Cond.static yJ0_checkIndex_df160 ∈ lwX := kw 525 (by decide +kernel) (by decide +kernel)
theorem kw526 : Cond.code yJ0_checkIndex_df160 cJ0_checkIndex_df160 2 none ∈ lwX := kw 526 (by decide +kernel) (by decide +kernel)
theorem kw522 : Cond.static yJ1_charAt_3b067 ∈ lwX := kw 522 (by decide +kernel) (by decide +kernel)
theorem kw127 : Cond.initialized RJ1 ∈ lwX := kw 127 (by decide +kernel) (by decide +kernel)
theorem kw523 : Cond.code yJ1_charAt_3b067 cJ1_charAt_3b067 2 (some .char) ∈ lwX := kw 523 (by decide +kernel) (by decide +kernel)
theorem kw530 : Cond.static yJ3_checkIndex_8e157 ∈ lwX := kw 530 (by decide +kernel) (by decide +kernel)
theorem kw128 : Cond.initialized RJ3 ∈ lwX := kw 128 (by decide +kernel) (by decide +kernel)
theorem kw531 : Cond.code yJ3_checkIndex_8e157 cJ3_checkIndex_8e157 3 (some .int) ∈ lwX := kw 531 (by decide +kernel) (by decide +kernel)
theorem kw511 : Cond.fieldLink RJ0 38 "java/lang/String" "COMPACT_STRINGS" "Z" ∈ lwX := kw 511 (by decide +kernel) (by decide +kernel)
theorem kw2026 : Cond.fieldLink RJ0 15 "java/lang/String" "coder" "B" ∈ lwX := kw 2026 (by decide +kernel) (by decide +kernel)
theorem kw2025 : Cond.fieldLink RJ0 9 "java/lang/String" "value" "[B" ∈ lwX := kw 2025 (by decide +kernel) (by decide +kernel)
theorem kw527 : Cond.fieldLink RJ0 1053 "jdk/internal/util/Preconditions" "SIOOBE_FORMATTER" "Ljava/util/function/BiFunction;" ∈ lwX := kw 527 (by decide +kernel) (by decide +kernel)
theorem kw507 : Cond.methodLink RJ0 335 yJ0_coder_7d493 ∈ lwX := kw 507 (by decide +kernel) (by decide +kernel)
theorem kw517 : Cond.methodLink RJ0 492 yJ0_isLatin1_aae02 ∈ lwX := kw 517 (by decide +kernel) (by decide +kernel)
theorem kw521 : Cond.methodLink RJ0 495 yJ1_charAt_3b067 ∈ lwX := kw 521 (by decide +kernel) (by decide +kernel)
theorem kw524 : Cond.methodLink RJ1 9 yJ0_checkIndex_df160 ∈ lwX := kw 524 (by decide +kernel) (by decide +kernel)
theorem kw529 : Cond.methodLink RJ0 1059 yJ3_checkIndex_8e157 ∈ lwX := kw 529 (by decide +kernel) (by decide +kernel)
theorem m_J0_length_8abf5 : xMem yJ0_length_8abf5 RJ0 cJ0_length_8abf5 1 (some .int) 0 := ⟨kw504, kw505, kw126, kw506, by decide +kernel, by decide +kernel, by decide +kernel, by decide +kernel⟩
theorem m_J0_charAt_5068e : xMem yJ0_charAt_5068e RJ0 cJ0_charAt_5068e 2 (some .char) 1 := ⟨kw514, kw515, kw126, kw516, by decide +kernel, by decide +kernel, by decide +kernel, by decide +kernel⟩
theorem m_J0_coder_7d493 : xMem yJ0_coder_7d493 RJ0 cJ0_coder_7d493 1 (some .byte) 0 := ⟨kw508, kw509, kw126, kw510, by decide +kernel, by decide +kernel, by decide +kernel, by decide +kernel⟩
theorem m_J0_isLatin1_aae02 : xMem yJ0_isLatin1_aae02 RJ0 cJ0_isLatin1_aae02 1 (some .boolean) 0 := ⟨kw518, kw519, kw126, kw520, by decide +kernel, by decide +kernel, by decide +kernel, by decide +kernel⟩
theorem m_J0_checkIndex_df160 : xMemS yJ0_checkIndex_df160 cJ0_checkIndex_df160 2 none 2 := ⟨kw525, kw126, kw526, by decide +kernel, by decide +kernel, by decide +kernel⟩
theorem m_J1_charAt_3b067 : xMemS yJ1_charAt_3b067 cJ1_charAt_3b067 2 (some .char) 2 := ⟨kw522, kw127, kw523, by decide +kernel, by decide +kernel, by decide +kernel⟩
theorem m_J3_checkIndex_8e157 : xMemS yJ3_checkIndex_8e157 cJ3_checkIndex_8e157 3 (some .int) 3 := ⟨kw530, kw128, kw531, by decide +kernel, by decide +kernel, by decide +kernel⟩
abbrev xA00 (s00 : State) : Nat → Prop := fun q => s00.heap.size ≤ q
/-- a constant text: its object, its row of bytes -/
def XStr (s00 : State) (aK aV : Nat) (byt : List Int32) : Prop := vk_S 1 [byt.length] [byt] (fun _ => aK) (fun _ => aV) (xA00 s00) s00 s00.heap
/-- what the launch gives of the JDK's statics -/
def xlits : List (String × Nat × String × List Int32) := [("RooftopCats$Script", 90, "roof", [114, 111, 111, 102]), ("RooftopCats", 81, "no such shorter length", [110, 111, 32, 115, 117, 99, 104, 32, 115, 104, 111, 114, 116, 101, 114, 32, 108, 101, 110, 103, 116, 104]), ("RooftopCats", 309, "out of range", [111, 117, 116, 32, 111, 102, 32, 114, 97, 110, 103, 101]), ("RooftopCats", 313, "refused as things stand", [114, 101, 102, 117, 115, 101, 100, 32, 97, 115, 32, 116, 104, 105, 110, 103, 115, 32, 115, 116, 97, 110, 100]), ("RooftopCats", 294, "no such chimney", [110, 111, 32, 115, 117, 99, 104, 32, 99, 104, 105, 109, 110, 101, 121]), ("RooftopCats", 307, "both are the same", [98, 111, 116, 104, 32, 97, 114, 101, 32, 116, 104, 101, 32, 115, 97, 109, 101]), ("RooftopCats", 305, "no such cat", [110, 111, 32, 115, 117, 99, 104, 32, 99, 97, 116]), ("RooftopCats", 300, "no such gutter", [110, 111, 32, 115, 117, 99, 104, 32, 103, 117, 116, 116, 101, 114]), ("RooftopCats", 196, "no snapshot was saved", [110, 111, 32, 115, 110, 97, 112, 115, 104, 111, 116, 32, 119, 97, 115, 32, 115, 97, 118, 101, 100]), ("RooftopCatsModel", 45, "roof; chimney 6; chimney 3; chimney 9; chimney 0; chimney 4; gutter 0 1 5; gutter 1 2 3; gutter 2 3 7; gutter 0 3 2; gutter 3 4 9; ", [114, 111, 111, 102, 59, 32, 99, 104, 105, 109, 110, 101, 121, 32, 54, 59, 32, 99, 104, 105, 109, 110, 101, 121, 32, 51, 59, 32, 99, 104, 105, 109, 110, 101, 121, 32, 57, 59, 32, 99, 104, 105, 109, 110, 101, 121, 32, 48, 59, 32, 99, 104, 105, 109, 110, 101, 121, 32, 52, 59, 32, 103, 117, 116, 116, 101, 114, 32, 48, 32, 49, 32, 53, 59, 32, 103, 117, 116, 116, 101, 114, 32, 49, 32, 50, 32, 51, 59, 32, 103, 117, 116, 116, 101, 114, 32, 50, 32, 51, 32, 55, 59, 32, 103, 117, 116, 116, 101, 114, 32, 48, 32, 51, 32, 50, 59, 32, 103, 117, 116, 116, 101, 114, 32, 51, 32, 52, 32, 57, 59, 32]), ("RooftopCatsModel", 51, "cat 0 4 5; cat 2 3 6; cat 4 6 3; claim 0; claim 1; truce 2 1 2 6; nights 3;", [99, 97, 116, 32, 48, 32, 52, 32, 53, 59, 32, 99, 97, 116, 32, 50, 32, 51, 32, 54, 59, 32, 99, 97, 116, 32, 52, 32, 54, 32, 51, 59, 32, 99, 108, 97, 105, 109, 32, 48, 59, 32, 99, 108, 97, 105, 109, 32, 49, 59, 32, 116, 114, 117, 99, 101, 32, 50, 32, 49, 32, 50, 32, 54, 59, 32, 110, 105, 103, 104, 116, 115, 32, 51, 59]), ("RooftopCatsModel", 344, "roof", [114, 111, 111, 102]), ("RooftopCatsModel", 267, "chimney", [99, 104, 105, 109, 110, 101, 121]), ("RooftopCatsModel", 273, "gutter", [103, 117, 116, 116, 101, 114]), ("RooftopCatsModel", 274, "cat", [99, 97, 116]), ("RooftopCatsModel", 276, "step", [115, 116, 101, 112]), ("RooftopCatsModel", 278, "claim", [99, 108, 97, 105, 109]), ("RooftopCatsModel", 280, "abandon", [97, 98, 97, 110, 100, 111, 110]), ("RooftopCatsModel", 285, "chase", [99, 104, 97, 115, 101]), ("RooftopCatsModel", 287, "truce", [116, 114, 117, 99, 101]), ("RooftopCatsModel", 289, "kitten", [107, 105, 116, 116, 101, 110]), ("RooftopCatsModel", 291, "yes", [121, 101, 115]), ("RooftopCatsModel", 293, "no", [110, 111]), ("RooftopCatsModel", 295, "nights", [110, 105, 103, 104, 116, 115]), ("RooftopCatsModel", 297, "repeat", [114, 101, 112, 101, 97, 116]), ("RooftopCats$Command", 129, "repeat", [114, 101, 112, 101, 97, 116]), ("RooftopCats$Command", 131, "r", [114]), ("RooftopCats$Command", 118, "yes", [121, 101, 115]), ("RooftopCats$Command", 95, "c", [99]), ("RooftopCats$Command", 70, "chimney", [99, 104, 105, 109, 110, 101, 121]), ("RooftopCats$Command", 72, "w", [119]), ("RooftopCats$Command", 78, "gutter", [103, 117, 116, 116, 101, 114]), ("RooftopCats$Command", 80, "hHs", [104, 72, 115]), ("RooftopCats$Command", 83, "cat", [99, 97, 116]), ("RooftopCats$Command", 85, "hss", [104, 115, 115]), ("RooftopCats$Command", 88, "step", [115, 116, 101, 112]), ("RooftopCats$Command", 90, "cg", [99, 103]), ("RooftopCats$Command", 93, "claim", [99, 108, 97, 105, 109]), ("RooftopCats$Command", 98, "abandon", [97, 98, 97, 110, 100, 111, 110]), ("RooftopCats$Command", 100, "h", [104]), ("RooftopCats$Command", 103, "chase", [99, 104, 97, 115, 101]), ("RooftopCats$Command", 105, "cC", [99, 67]), ("RooftopCats$Command", 108, "truce", [116, 114, 117, 99, 101]), ("RooftopCats$Command", 110, "cCft", [99, 67, 102, 116]), ("RooftopCats$Command", 113, "kitten", [107, 105, 116, 116, 101, 110]), ("RooftopCats$Command", 115, "ss", [115, 115]), ("RooftopCats$Command", 121, "no", [110, 111]), ("RooftopCats$Command", 124, "nights", [110, 105, 103, 104, 116, 115]), ("RooftopCats$Command", 126, "n", [110])]
def XLit (s00 : State) (q : String × Nat × String × List Int32) : Prop := ∃ aK aV : Nat, vk_R q.1 q.2.1 q.2.2.1 aK s00 ∧ XStr s00 aK aV q.2.2.2
def XG (s00 : State) : Prop := va_Z "java/lang/String" "COMPACT_STRINGS" "Z" (.int 1) (xA00 s00) s00 s00.heap ∧ va_Zq "jdk/internal/util/Preconditions" "SIOOBE_FORMATTER" "Ljava/util/function/BiFunction;" (xA00 s00) s00 s00.heap ∧ (∀ q ∈ xlits, XLit s00 q) ∧ vx_Zq Bundle.tN "UNASSIGNED_STACK" Bundle.steD (xA00 s00) s00 s00.heap ∧ vx_Zq Bundle.tN "SUPPRESSED_SENTINEL" Bundle.listD (xA00 s00) s00 s00.heap
abbrev xEnT : Type := (Nat → Nat) × (Nat → Nat) × (Nat → Nat) × (Nat → Nat) × (Nat → Nat) × Nat × Nat
abbrev xCmd : String := "RooftopCats$Command"
abbrev xCmdD : String := "LRooftopCats$Command;"
/-- what the launch gives of the class's enum: the constants, their words and places, the row of them, the switch's row -/
def XEn (s00 : State) (t : xEnT) : Prop :=
  (∀ k, k < 13 → va_O xCmd (t.1 k) (xA00 s00) s00 s00.heap ∧ va_OF "java/lang/Enum" "ordinal" "I" (.int (nI k)) (t.1 k) (xA00 s00) s00 s00.heap ∧ va_OF xCmd "word" "Ljava/lang/String;" (.ref (t.2.1 k)) (t.1 k) (xA00 s00) s00 s00.heap ∧ va_OF xCmd "places" "Ljava/lang/String;" (.ref (t.2.2.1 k)) (t.1 k) (xA00 s00) s00 s00.heap ∧ XStr s00 (t.2.1 k) (t.2.2.2.1 k) (xWord.getD k []) ∧ XStr s00 (t.2.2.1 k) (t.2.2.2.2.1 k) (xPlace.getD k [])) ∧
  (∀ i j, i < 13 → j < 13 → t.1 i = t.1 j → i = j) ∧
  va_Z "RooftopCats$Script" "COMMANDS" "[LRooftopCats$Command;" (.ref t.2.2.2.2.2.1) (xA00 s00) s00 s00.heap ∧ va_T (.object xCmd) t.2.2.2.2.2.1 13 (fun j => .ref (t.1 j)) (xA00 s00) s00 s00.heap ∧
  va_Z "RooftopCats$1" "$SwitchMap$RooftopCats$Command" "[I" (.ref t.2.2.2.2.2.2) (xA00 s00) s00 s00.heap ∧ va_T .int t.2.2.2.2.2.2 13 (fun j => .int (xSw.getD j 0)) (xA00 s00) s00 s00.heap ∧
  va_Z xCmd "REPEAT" xCmdD (.ref (t.1 12)) (xA00 s00) s00 s00.heap ∧ va_Z xCmd "YES" xCmdD (.ref (t.1 9)) (xA00 s00) s00 s00.heap
/-- a reference of the enum is answered -/
def xqo (D : va_G) (cy : Nat → ClassId) (adE : Nat → Nat) (sh : List XC) (ad : Nat → Nat) (r : Option Nat) (S' : XS) (A : Nat → Prop) : Array Value → State → Outcome → State → Prop := va_Qe adE (fun (r' : Option Nat) (_ : Unit) => r' = r) (xPost D cy sh ad S' A) A
def XO (l : Launch) (y : MethodName) (cc : ByteArray) (nL : Nat) (ret : Option FieldType) (d : Nat) (D : va_G) (cy : Nat → ClassId) (s00 : State) (adE : Nat → Nat) (sh : List XC) (ad : Nat → Nat) (S : XS) (av : List Value) (r : Option Nat) (S' : XS) : Prop :=
  ∀ sz : Nat, Met l y (xws y cc nL ret) (xrm d) (va_Pc av (xPre D cy s00 sh ad S sz)) (xqo D cy adE sh ad r S' (va_A (xw cy ad S 0 sh) sz)) 0 0 (va_A (xw cy ad S 0 sh) sz)
theorem XO.of {l : Launch} {y : MethodName} {cc : ByteArray} {nL d : Nat} {ret : Option FieldType} {D : va_G} {cy : Nat → ClassId} {s00 : State} {adE : Nat → Nat} {sh : List XC} {ad : Nat → Nat} {S S' : XS} {av : List Value} {r : Option Nat} (hy : plainName y.cls = true) (lv : List (Nat × Value)) (hlv : lv_args 0 av = lv) (hn : (lg_sl av).length ≤ nL)
    (body : ∀ (p : Program) (e : Env) (s : State) (m : MethodId) (args : Array Value) (below : List Frame) (meth : Method) (c : Code) (A : Nat → Prop) (ls : Array Slot), XE p s m args meth c cc nL y.cls ret D cy s00 → XH D cy s00 sh ad S A s s.heap [] → lv_has ls nL lv → W p l e (xrm d) s m args below meth c s.heap [] 0 0 (MQ below (xqo D cy adE sh ad r S' A) args s 0 0 A) (F0 m 0 ls [])) :
    XO l y cc nL ret d D cy s00 adE sh ad S av r S' := by
  intro sz
  refine Met.ofW (cc := cc) (maxL := nL) (ret := ret) hy rfl ?_
  intro p e s m args below meth c s₁ B hml hv
  obtain ⟨rfl, hsz, hP, hK, hD0, hal, h00, hA0⟩ := hv
  have hts := atoms_spec (ws := xws y cc nL ret) B.pre
  subst hsz
  have hl := lv_entry av (n := nL) hn
  rw [lg_entry_eq]
  rw [hlv] at hl
  exact body p e s m av.toArray below meth c _ _ ⟨B.exec, B.bytes, hml, findClass_of_methodNamed B.named, fun w hw => hts w (List.mem_cons_of_mem _ hw), B.notSynchronized, B.returns, hK, hal⟩
    ⟨hP, hD0.self, va_S.rf, fun q hq => Or.inr hq, h00, hA0⟩ hl
theorem x_opt {α : Type} {q : Option Nat} {a : α} {b : Nat → α} {z : α} (hf : xopt q a b = z) {G : Prop} (k1 : q = none → a = z → G) (k2 : ∀ k, q = some k → b k = z → G) : G := by
  cases q with
  | none => exact k1 rfl hf
  | some k => exact k2 k rfl hf
section XStat
variable {p : Program} {l : Launch} {e : Env} {R : Room} {s : State} {m : MethodId} {args : Array Value} {below : List Frame} {meth : Method} {c : Code} {H : Heap} {locs : List Loc} {cells slots : Nat} {Q : State → Prop} {pc : Nat} {ls : Array Slot} {rest st0 : List Value} {cc : ByteArray}
variable {nL : Nat} {own : String} {ret : Option FieldType} {D : va_G} {cy : Nat → ClassId} {s00 : State} {sh sh' : List XC} {ad : Nat → Nat} {S S' : XS} {A : Nat → Prop}
variable {y : MethodName} {cc' : ByteArray} {nL' d' n index ci N : Nat} {ret' : Option FieldType} {C : String} {T : u_T} {fs : List XF} {As : List Value} {lv : List (Nat × Value)}
theorem XH.s0 (h : XH D cy s00 sh ad S A s H locs) : ∀ a : Nat, a < s00.heap.size → ¬ xA00 s00 a → s.heap[a]? = s00.heap[a]? := by
  obtain ⟨hP, hD, hS, hA, h00, hA0⟩ := h
  intro q hq _
  have h1 : ¬ A q := fun h => absurd (hA0 q h) (by omega)
  have h2 : q < s.heap.size := by
    rcases Nat.lt_or_ge q s.heap.size with h | h
    · exact h
    · exact absurd (hA q h) h1
  rw [← h00 q hq, hS.2.1 q h2 h1]
theorem XStr.here {aK aV : Nat} {byt : List Int32} (g : XStr s00 aK aV byt) (E : XE p s m args meth c cc nL own ret D cy s00) (h : XH D cy s00 sh ad S A s H locs) : vk_S 1 [byt.length] [byt] (fun _ => aK) (fun _ => aV) A s s.heap :=
  ((vk_S.moved E.2.2.2.2.2.2.2.2.1 g).kept h.s0).narrow h.2.2.2.2.2
theorem xZ_here {C n d : String} {v : Value} (g : va_Z C n d v (xA00 s00) s00 s00.heap) (E : XE p s m args meth c cc nL own ret D cy s00) (h : XH D cy s00 sh ad S A s H locs) : va_Z C n d v A s s.heap :=
  ((va_Z.moved E.2.2.2.2.2.2.2.2.1 g).kept h.s0).narrow h.2.2.2.2.2
theorem xZq_here {C n d : String} (g : va_Zq C n d (xA00 s00) s00 s00.heap) (E : XE p s m args meth c cc nL own ret D cy s00) (h : XH D cy s00 sh ad S A s H locs) : va_Zq C n d A s s.heap :=
  ((va_Zq.moved E.2.2.2.2.2.2.2.2.1 g).kept h.s0).narrow h.2.2.2.2.2
theorem xT_here {ty : FieldType} {t N : Nat} {f : Nat → Value} (g : va_T ty t N f (xA00 s00) s00 s00.heap) (E : XE p s m args meth c cc nL own ret D cy s00) (h : XH D cy s00 sh ad S A s H locs) : va_T ty t N f A s s.heap :=
  ((va_T.moved E.2.2.2.2.2.2.2.2.1 g).kept h.s0).narrow h.2.2.2.2.2
theorem x_tret {ty : FieldType} {v r : Int32} (E : XE p s m args meth c cc nL own (some ty) D cy s00) (h : XH D cy s00 sh ad S A s H locs) (hz : narrow ty (.int v) = .int v) (hf : some v = some r) (hdg : decode cc pc = .ok (.ireturn, 1)) : W p l e R s m args below meth c H locs 0 0 (MQ below (xqi D cy sh ad r S A) args s 0 0 A) (F0 m pc ls [.int v]) := by
  cases hf
  obtain ⟨hx, hb, hml, hown, hts, hlk, hrt, hK, hal⟩ := E
  exact W.zret (v := v) hx hb hrt hz (fun t ht hW => ⟨⟨v, (), rfl, rfl, by rw [ht]; exact h.1, h.2.1⟩, h.2.2.1.F ht⟩) h.2.2.1.2.2 hdg hlk
/-- a virtual call of an object outside the bundle, of numbers alone -/
theorem x_callxp {α : Type} {z : α} {K : Int32 → Option α} {fc : Option Int32} {q : Nat} (E : XE p s m args meth c cc nL own ret D cy s00) (h : XH D cy s00 sh ad S A s H locs) (hl : lv_has ls nL lv) (hf : fc.bind K = some z) (hM : ∀ (r : Int32), fc = some r → XI l y cc' nL' ret' d' D cy s00 [] (fun i => ad (0 + i)) (xs 0 S) (.ref q :: As) r (xs 0 S)) (mm : xMem y C cc' nL' ret' n) (hrec : ∃ cell : Cell, H[q]? = some cell ∧ cell.vm.isStatics = false ∧ s.vm.findClass C = some cell.cls) (hlk : Cond.methodLink own index y ∈ lwX) (hst : st0 = As.reverse ++ .ref q :: rest) (hn : As.length = n) (hcat : (rest.map fun v => v.category).sum ≤ 8) (hR : (xrm d').frames + 1 ≤ R.frames ∧ 8 + (nL' + 11) + (xrm d').locals ≤ R.locals) (hcs : cells ≤ R.cells ∧ slots ≤ R.slots) (hdg : decode cc pc = .ok (.invokevirtual index, 3))
    (kk : ∀ (r : Int32) (H1 : Heap) (locs1 : List Loc), K r = some z → XH D cy s00 sh ad S A s H1 locs1 → W p l e R s m args below meth c H1 locs1 cells slots Q (F0 m (pc + 3) ls (.int r :: rest))) : W p l e R s m args below meth c H locs cells slots Q (F0 m pc ls st0) := by
  obtain ⟨hx, hb, hml, hown, hts, hlocks, hrt, hK, hal⟩ := E
  have hsub : xsub 0 [] sh := fun i x hx => by simp at hx
  obtain ⟨hF, hP0, hPre⟩ := h.sub hsub hK hal
  have hfc : ∃ (r : Int32), fc = some r ∧ K r = some z := by
    cases fc with
    | none => cases hf
    | some q => exact ⟨q, rfl, hf⟩
  obtain ⟨r, hfc, hK2⟩ := hfc
  refine va_calli (va_runV (As := As) (rest := rest) ⟨hx, hb, hml, hown, hts⟩ (hM r hfc H.size) (cwV n hts (mm.good hlk) rfl rfl rfl mm.2.2.2.2 hR) ⟨xPre_blind, hrec, fun U hU hW => ⟨rfl, hPre U hU hW⟩⟩ rfl hn hl.1 hst (lv_room hcat) hdg hcs) h.2.2.1 (fun q _ h => hF q h) hF (fun r1 u t H1 locs1 ht hvm hw hB hz1 hk1 hS1 => ?_)
  obtain ⟨hP1, hD1⟩ := hB
  rw [ht] at hP1
  have hw : r1 = r := hw
  subst hw
  have h9 := h.join hsub hk1 hS1 hP1
  rw [xm_self] at h9
  exact kk _ H1 locs1 hK2 h9
/-- a static method of nothing that leaves the bundle alone -/
theorem x_calls0v (E : XE p s m args meth c cc nL own ret D cy s00) (h : XH D cy s00 sh ad S A s H locs) (hl : lv_has ls nL lv) (hM : XV l y cc' nL' ret' d' D cy s00 [] (fun i => ad (0 + i)) (xs 0 S) As (xs 0 S)) (mm : xMemS y cc' nL' ret' n) (hlk : Cond.methodLink own index y ∈ lwX) (hst : st0 = As.reverse ++ rest) (hn : As.length = n) (hcat : (rest.map fun v => v.category).sum ≤ 8) (hR : (xrm d').frames + 1 ≤ R.frames ∧ 8 + (nL' + 11) + (xrm d').locals ≤ R.locals) (hcs : cells ≤ R.cells ∧ slots ≤ R.slots) (hdg : decode cc pc = .ok (.invokestatic index, 3))
    (kk : ∀ (H1 : Heap) (locs1 : List Loc), XH D cy s00 sh ad S A s H1 locs1 → W p l e R s m args below meth c H1 locs1 cells slots Q (F0 m (pc + 3) ls rest)) : W p l e R s m args below meth c H locs cells slots Q (F0 m pc ls st0) := by
  obtain ⟨hx, hb, hml, hown, hts, hlocks, hrt, hK, hal⟩ := E
  have hsub : xsub 0 [] sh := fun i x hx => by simp at hx
  obtain ⟨hF, hP0, hPre⟩ := h.sub hsub hK hal
  refine va_callv (va_runS (As := As) (rest := rest) ⟨hx, hb, hml, hown, hts⟩ (hM H.size) (va_cwS n hts (mm.good hlk) rfl rfl rfl mm.2.2.2 hR) ⟨xPre_blind, fun U hU hW => ⟨rfl, hPre U hU hW⟩⟩ rfl hn hl.1 hst (lv_room hcat) hdg hcs) h.2.2.1 (fun q _ h => hF q h) hF (fun u t H1 locs1 ht hvm hw hB hz1 hk1 hS1 => ?_)
  obtain ⟨hP1, hD1⟩ := hB
  rw [ht] at hP1
  have h9 := h.join hsub hk1 hS1 hP1
  rw [xm_self] at h9
  exact kk H1 locs1 h9
end XStat
set_option maxHeartbeats 4000000 in
set_option maxRecDepth 100000 in
theorem c_isLatin1 (l : Launch) (D : va_G) (cy : Nat → ClassId) (s00 : State) (hG : XG s00) (ad : Nat → Nat) (S : XS) {aK aV : Nat} {byt : List Int32} (g : XStr s00 aK aV byt) : XI l yJ0_isLatin1_aae02 cJ0_isLatin1_aae02 1 (some .boolean) 0 D cy s00 [] ad S [.ref aK] 1 S := by
  refine XI.of (by decide) [(0, .ref aK)] rfl (Nat.le_of_ble_eq_true rfl) (fun p e s m args below meth c A ls E h hl => ?_)
  have hE := g.here E h
  refine va_gets E.1 E.2.1 (xZ_here hG.1 E h) h.2.2.1 E.2.2.2.1 (E.2.2.2.2.1 _ kw511) (fun _ h9 => h9) dJ0_isLatin1_aae02_0 ?_
  refine lv_if_eq (tgt := 17) E.1 E.2.1 dJ0_isLatin1_aae02_3 (by decide) (fun c9 => absurd c9 (by decide)) (fun _ => ?_)
  refine lv_aload_n E.1 E.2.1 dJ0_isLatin1_aae02_6 rfl (lv_at hl 0 rfl) ?_
  refine vk_getf E.1 E.2.1 (hE.1 0 (by decide)).2.1 h.2.2.1 E.2.2.2.1 (E.2.2.2.2.1 _ kw2026) (fun _ h9 => h9) dJ0_isLatin1_aae02_7 ?_
  refine lv_if_ne (tgt := 17) E.1 E.2.1 dJ0_isLatin1_aae02_10 (by decide) (fun c9 => absurd rfl c9) (fun _ => ?_)
  refine lv_iconst (v := 1) E.1 E.2.1 dJ0_isLatin1_aae02_13 (by decide) ?_
  refine lv_goto (tgt := 18) E.1 E.2.1 dJ0_isLatin1_aae02_14 (by decide) ?_
  exact x_tret E h (by decide) rfl dJ0_isLatin1_aae02_18
set_option maxHeartbeats 4000000 in
set_option maxRecDepth 100000 in
theorem c_coder (l : Launch) (D : va_G) (cy : Nat → ClassId) (s00 : State) (hG : XG s00) (ad : Nat → Nat) (S : XS) {aK aV : Nat} {byt : List Int32} (g : XStr s00 aK aV byt) : XI l yJ0_coder_7d493 cJ0_coder_7d493 1 (some .byte) 0 D cy s00 [] ad S [.ref aK] 0 S := by
  refine XI.of (by decide) [(0, .ref aK)] rfl (Nat.le_of_ble_eq_true rfl) (fun p e s m args below meth c A ls E h hl => ?_)
  have hE := g.here E h
  refine va_gets E.1 E.2.1 (xZ_here hG.1 E h) h.2.2.1 E.2.2.2.1 (E.2.2.2.2.1 _ kw511) (fun _ h9 => h9) dJ0_coder_7d493_0 ?_
  refine lv_if_eq (tgt := 13) E.1 E.2.1 dJ0_coder_7d493_3 (by decide) (fun c9 => absurd c9 (by decide)) (fun _ => ?_)
  refine lv_aload_n E.1 E.2.1 dJ0_coder_7d493_6 rfl (lv_at hl 0 rfl) ?_
  refine vk_getf E.1 E.2.1 (hE.1 0 (by decide)).2.1 h.2.2.1 E.2.2.2.1 (E.2.2.2.2.1 _ kw2026) (fun _ h9 => h9) dJ0_coder_7d493_7 ?_
  refine lv_goto (tgt := 14) E.1 E.2.1 dJ0_coder_7d493_10 (by decide) ?_
  exact x_tret E h (by decide) rfl dJ0_coder_7d493_14
set_option maxHeartbeats 4000000 in
set_option maxRecDepth 100000 in
theorem c_length (l : Launch) (D : va_G) (cy : Nat → ClassId) (s00 : State) (hG : XG s00) (ad : Nat → Nat) (S : XS) {aK aV : Nat} {byt : List Int32} (g : XStr s00 aK aV byt) : XI l yJ0_length_8abf5 cJ0_length_8abf5 1 (some .int) 1 D cy s00 [] ad S [.ref aK] (Int32.ofNat byt.length) S := by
  refine XI.of (by decide) [(0, .ref aK)] rfl (Nat.le_of_ble_eq_true rfl) (fun p e s m args below meth c A ls E h hl => ?_)
  have hE := g.here E h
  refine lv_aload_n E.1 E.2.1 dJ0_length_8abf5_0 rfl (lv_at hl 0 rfl) ?_
  refine vk_getf E.1 E.2.1 (hE.1 0 (by decide)).2.2.1 h.2.2.1 E.2.2.2.1 (E.2.2.2.2.1 _ kw2025) (fun _ h9 => h9) dJ0_length_8abf5_1 ?_
  refine va_tlen E.1 E.2.1 (hE.1 0 (by decide)).2.2.2 h.2.2.1 (v := Int32.ofNat byt.length) rfl dJ0_length_8abf5_4 ?_
  refine lv_aload_n E.1 E.2.1 dJ0_length_8abf5_5 rfl (lv_at hl 0 rfl) ?_
  refine x_callxp (z := (0 : Int32)) (K := fun r => some r) (fc := some 0) E h hl rfl (fun r0 hr => by cases hr; exact c_coder l D cy s00 hG _ _ g) m_J0_coder_7d493 (vk_recv hE (i := 0) (by decide) h.2.2.1) kw507 rfl rfl (Nat.le_of_ble_eq_true rfl) ⟨by decide, by decide⟩ ⟨Nat.zero_le _, Nat.zero_le _⟩ dJ0_length_8abf5_6 (fun v H locs hf h => ?_)
  have hf : v = 0 := Option.some.inj hf
  subst hf
  refine lv_ishr E.1 E.2.1 dJ0_length_8abf5_9 ?_
  exact x_irp E h (by rw [sb_shr0]) dJ0_length_8abf5_10
set_option maxHeartbeats 4000000 in
set_option maxRecDepth 100000 in
theorem c_preCheckN (l : Launch) (D : va_G) (cy : Nat → ClassId) (s00 : State) (ad : Nat → Nat) (S : XS) (i n : Int32) (h0 : ¬ i < 0) (h1 : i < n) : XI l yJ3_checkIndex_8e157 cJ3_checkIndex_8e157 3 (some .int) 0 D cy s00 [] ad S [.int i, .int n, .null] i S := by
  refine XI.of (by decide) [(0, .int i), (1, .int n), (2, .null)] rfl (Nat.le_of_ble_eq_true rfl) (fun p e s m args below meth c A ls E h hl => ?_)
  refine lv_iload_n E.1 E.2.1 dJ3_checkIndex_8e157_0 rfl (lv_at hl 0 rfl) ?_
  refine lv_if_lt (tgt := 9) E.1 E.2.1 dJ3_checkIndex_8e157_1 (by decide) (fun c9 => absurd c9 h0) (fun _ => ?_)
  refine lv_iload_n E.1 E.2.1 dJ3_checkIndex_8e157_4 rfl (lv_at hl 0 rfl) ?_
  refine lv_iload_n E.1 E.2.1 dJ3_checkIndex_8e157_5 rfl (lv_at hl 1 rfl) ?_
  refine lv_icmp_lt (tgt := 16) E.1 E.2.1 dJ3_checkIndex_8e157_6 (by decide) (fun _ => ?_) (fun c9 => absurd h1 c9)
  refine lv_iload_n E.1 E.2.1 dJ3_checkIndex_8e157_16 rfl (lv_at hl 0 rfl) ?_
  exact x_irp E h rfl dJ3_checkIndex_8e157_17
set_option maxHeartbeats 4000000 in
set_option maxRecDepth 100000 in
theorem c_preCheckR (l : Launch) (D : va_G) (cy : Nat → ClassId) (s00 : State) (ad : Nat → Nat) (S : XS) (t : Nat) (i n : Int32) (h0 : ¬ i < 0) (h1 : i < n) : XI l yJ3_checkIndex_8e157 cJ3_checkIndex_8e157 3 (some .int) 0 D cy s00 [] ad S [.int i, .int n, .ref t] i S := by
  refine XI.of (by decide) [(0, .int i), (1, .int n), (2, .ref t)] rfl (Nat.le_of_ble_eq_true rfl) (fun p e s m args below meth c A ls E h hl => ?_)
  refine lv_iload_n E.1 E.2.1 dJ3_checkIndex_8e157_0 rfl (lv_at hl 0 rfl) ?_
  refine lv_if_lt (tgt := 9) E.1 E.2.1 dJ3_checkIndex_8e157_1 (by decide) (fun c9 => absurd c9 h0) (fun _ => ?_)
  refine lv_iload_n E.1 E.2.1 dJ3_checkIndex_8e157_4 rfl (lv_at hl 0 rfl) ?_
  refine lv_iload_n E.1 E.2.1 dJ3_checkIndex_8e157_5 rfl (lv_at hl 1 rfl) ?_
  refine lv_icmp_lt (tgt := 16) E.1 E.2.1 dJ3_checkIndex_8e157_6 (by decide) (fun _ => ?_) (fun c9 => absurd h1 c9)
  refine lv_iload_n E.1 E.2.1 dJ3_checkIndex_8e157_16 rfl (lv_at hl 0 rfl) ?_
  exact x_irp E h rfl dJ3_checkIndex_8e157_17
set_option maxHeartbeats 4000000 in
set_option maxRecDepth 100000 in
theorem c_checkIndex (l : Launch) (D : va_G) (cy : Nat → ClassId) (s00 : State) (hG : XG s00) (ad : Nat → Nat) (S : XS) (i n : Int32) (h0 : ¬ i < 0) (h1 : i < n) : XV l yJ0_checkIndex_df160 cJ0_checkIndex_df160 2 none 1 D cy s00 [] ad S [.int i, .int n] S := by
  refine XV.of (by decide) [(0, .int i), (1, .int n)] rfl (Nat.le_of_ble_eq_true rfl) (fun p e s m args below meth c A ls E h hl => ?_)
  refine lv_iload_n E.1 E.2.1 dJ0_checkIndex_df160_0 rfl (lv_at hl 0 rfl) ?_
  refine lv_iload_n E.1 E.2.1 dJ0_checkIndex_df160_1 rfl (lv_at hl 1 rfl) ?_
  rcases xZq_here hG.2.1 E h with hZ | ⟨t, hZ⟩
  · refine va_gets E.1 E.2.1 hZ h.2.2.1 E.2.2.2.1 (E.2.2.2.2.1 _ kw527) (fun _ h9 => h9) dJ0_checkIndex_df160_2 ?_
    refine x_callsp (z := i) (K := fun r => some r) (fc := some i) E h hl rfl (fun r0 hr => by cases hr; exact c_preCheckN l D cy s00 _ _ i n h0 h1) m_J3_checkIndex_8e157 kw529 rfl rfl (Nat.le_of_ble_eq_true rfl) ⟨by decide, by decide⟩ ⟨Nat.zero_le _, Nat.zero_le _⟩ dJ0_checkIndex_df160_5 (fun v H locs hf h => ?_)
    refine lv_pop E.1 E.2.1 dJ0_checkIndex_df160_8 rfl ?_
    exact x_vret E h rfl dJ0_checkIndex_df160_9
  · refine va_gets E.1 E.2.1 hZ h.2.2.1 E.2.2.2.1 (E.2.2.2.2.1 _ kw527) (fun _ h9 => h9) dJ0_checkIndex_df160_2 ?_
    refine x_callsp (z := i) (K := fun r => some r) (fc := some i) E h hl rfl (fun r0 hr => by cases hr; exact c_preCheckR l D cy s00 _ _ t i n h0 h1) m_J3_checkIndex_8e157 kw529 rfl rfl (Nat.le_of_ble_eq_true rfl) ⟨by decide, by decide⟩ ⟨Nat.zero_le _, Nat.zero_le _⟩ dJ0_checkIndex_df160_5 (fun v H locs hf h => ?_)
    refine lv_pop E.1 E.2.1 dJ0_checkIndex_df160_8 rfl ?_
    exact x_vret E h rfl dJ0_checkIndex_df160_9
theorem xin_nlt {i : Int32} {N : Nat} (h : vp_in i N) (hN : N < 2 ^ 31) : ¬ i < 0 ∧ i < Int32.ofNat N := by
  obtain ⟨j, hj, rfl⟩ := vp_in_of h hN
  exact ⟨nI_pos (by omega), nI_lt hj hN⟩
set_option maxHeartbeats 4000000 in
set_option maxRecDepth 100000 in
theorem c_L1charAt (l : Launch) (D : va_G) (cy : Nat → ClassId) (s00 : State) (hG : XG s00) (ad : Nat → Nat) (S : XS) {aK aV : Nat} {byt : List Int32} (g : XStr s00 aK aV byt) (hlen : byt.length < 2 ^ 31) (i : Int32) (hi : vp_in i byt.length) : XI l yJ1_charAt_3b067 cJ1_charAt_3b067 2 (some .char) 2 D cy s00 [] ad S [.ref aV, .int i] (xch byt i) S := by
  refine XI.of (by decide) [(0, .ref aV), (1, .int i)] rfl (Nat.le_of_ble_eq_true rfl) (fun p e s m args below meth c A ls E h hl => ?_)
  have hE := g.here E h
  refine lv_iload_n E.1 E.2.1 dJ1_charAt_3b067_0 rfl (lv_at hl 1 rfl) ?_
  refine lv_aload_n E.1 E.2.1 dJ1_charAt_3b067_1 rfl (lv_at hl 0 rfl) ?_
  refine va_tlen E.1 E.2.1 (hE.1 0 (by decide)).2.2.2 h.2.2.1 (v := Int32.ofNat byt.length) rfl dJ1_charAt_3b067_2 ?_
  refine x_calls0v E h hl (c_checkIndex l D cy s00 hG _ _ i (Int32.ofNat byt.length) (xin_nlt hi hlen).1 (xin_nlt hi hlen).2) m_J0_checkIndex_df160 kw524 rfl rfl (Nat.le_of_ble_eq_true rfl) ⟨by decide, by decide⟩ ⟨Nat.zero_le _, Nat.zero_le _⟩ dJ1_charAt_3b067_3 (fun H locs h => ?_)
  refine lv_aload_n E.1 E.2.1 dJ1_charAt_3b067_6 rfl (lv_at hl 0 rfl) ?_
  refine lv_iload_n E.1 E.2.1 dJ1_charAt_3b067_7 rfl (lv_at hl 1 rfl) ?_
  refine va_tb E.1 E.2.1 (hE.1 0 (by decide)).2.2.2 h.2.2.1 hi (v := .int (byt.getD i.toNatClampNeg 0)) rfl dJ1_charAt_3b067_8 ?_
  refine lv_sipush (v := 255) E.1 E.2.1 dJ1_charAt_3b067_9 (by decide) ?_
  refine lv_iand E.1 E.2.1 dJ1_charAt_3b067_12 ?_
  refine lv_i2c E.1 E.2.1 dJ1_charAt_3b067_13 (v := xch byt i) rfl ?_
  exact x_tret E h (pk_nc _) rfl dJ1_charAt_3b067_14
set_option maxHeartbeats 4000000 in
set_option maxRecDepth 100000 in
theorem c_charAt (l : Launch) (D : va_G) (cy : Nat → ClassId) (s00 : State) (hG : XG s00) (ad : Nat → Nat) (S : XS) {aK aV : Nat} {byt : List Int32} (g : XStr s00 aK aV byt) (hlen : byt.length < 2 ^ 31) (i : Int32) (hi : vp_in i byt.length) : XI l yJ0_charAt_5068e cJ0_charAt_5068e 2 (some .char) 3 D cy s00 [] ad S [.ref aK, .int i] (xch byt i) S := by
  refine XI.of (by decide) [(0, .ref aK), (1, .int i)] rfl (Nat.le_of_ble_eq_true rfl) (fun p e s m args below meth c A ls E h hl => ?_)
  have hE := g.here E h
  refine lv_aload_n E.1 E.2.1 dJ0_charAt_5068e_0 rfl (lv_at hl 0 rfl) ?_
  refine x_callxp (z := (1 : Int32)) (K := fun r => some r) (fc := some 1) E h hl rfl (fun r0 hr => by cases hr; exact c_isLatin1 l D cy s00 hG _ _ g) m_J0_isLatin1_aae02 (vk_recv hE (i := 0) (by decide) h.2.2.1) kw517 rfl rfl (Nat.le_of_ble_eq_true rfl) ⟨by decide, by decide⟩ ⟨Nat.zero_le _, Nat.zero_le _⟩ dJ0_charAt_5068e_1 (fun v H locs hf h => ?_)
  have hf : v = 1 := Option.some.inj hf
  subst hf
  refine lv_if_eq (tgt := 16) E.1 E.2.1 dJ0_charAt_5068e_4 (by decide) (fun c9 => absurd c9 (by decide)) (fun _ => ?_)
  refine lv_aload_n E.1 E.2.1 dJ0_charAt_5068e_7 rfl (lv_at hl 0 rfl) ?_
  refine vk_getf E.1 E.2.1 (hE.1 0 (by decide)).2.2.1 h.2.2.1 E.2.2.2.1 (E.2.2.2.2.1 _ kw2025) (fun _ h9 => h9) dJ0_charAt_5068e_8 ?_
  refine lv_iload_n E.1 E.2.1 dJ0_charAt_5068e_11 rfl (lv_at hl 1 rfl) ?_
  refine x_callsp (z := xch byt i) (K := fun r => some r) (fc := some (xch byt i)) E h hl rfl (fun r0 hr => by cases hr; exact c_L1charAt l D cy s00 hG _ _ g hlen i hi) m_J1_charAt_3b067 kw521 rfl rfl (Nat.le_of_ble_eq_true rfl) ⟨by decide, by decide⟩ ⟨Nat.zero_le _, Nat.zero_le _⟩ dJ0_charAt_5068e_12 (fun v H locs hf h => ?_)
  have hf : v = xch byt i := Option.some.inj hf.symm ▸ rfl
  subst hf
  exact x_tret E h (pk_nc _) rfl dJ0_charAt_5068e_15
