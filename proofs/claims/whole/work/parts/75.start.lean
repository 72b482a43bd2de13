def xnwL : List Cond := flatC (Jvm.Cond.and given_1 narrow_1)
theorem xnw_of {args : Array Value} {s : State} {ws : List Cond} (hs : ∀ w ∈ xnwL, w.before args s = true) (ps : List Nat) (hp : ws = ps.filterMap (fun i => xnwL[i]?)) : ∀ w ∈ ws, w.before args s = true := by
  intro w hw
  rw [hp] at hw
  obtain ⟨i, -, hi⟩ := List.mem_filterMap.mp hw
  exact hs w (List.mem_of_getElem? hi)
def xlitW (own : String) (k : Nat) (byt : List Int32) : List Cond := [.exactly (.string own k) "java/lang/String", .eq (.field (.string own k) "java/lang/String" "coder" "B") (.int 0), .arrayOf (.field (.string own k) "java/lang/String" "value" "[B") .byte, .eq (.length (.field (.string own k) "java/lang/String" "value" "[B")) (.int (Int32.ofNat byt.length))] ++ (List.range byt.length).map (fun j => .eq (.elem (.field (.string own k) "java/lang/String" "value" "[B") (.int (Int32.ofNat j))) (.int (byt.getD j 0)))
theorem xlit_of {args : Array Value} {s : State} {own tx : String} {k : Nat} {byt : List Int32} (hn : byt.length < 2 ^ 31) (hw : ∀ w ∈ xlitW own k byt, w.before args s = true) (hr : (Cond.stringRef own k tx).before args s = true) : ∃ aK aV : Nat, (vk_R own k tx aK s ∧ (Term.string own k).eval args s none [] s = some (.ref aK)) ∧ XStr s aK aV byt := by
  obtain ⟨adK, adV, h1, h2⟩ := vk_Sof (N := 1) (tm := fun _ => .string own k) (len := [byt.length]) (byt := [byt]) (A := xA00 s) (args := args) (s := s)
    (fun i hi => by rw [show i = 0 by omega]; exact hn) (fun i hi => hw _ (by simp [xlitW])) (fun i hi => hw _ (by simp [xlitW])) (fun i hi => hw _ (by simp [xlitW])) (fun i hi => by rw [show i = 0 by omega]; exact hw _ (by simp [xlitW]))
    (fun i hi j hj => by
      rw [show i = 0 by omega] at hj ⊢
      refine hw _ ?_
      unfold xlitW
      refine List.mem_append_right _ (List.mem_map.mpr ⟨j, List.mem_range.mpr hj, rfl⟩))
    (fun i j hi hj hij => absurd (show i = j by omega) hij) (fun a ha h => by have : s.heap.size ≤ a := h; omega)
  have h3 := h2 0 (by decide)
  refine ⟨adK 0, adV 0, ⟨vk_R.of hr h3, h3⟩, ⟨fun i hi => ?_, fun i j hi hj _ => by omega⟩⟩
  have := h1.1 0 (by decide)
  rw [show i = 0 by omega]
  exact this
theorem xlit_eq {args : Array Value} {s : State} {own own2 tx : String} {k k2 aK : Nat} (hw : (Cond.eq (.string own k) (.string own2 k2)).before args s = true) (hr : (Cond.stringRef own k tx).before args s = true) (he : (Term.string own2 k2).eval args s none [] s = some (.ref aK)) : vk_R own k tx aK s := vk_R.of hr (va_eqv hw he)
set_option maxRecDepth 100000 in
theorem xl_0 {args : Array Value} {s : State} (hs : ∀ w ∈ xnwL, w.before args s = true) (hts : ∀ w ∈ lw_tbl, w.before args s = true) : ∃ aK aV : Nat, (vk_R "RooftopCats$Script" 90 "roof" aK s ∧ (Term.string "RooftopCats$Script" 90).eval args s none [] s = some (.ref aK)) ∧ XStr s aK aV [114, 111, 111, 102] := xlit_of (by decide) (xnw_of hs [223, 224, 225, 226, 227, 228, 229, 230] (by decide +kernel)) (hts _ (List.mem_of_getElem? (i := 498) (by decide +kernel)))
set_option maxRecDepth 100000 in
theorem xl_1 {args : Array Value} {s : State} (hs : ∀ w ∈ xnwL, w.before args s = true) (hts : ∀ w ∈ lw_tbl, w.before args s = true) : ∃ aK aV : Nat, (vk_R "RooftopCats" 81 "no such shorter length" aK s ∧ (Term.string "RooftopCats" 81).eval args s none [] s = some (.ref aK)) ∧ XStr s aK aV [110, 111, 32, 115, 117, 99, 104, 32, 115, 104, 111, 114, 116, 101, 114, 32, 108, 101, 110, 103, 116, 104] := xlit_of (by decide) (xnw_of hs [231, 232, 233, 234, 235, 236, 237, 238, 239, 240, 241, 242, 243, 244, 245, 246, 247, 248, 249, 250, 251, 252, 253, 254, 255, 256] (by decide +kernel)) (hts _ (List.mem_of_getElem? (i := 919) (by decide +kernel)))
set_option maxRecDepth 100000 in
theorem xl_2 {args : Array Value} {s : State} (hs : ∀ w ∈ xnwL, w.before args s = true) (hts : ∀ w ∈ lw_tbl, w.before args s = true) : ∃ aK aV : Nat, (vk_R "RooftopCats" 309 "out of range" aK s ∧ (Term.string "RooftopCats" 309).eval args s none [] s = some (.ref aK)) ∧ XStr s aK aV [111, 117, 116, 32, 111, 102, 32, 114, 97, 110, 103, 101] := xlit_of (by decide) (xnw_of hs [257, 258, 259, 260, 261, 262, 263, 264, 265, 266, 267, 268, 269, 270, 271, 272] (by decide +kernel)) (hts _ (List.mem_of_getElem? (i := 957) (by decide +kernel)))
set_option maxRecDepth 100000 in
theorem xl_3 {args : Array Value} {s : State} (hs : ∀ w ∈ xnwL, w.before args s = true) (hts : ∀ w ∈ lw_tbl, w.before args s = true) : ∃ aK aV : Nat, (vk_R "RooftopCats" 313 "refused as things stand" aK s ∧ (Term.string "RooftopCats" 313).eval args s none [] s = some (.ref aK)) ∧ XStr s aK aV [114, 101, 102, 117, 115, 101, 100, 32, 97, 115, 32, 116, 104, 105, 110, 103, 115, 32, 115, 116, 97, 110, 100] := xlit_of (by decide) (xnw_of hs [273, 274, 275, 276, 277, 278, 279, 280, 281, 282, 283, 284, 285, 286, 287, 288, 289, 290, 291, 292, 293, 294, 295, 296, 297, 298, 299] (by decide +kernel)) (hts _ (List.mem_of_getElem? (i := 971) (by decide +kernel)))
set_option maxRecDepth 100000 in
theorem xl_4 {args : Array Value} {s : State} (hs : ∀ w ∈ xnwL, w.before args s = true) (hts : ∀ w ∈ lw_tbl, w.before args s = true) : ∃ aK aV : Nat, (vk_R "RooftopCats" 294 "no such chimney" aK s ∧ (Term.string "RooftopCats" 294).eval args s none [] s = some (.ref aK)) ∧ XStr s aK aV [110, 111, 32, 115, 117, 99, 104, 32, 99, 104, 105, 109, 110, 101, 121] := xlit_of (by decide) (xnw_of hs [300, 301, 302, 303, 304, 305, 306, 307, 308, 309, 310, 311, 312, 313, 314, 315, 316, 317, 318] (by decide +kernel)) (hts _ (List.mem_of_getElem? (i := 1000) (by decide +kernel)))
set_option maxRecDepth 100000 in
theorem xl_5 {args : Array Value} {s : State} (hs : ∀ w ∈ xnwL, w.before args s = true) (hts : ∀ w ∈ lw_tbl, w.before args s = true) : ∃ aK aV : Nat, (vk_R "RooftopCats" 307 "both are the same" aK s ∧ (Term.string "RooftopCats" 307).eval args s none [] s = some (.ref aK)) ∧ XStr s aK aV [98, 111, 116, 104, 32, 97, 114, 101, 32, 116, 104, 101, 32, 115, 97, 109, 101] := xlit_of (by decide) (xnw_of hs [319, 320, 321, 322, 323, 324, 325, 326, 327, 328, 329, 330, 331, 332, 333, 334, 335, 336, 337, 338, 339] (by decide +kernel)) (hts _ (List.mem_of_getElem? (i := 1011) (by decide +kernel)))
set_option maxRecDepth 100000 in
theorem xl_6 {args : Array Value} {s : State} (hs : ∀ w ∈ xnwL, w.before args s = true) (hts : ∀ w ∈ lw_tbl, w.before args s = true) : ∃ aK aV : Nat, (vk_R "RooftopCats" 305 "no such cat" aK s ∧ (Term.string "RooftopCats" 305).eval args s none [] s = some (.ref aK)) ∧ XStr s aK aV [110, 111, 32, 115, 117, 99, 104, 32, 99, 97, 116] := xlit_of (by decide) (xnw_of hs [340, 341, 342, 343, 344, 345, 346, 347, 348, 349, 350, 351, 352, 353, 354] (by decide +kernel)) (hts _ (List.mem_of_getElem? (i := 1032) (by decide +kernel)))
set_option maxRecDepth 100000 in
theorem xl_7 {args : Array Value} {s : State} (hs : ∀ w ∈ xnwL, w.before args s = true) (hts : ∀ w ∈ lw_tbl, w.before args s = true) : ∃ aK aV : Nat, (vk_R "RooftopCats" 300 "no such gutter" aK s ∧ (Term.string "RooftopCats" 300).eval args s none [] s = some (.ref aK)) ∧ XStr s aK aV [110, 111, 32, 115, 117, 99, 104, 32, 103, 117, 116, 116, 101, 114] := xlit_of (by decide) (xnw_of hs [355, 356, 357, 358, 359, 360, 361, 362, 363, 364, 365, 366, 367, 368, 369, 370, 371, 372] (by decide +kernel)) (hts _ (List.mem_of_getElem? (i := 1038) (by decide +kernel)))
set_option maxRecDepth 100000 in
theorem xl_8 {args : Array Value} {s : State} (hs : ∀ w ∈ xnwL, w.before args s = true) (hts : ∀ w ∈ lw_tbl, w.before args s = true) : ∃ aK aV : Nat, (vk_R "RooftopCats" 196 "no snapshot was saved" aK s ∧ (Term.string "RooftopCats" 196).eval args s none [] s = some (.ref aK)) ∧ XStr s aK aV [110, 111, 32, 115, 110, 97, 112, 115, 104, 111, 116, 32, 119, 97, 115, 32, 115, 97, 118, 101, 100] := xlit_of (by decide) (xnw_of hs [373, 374, 375, 376, 377, 378, 379, 380, 381, 382, 383, 384, 385, 386, 387, 388, 389, 390, 391, 392, 393, 394, 395, 396, 397] (by decide +kernel)) (hts _ (List.mem_of_getElem? (i := 1117) (by decide +kernel)))
set_option maxRecDepth 100000 in
theorem xl_9 {args : Array Value} {s : State} (hs : ∀ w ∈ xnwL, w.before args s = true) (hts : ∀ w ∈ lw_tbl, w.before args s = true) : ∃ aK aV : Nat, (vk_R "RooftopCatsModel" 45 "roof; chimney 6; chimney 3; chimney 9; chimney 0; chimney 4; gutter 0 1 5; gutter 1 2 3; gutter 2 3 7; gutter 0 3 2; gutter 3 4 9; " aK s ∧ (Term.string "RooftopCatsModel" 45).eval args s none [] s = some (.ref aK)) ∧ XStr s aK aV [114, 111, 111, 102, 59, 32, 99, 104, 105, 109, 110, 101, 121, 32, 54, 59, 32, 99, 104, 105, 109, 110, 101, 121, 32, 51, 59, 32, 99, 104, 105, 109, 110, 101, 121, 32, 57, 59, 32, 99, 104, 105, 109, 110, 101, 121, 32, 48, 59, 32, 99, 104, 105, 109, 110, 101, 121, 32, 52, 59, 32, 103, 117, 116, 116, 101, 114, 32, 48, 32, 49, 32, 53, 59, 32, 103, 117, 116, 116, 101, 114, 32, 49, 32, 50, 32, 51, 59, 32, 103, 117, 116, 116, 101, 114, 32, 50, 32, 51, 32, 55, 59, 32, 103, 117, 116, 116, 101, 114, 32, 48, 32, 51, 32, 50, 59, 32, 103, 117, 116, 116, 101, 114, 32, 51, 32, 52, 32, 57, 59, 32] := xlit_of (by decide) (xnw_of hs [398, 399, 400, 401, 402, 403, 404, 405, 406, 407, 408, 409, 410, 411, 412, 413, 414, 415, 416, 417, 418, 419, 420, 421, 422, 423, 424, 425, 426, 427, 428, 429, 430, 431, 432, 433, 434, 435, 436, 437, 438, 439, 440, 441, 442, 443, 444, 445, 446, 447, 448, 449, 450, 451, 452, 453, 454, 455, 456, 457, 458, 459, 460, 461, 462, 463, 464, 465, 466, 467, 468, 469, 470, 471, 472, 473, 474, 475, 476, 477, 478, 479, 480, 481, 482, 483, 484, 485, 486, 487, 488, 489, 490, 491, 492, 493, 494, 495, 496, 497, 498, 499, 500, 501, 502, 503, 504, 505, 506, 507, 508, 509, 510, 511, 512, 513, 514, 515, 516, 517, 518, 519, 520, 521, 522, 523, 524, 525, 526, 527, 528, 529, 530, 531, 532] (by decide +kernel)) (hts _ (List.mem_of_getElem? (i := 1309) (by decide +kernel)))
set_option maxRecDepth 100000 in
theorem xl_10 {args : Array Value} {s : State} (hs : ∀ w ∈ xnwL, w.before args s = true) (hts : ∀ w ∈ lw_tbl, w.before args s = true) : ∃ aK aV : Nat, (vk_R "RooftopCatsModel" 51 "cat 0 4 5; cat 2 3 6; cat 4 6 3; claim 0; claim 1; truce 2 1 2 6; nights 3;" aK s ∧ (Term.string "RooftopCatsModel" 51).eval args s none [] s = some (.ref aK)) ∧ XStr s aK aV [99, 97, 116, 32, 48, 32, 52, 32, 53, 59, 32, 99, 97, 116, 32, 50, 32, 51, 32, 54, 59, 32, 99, 97, 116, 32, 52, 32, 54, 32, 51, 59, 32, 99, 108, 97, 105, 109, 32, 48, 59, 32, 99, 108, 97, 105, 109, 32, 49, 59, 32, 116, 114, 117, 99, 101, 32, 50, 32, 49, 32, 50, 32, 54, 59, 32, 110, 105, 103, 104, 116, 115, 32, 51, 59] := xlit_of (by decide) (xnw_of hs [533, 534, 535, 536, 537, 538, 539, 540, 541, 542, 543, 544, 545, 546, 547, 548, 549, 550, 551, 552, 553, 554, 555, 556, 557, 558, 559, 560, 561, 562, 563, 564, 565, 566, 567, 568, 569, 570, 571, 572, 573, 574, 575, 576, 577, 578, 579, 580, 581, 582, 583, 584, 585, 586, 587, 588, 589, 590, 591, 592, 593, 594, 595, 596, 597, 598, 599, 600, 601, 602, 603, 604, 605, 606, 607, 608, 609, 610, 611] (by decide +kernel)) (hts _ (List.mem_of_getElem? (i := 1316) (by decide +kernel)))
set_option maxRecDepth 100000 in
theorem xl_11 {args : Array Value} {s : State} (hs : ∀ w ∈ xnwL, w.before args s = true) (hts : ∀ w ∈ lw_tbl, w.before args s = true) : ∃ aK aV : Nat, (vk_R "RooftopCatsModel" 344 "roof" aK s ∧ (Term.string "RooftopCatsModel" 344).eval args s none [] s = some (.ref aK)) ∧ XStr s aK aV [114, 111, 111, 102] := xlit_of (by decide) (xnw_of hs [612, 613, 614, 615, 616, 617, 618, 619] (by decide +kernel)) (hts _ (List.mem_of_getElem? (i := 1332) (by decide +kernel)))
set_option maxRecDepth 100000 in
theorem xl_12 {args : Array Value} {s : State} (hs : ∀ w ∈ xnwL, w.before args s = true) (hts : ∀ w ∈ lw_tbl, w.before args s = true) : ∃ aK aV : Nat, (vk_R "RooftopCatsModel" 267 "chimney" aK s ∧ (Term.string "RooftopCatsModel" 267).eval args s none [] s = some (.ref aK)) ∧ XStr s aK aV [99, 104, 105, 109, 110, 101, 121] := xlit_of (by decide) (xnw_of hs [621, 622, 623, 624, 625, 626, 627, 628, 629, 630, 631] (by decide +kernel)) (hts _ (List.mem_of_getElem? (i := 1353) (by decide +kernel)))
set_option maxRecDepth 100000 in
theorem xl_13 {args : Array Value} {s : State} (hs : ∀ w ∈ xnwL, w.before args s = true) (hts : ∀ w ∈ lw_tbl, w.before args s = true) : ∃ aK aV : Nat, (vk_R "RooftopCatsModel" 273 "gutter" aK s ∧ (Term.string "RooftopCatsModel" 273).eval args s none [] s = some (.ref aK)) ∧ XStr s aK aV [103, 117, 116, 116, 101, 114] := xlit_of (by decide) (xnw_of hs [632, 633, 634, 635, 636, 637, 638, 639, 640, 641] (by decide +kernel)) (hts _ (List.mem_of_getElem? (i := 1354) (by decide +kernel)))
set_option maxRecDepth 100000 in
theorem xl_14 {args : Array Value} {s : State} (hs : ∀ w ∈ xnwL, w.before args s = true) (hts : ∀ w ∈ lw_tbl, w.before args s = true) : ∃ aK aV : Nat, (vk_R "RooftopCatsModel" 274 "cat" aK s ∧ (Term.string "RooftopCatsModel" 274).eval args s none [] s = some (.ref aK)) ∧ XStr s aK aV [99, 97, 116] := xlit_of (by decide) (xnw_of hs [642, 643, 644, 645, 646, 647, 648] (by decide +kernel)) (hts _ (List.mem_of_getElem? (i := 1355) (by decide +kernel)))
set_option maxRecDepth 100000 in
theorem xl_15 {args : Array Value} {s : State} (hs : ∀ w ∈ xnwL, w.before args s = true) (hts : ∀ w ∈ lw_tbl, w.before args s = true) : ∃ aK aV : Nat, (vk_R "RooftopCatsModel" 276 "step" aK s ∧ (Term.string "RooftopCatsModel" 276).eval args s none [] s = some (.ref aK)) ∧ XStr s aK aV [115, 116, 101, 112] := xlit_of (by decide) (xnw_of hs [649, 650, 651, 652, 653, 654, 655, 656] (by decide +kernel)) (hts _ (List.mem_of_getElem? (i := 1356) (by decide +kernel)))
set_option maxRecDepth 100000 in
theorem xl_16 {args : Array Value} {s : State} (hs : ∀ w ∈ xnwL, w.before args s = true) (hts : ∀ w ∈ lw_tbl, w.before args s = true) : ∃ aK aV : Nat, (vk_R "RooftopCatsModel" 278 "claim" aK s ∧ (Term.string "RooftopCatsModel" 278).eval args s none [] s = some (.ref aK)) ∧ XStr s aK aV [99, 108, 97, 105, 109] := xlit_of (by decide) (xnw_of hs [657, 658, 659, 660, 661, 662, 663, 664, 665] (by decide +kernel)) (hts _ (List.mem_of_getElem? (i := 1357) (by decide +kernel)))
set_option maxRecDepth 100000 in
theorem xl_17 {args : Array Value} {s : State} (hs : ∀ w ∈ xnwL, w.before args s = true) (hts : ∀ w ∈ lw_tbl, w.before args s = true) : ∃ aK aV : Nat, (vk_R "RooftopCatsModel" 280 "abandon" aK s ∧ (Term.string "RooftopCatsModel" 280).eval args s none [] s = some (.ref aK)) ∧ XStr s aK aV [97, 98, 97, 110, 100, 111, 110] := xlit_of (by decide) (xnw_of hs [666, 667, 668, 669, 670, 671, 672, 673, 674, 675, 676] (by decide +kernel)) (hts _ (List.mem_of_getElem? (i := 1358) (by decide +kernel)))
set_option maxRecDepth 100000 in
theorem xl_18 {args : Array Value} {s : State} (hs : ∀ w ∈ xnwL, w.before args s = true) (hts : ∀ w ∈ lw_tbl, w.before args s = true) : ∃ aK aV : Nat, (vk_R "RooftopCatsModel" 285 "chase" aK s ∧ (Term.string "RooftopCatsModel" 285).eval args s none [] s = some (.ref aK)) ∧ XStr s aK aV [99, 104, 97, 115, 101] := xlit_of (by decide) (xnw_of hs [677, 678, 679, 680, 681, 682, 683, 684, 685] (by decide +kernel)) (hts _ (List.mem_of_getElem? (i := 1363) (by decide +kernel)))
set_option maxRecDepth 100000 in
theorem xl_19 {args : Array Value} {s : State} (hs : ∀ w ∈ xnwL, w.before args s = true) (hts : ∀ w ∈ lw_tbl, w.before args s = true) : ∃ aK aV : Nat, (vk_R "RooftopCatsModel" 287 "truce" aK s ∧ (Term.string "RooftopCatsModel" 287).eval args s none [] s = some (.ref aK)) ∧ XStr s aK aV [116, 114, 117, 99, 101] := xlit_of (by decide) (xnw_of hs [686, 687, 688, 689, 690, 691, 692, 693, 694] (by decide +kernel)) (hts _ (List.mem_of_getElem? (i := 1364) (by decide +kernel)))
set_option maxRecDepth 100000 in
theorem xl_20 {args : Array Value} {s : State} (hs : ∀ w ∈ xnwL, w.before args s = true) (hts : ∀ w ∈ lw_tbl, w.before args s = true) : ∃ aK aV : Nat, (vk_R "RooftopCatsModel" 289 "kitten" aK s ∧ (Term.string "RooftopCatsModel" 289).eval args s none [] s = some (.ref aK)) ∧ XStr s aK aV [107, 105, 116, 116, 101, 110] := xlit_of (by decide) (xnw_of hs [695, 696, 697, 698, 699, 700, 701, 702, 703, 704] (by decide +kernel)) (hts _ (List.mem_of_getElem? (i := 1365) (by decide +kernel)))
set_option maxRecDepth 100000 in
theorem xl_21 {args : Array Value} {s : State} (hs : ∀ w ∈ xnwL, w.before args s = true) (hts : ∀ w ∈ lw_tbl, w.before args s = true) : ∃ aK aV : Nat, (vk_R "RooftopCatsModel" 291 "yes" aK s ∧ (Term.string "RooftopCatsModel" 291).eval args s none [] s = some (.ref aK)) ∧ XStr s aK aV [121, 101, 115] := xlit_of (by decide) (xnw_of hs [705, 706, 707, 708, 709, 710, 711] (by decide +kernel)) (hts _ (List.mem_of_getElem? (i := 1366) (by decide +kernel)))
set_option maxRecDepth 100000 in
theorem xl_22 {args : Array Value} {s : State} (hs : ∀ w ∈ xnwL, w.before args s = true) (hts : ∀ w ∈ lw_tbl, w.before args s = true) : ∃ aK aV : Nat, (vk_R "RooftopCatsModel" 293 "no" aK s ∧ (Term.string "RooftopCatsModel" 293).eval args s none [] s = some (.ref aK)) ∧ XStr s aK aV [110, 111] := xlit_of (by decide) (xnw_of hs [712, 713, 714, 715, 716, 717] (by decide +kernel)) (hts _ (List.mem_of_getElem? (i := 1367) (by decide +kernel)))
set_option maxRecDepth 100000 in
theorem xl_23 {args : Array Value} {s : State} (hs : ∀ w ∈ xnwL, w.before args s = true) (hts : ∀ w ∈ lw_tbl, w.before args s = true) : ∃ aK aV : Nat, (vk_R "RooftopCatsModel" 295 "nights" aK s ∧ (Term.string "RooftopCatsModel" 295).eval args s none [] s = some (.ref aK)) ∧ XStr s aK aV [110, 105, 103, 104, 116, 115] := xlit_of (by decide) (xnw_of hs [718, 719, 720, 721, 722, 723, 724, 725, 726, 727] (by decide +kernel)) (hts _ (List.mem_of_getElem? (i := 1368) (by decide +kernel)))
set_option maxRecDepth 100000 in
theorem xl_24 {args : Array Value} {s : State} (hs : ∀ w ∈ xnwL, w.before args s = true) (hts : ∀ w ∈ lw_tbl, w.before args s = true) : ∃ aK aV : Nat, (vk_R "RooftopCatsModel" 297 "repeat" aK s ∧ (Term.string "RooftopCatsModel" 297).eval args s none [] s = some (.ref aK)) ∧ XStr s aK aV [114, 101, 112, 101, 97, 116] := xlit_of (by decide) (xnw_of hs [728, 729, 730, 731, 732, 733, 734, 735, 736, 737] (by decide +kernel)) (hts _ (List.mem_of_getElem? (i := 1369) (by decide +kernel)))
set_option maxRecDepth 100000 in
theorem xl_25 {args : Array Value} {s : State} (hs : ∀ w ∈ xnwL, w.before args s = true) (hts : ∀ w ∈ lw_tbl, w.before args s = true) : ∃ aK aV : Nat, (vk_R "RooftopCats$Command" 129 "repeat" aK s ∧ (Term.string "RooftopCats$Command" 129).eval args s none [] s = some (.ref aK)) ∧ XStr s aK aV [114, 101, 112, 101, 97, 116] := xlit_of (by decide) (xnw_of hs [738, 739, 740, 741, 742, 743, 744, 745, 746, 747] (by decide +kernel)) (hts _ (List.mem_of_getElem? (i := 2041) (by decide +kernel)))
set_option maxRecDepth 100000 in
theorem xl_26 {args : Array Value} {s : State} (hs : ∀ w ∈ xnwL, w.before args s = true) (hts : ∀ w ∈ lw_tbl, w.before args s = true) : ∃ aK aV : Nat, (vk_R "RooftopCats$Command" 131 "r" aK s ∧ (Term.string "RooftopCats$Command" 131).eval args s none [] s = some (.ref aK)) ∧ XStr s aK aV [114] := xlit_of (by decide) (xnw_of hs [749, 750, 751, 752, 753] (by decide +kernel)) (hts _ (List.mem_of_getElem? (i := 2042) (by decide +kernel)))
set_option maxRecDepth 100000 in
theorem xl_27 {args : Array Value} {s : State} (hs : ∀ w ∈ xnwL, w.before args s = true) (hts : ∀ w ∈ lw_tbl, w.before args s = true) : ∃ aK aV : Nat, (vk_R "RooftopCats$Command" 118 "yes" aK s ∧ (Term.string "RooftopCats$Command" 118).eval args s none [] s = some (.ref aK)) ∧ XStr s aK aV [121, 101, 115] := xlit_of (by decide) (xnw_of hs [754, 755, 756, 757, 758, 759, 760] (by decide +kernel)) (hts _ (List.mem_of_getElem? (i := 2043) (by decide +kernel)))
set_option maxRecDepth 100000 in
theorem xl_28 {args : Array Value} {s : State} (hs : ∀ w ∈ xnwL, w.before args s = true) (hts : ∀ w ∈ lw_tbl, w.before args s = true) : ∃ aK aV : Nat, (vk_R "RooftopCats$Command" 95 "c" aK s ∧ (Term.string "RooftopCats$Command" 95).eval args s none [] s = some (.ref aK)) ∧ XStr s aK aV [99] := xlit_of (by decide) (xnw_of hs [762, 763, 764, 765, 766] (by decide +kernel)) (hts _ (List.mem_of_getElem? (i := 2044) (by decide +kernel)))
set_option maxRecDepth 100000 in
theorem xl_29 {args : Array Value} {s : State} (hs : ∀ w ∈ xnwL, w.before args s = true) (hts : ∀ w ∈ lw_tbl, w.before args s = true) : ∃ aK aV : Nat, (vk_R "RooftopCats$Command" 70 "chimney" aK s ∧ (Term.string "RooftopCats$Command" 70).eval args s none [] s = some (.ref aK)) ∧ XStr s aK aV [99, 104, 105, 109, 110, 101, 121] := xlit_of (by decide) (xnw_of hs [767, 768, 769, 770, 771, 772, 773, 774, 775, 776, 777] (by decide +kernel)) (hts _ (List.mem_of_getElem? (i := 2045) (by decide +kernel)))
set_option maxRecDepth 100000 in
theorem xl_30 {args : Array Value} {s : State} (hs : ∀ w ∈ xnwL, w.before args s = true) (hts : ∀ w ∈ lw_tbl, w.before args s = true) : ∃ aK aV : Nat, (vk_R "RooftopCats$Command" 72 "w" aK s ∧ (Term.string "RooftopCats$Command" 72).eval args s none [] s = some (.ref aK)) ∧ XStr s aK aV [119] := xlit_of (by decide) (xnw_of hs [779, 780, 781, 782, 783] (by decide +kernel)) (hts _ (List.mem_of_getElem? (i := 2046) (by decide +kernel)))
set_option maxRecDepth 100000 in
theorem xl_31 {args : Array Value} {s : State} (hs : ∀ w ∈ xnwL, w.before args s = true) (hts : ∀ w ∈ lw_tbl, w.before args s = true) : ∃ aK aV : Nat, (vk_R "RooftopCats$Command" 78 "gutter" aK s ∧ (Term.string "RooftopCats$Command" 78).eval args s none [] s = some (.ref aK)) ∧ XStr s aK aV [103, 117, 116, 116, 101, 114] := xlit_of (by decide) (xnw_of hs [784, 785, 786, 787, 788, 789, 790, 791, 792, 793] (by decide +kernel)) (hts _ (List.mem_of_getElem? (i := 2047) (by decide +kernel)))
set_option maxRecDepth 100000 in
theorem xl_32 {args : Array Value} {s : State} (hs : ∀ w ∈ xnwL, w.before args s = true) (hts : ∀ w ∈ lw_tbl, w.before args s = true) : ∃ aK aV : Nat, (vk_R "RooftopCats$Command" 80 "hHs" aK s ∧ (Term.string "RooftopCats$Command" 80).eval args s none [] s = some (.ref aK)) ∧ XStr s aK aV [104, 72, 115] := xlit_of (by decide) (xnw_of hs [795, 796, 797, 798, 799, 800, 801] (by decide +kernel)) (hts _ (List.mem_of_getElem? (i := 2048) (by decide +kernel)))
set_option maxRecDepth 100000 in
theorem xl_33 {args : Array Value} {s : State} (hs : ∀ w ∈ xnwL, w.before args s = true) (hts : ∀ w ∈ lw_tbl, w.before args s = true) : ∃ aK aV : Nat, (vk_R "RooftopCats$Command" 83 "cat" aK s ∧ (Term.string "RooftopCats$Command" 83).eval args s none [] s = some (.ref aK)) ∧ XStr s aK aV [99, 97, 116] := xlit_of (by decide) (xnw_of hs [802, 803, 804, 805, 806, 807, 808] (by decide +kernel)) (hts _ (List.mem_of_getElem? (i := 2049) (by decide +kernel)))
set_option maxRecDepth 100000 in
theorem xl_34 {args : Array Value} {s : State} (hs : ∀ w ∈ xnwL, w.before args s = true) (hts : ∀ w ∈ lw_tbl, w.before args s = true) : ∃ aK aV : Nat, (vk_R "RooftopCats$Command" 85 "hss" aK s ∧ (Term.string "RooftopCats$Command" 85).eval args s none [] s = some (.ref aK)) ∧ XStr s aK aV [104, 115, 115] := xlit_of (by decide) (xnw_of hs [810, 811, 812, 813, 814, 815, 816] (by decide +kernel)) (hts _ (List.mem_of_getElem? (i := 2050) (by decide +kernel)))
set_option maxRecDepth 100000 in
theorem xl_35 {args : Array Value} {s : State} (hs : ∀ w ∈ xnwL, w.before args s = true) (hts : ∀ w ∈ lw_tbl, w.before args s = true) : ∃ aK aV : Nat, (vk_R "RooftopCats$Command" 88 "step" aK s ∧ (Term.string "RooftopCats$Command" 88).eval args s none [] s = some (.ref aK)) ∧ XStr s aK aV [115, 116, 101, 112] := xlit_of (by decide) (xnw_of hs [817, 818, 819, 820, 821, 822, 823, 824] (by decide +kernel)) (hts _ (List.mem_of_getElem? (i := 2051) (by decide +kernel)))
set_option maxRecDepth 100000 in
theorem xl_36 {args : Array Value} {s : State} (hs : ∀ w ∈ xnwL, w.before args s = true) (hts : ∀ w ∈ lw_tbl, w.before args s = true) : ∃ aK aV : Nat, (vk_R "RooftopCats$Command" 90 "cg" aK s ∧ (Term.string "RooftopCats$Command" 90).eval args s none [] s = some (.ref aK)) ∧ XStr s aK aV [99, 103] := xlit_of (by decide) (xnw_of hs [826, 827, 828, 829, 830, 831] (by decide +kernel)) (hts _ (List.mem_of_getElem? (i := 2052) (by decide +kernel)))
set_option maxRecDepth 100000 in
theorem xl_37 {args : Array Value} {s : State} (hs : ∀ w ∈ xnwL, w.before args s = true) (hts : ∀ w ∈ lw_tbl, w.before args s = true) : ∃ aK aV : Nat, (vk_R "RooftopCats$Command" 93 "claim" aK s ∧ (Term.string "RooftopCats$Command" 93).eval args s none [] s = some (.ref aK)) ∧ XStr s aK aV [99, 108, 97, 105, 109] := xlit_of (by decide) (xnw_of hs [832, 833, 834, 835, 836, 837, 838, 839, 840] (by decide +kernel)) (hts _ (List.mem_of_getElem? (i := 2053) (by decide +kernel)))
set_option maxRecDepth 100000 in
theorem xl_38 {args : Array Value} {s : State} (hs : ∀ w ∈ xnwL, w.before args s = true) (hts : ∀ w ∈ lw_tbl, w.before args s = true) : ∃ aK aV : Nat, (vk_R "RooftopCats$Command" 98 "abandon" aK s ∧ (Term.string "RooftopCats$Command" 98).eval args s none [] s = some (.ref aK)) ∧ XStr s aK aV [97, 98, 97, 110, 100, 111, 110] := xlit_of (by decide) (xnw_of hs [842, 843, 844, 845, 846, 847, 848, 849, 850, 851, 852] (by decide +kernel)) (hts _ (List.mem_of_getElem? (i := 2054) (by decide +kernel)))
set_option maxRecDepth 100000 in
theorem xl_39 {args : Array Value} {s : State} (hs : ∀ w ∈ xnwL, w.before args s = true) (hts : ∀ w ∈ lw_tbl, w.before args s = true) : ∃ aK aV : Nat, (vk_R "RooftopCats$Command" 100 "h" aK s ∧ (Term.string "RooftopCats$Command" 100).eval args s none [] s = some (.ref aK)) ∧ XStr s aK aV [104] := xlit_of (by decide) (xnw_of hs [854, 855, 856, 857, 858] (by decide +kernel)) (hts _ (List.mem_of_getElem? (i := 2055) (by decide +kernel)))
set_option maxRecDepth 100000 in
theorem xl_40 {args : Array Value} {s : State} (hs : ∀ w ∈ xnwL, w.before args s = true) (hts : ∀ w ∈ lw_tbl, w.before args s = true) : ∃ aK aV : Nat, (vk_R "RooftopCats$Command" 103 "chase" aK s ∧ (Term.string "RooftopCats$Command" 103).eval args s none [] s = some (.ref aK)) ∧ XStr s aK aV [99, 104, 97, 115, 101] := xlit_of (by decide) (xnw_of hs [859, 860, 861, 862, 863, 864, 865, 866, 867] (by decide +kernel)) (hts _ (List.mem_of_getElem? (i := 2056) (by decide +kernel)))
set_option maxRecDepth 100000 in
theorem xl_41 {args : Array Value} {s : State} (hs : ∀ w ∈ xnwL, w.before args s = true) (hts : ∀ w ∈ lw_tbl, w.before args s = true) : ∃ aK aV : Nat, (vk_R "RooftopCats$Command" 105 "cC" aK s ∧ (Term.string "RooftopCats$Command" 105).eval args s none [] s = some (.ref aK)) ∧ XStr s aK aV [99, 67] := xlit_of (by decide) (xnw_of hs [869, 870, 871, 872, 873, 874] (by decide +kernel)) (hts _ (List.mem_of_getElem? (i := 2057) (by decide +kernel)))
set_option maxRecDepth 100000 in
theorem xl_42 {args : Array Value} {s : State} (hs : ∀ w ∈ xnwL, w.before args s = true) (hts : ∀ w ∈ lw_tbl, w.before args s = true) : ∃ aK aV : Nat, (vk_R "RooftopCats$Command" 108 "truce" aK s ∧ (Term.string "RooftopCats$Command" 108).eval args s none [] s = some (.ref aK)) ∧ XStr s aK aV [116, 114, 117, 99, 101] := xlit_of (by decide) (xnw_of hs [875, 876, 877, 878, 879, 880, 881, 882, 883] (by decide +kernel)) (hts _ (List.mem_of_getElem? (i := 2058) (by decide +kernel)))
set_option maxRecDepth 100000 in
theorem xl_43 {args : Array Value} {s : State} (hs : ∀ w ∈ xnwL, w.before args s = true) (hts : ∀ w ∈ lw_tbl, w.before args s = true) : ∃ aK aV : Nat, (vk_R "RooftopCats$Command" 110 "cCft" aK s ∧ (Term.string "RooftopCats$Command" 110).eval args s none [] s = some (.ref aK)) ∧ XStr s aK aV [99, 67, 102, 116] := xlit_of (by decide) (xnw_of hs [885, 886, 887, 888, 889, 890, 891, 892] (by decide +kernel)) (hts _ (List.mem_of_getElem? (i := 2059) (by decide +kernel)))
set_option maxRecDepth 100000 in
theorem xl_44 {args : Array Value} {s : State} (hs : ∀ w ∈ xnwL, w.before args s = true) (hts : ∀ w ∈ lw_tbl, w.before args s = true) : ∃ aK aV : Nat, (vk_R "RooftopCats$Command" 113 "kitten" aK s ∧ (Term.string "RooftopCats$Command" 113).eval args s none [] s = some (.ref aK)) ∧ XStr s aK aV [107, 105, 116, 116, 101, 110] := xlit_of (by decide) (xnw_of hs [893, 894, 895, 896, 897, 898, 899, 900, 901, 902] (by decide +kernel)) (hts _ (List.mem_of_getElem? (i := 2060) (by decide +kernel)))
set_option maxRecDepth 100000 in
theorem xl_45 {args : Array Value} {s : State} (hs : ∀ w ∈ xnwL, w.before args s = true) (hts : ∀ w ∈ lw_tbl, w.before args s = true) : ∃ aK aV : Nat, (vk_R "RooftopCats$Command" 115 "ss" aK s ∧ (Term.string "RooftopCats$Command" 115).eval args s none [] s = some (.ref aK)) ∧ XStr s aK aV [115, 115] := xlit_of (by decide) (xnw_of hs [904, 905, 906, 907, 908, 909] (by decide +kernel)) (hts _ (List.mem_of_getElem? (i := 2061) (by decide +kernel)))
set_option maxRecDepth 100000 in
theorem xl_46 {args : Array Value} {s : State} (hs : ∀ w ∈ xnwL, w.before args s = true) (hts : ∀ w ∈ lw_tbl, w.before args s = true) : ∃ aK aV : Nat, (vk_R "RooftopCats$Command" 121 "no" aK s ∧ (Term.string "RooftopCats$Command" 121).eval args s none [] s = some (.ref aK)) ∧ XStr s aK aV [110, 111] := xlit_of (by decide) (xnw_of hs [910, 911, 912, 913, 914, 915] (by decide +kernel)) (hts _ (List.mem_of_getElem? (i := 2062) (by decide +kernel)))
set_option maxRecDepth 100000 in
theorem xl_47 {args : Array Value} {s : State} (hs : ∀ w ∈ xnwL, w.before args s = true) (hts : ∀ w ∈ lw_tbl, w.before args s = true) : ∃ aK aV : Nat, (vk_R "RooftopCats$Command" 124 "nights" aK s ∧ (Term.string "RooftopCats$Command" 124).eval args s none [] s = some (.ref aK)) ∧ XStr s aK aV [110, 105, 103, 104, 116, 115] := xlit_of (by decide) (xnw_of hs [917, 918, 919, 920, 921, 922, 923, 924, 925, 926] (by decide +kernel)) (hts _ (List.mem_of_getElem? (i := 2063) (by decide +kernel)))
set_option maxRecDepth 100000 in
theorem xl_48 {args : Array Value} {s : State} (hs : ∀ w ∈ xnwL, w.before args s = true) (hts : ∀ w ∈ lw_tbl, w.before args s = true) : ∃ aK aV : Nat, (vk_R "RooftopCats$Command" 126 "n" aK s ∧ (Term.string "RooftopCats$Command" 126).eval args s none [] s = some (.ref aK)) ∧ XStr s aK aV [110] := xlit_of (by decide) (xnw_of hs [928, 929, 930, 931, 932] (by decide +kernel)) (hts _ (List.mem_of_getElem? (i := 2064) (by decide +kernel)))
theorem xlits_ok {args : Array Value} {s : State} (hs : ∀ w ∈ xnwL, w.before args s = true) (hts : ∀ w ∈ lw_tbl, w.before args s = true) : ∀ q ∈ xlits, XLit s q := by
  intro q hq
  rcases List.mem_cons.mp hq with rfl | hq
  · obtain ⟨aK, aV, h1, h2⟩ := xl_0 hs hts
    exact ⟨aK, aV, h1.1, h2⟩
  rcases List.mem_cons.mp hq with rfl | hq
  · obtain ⟨aK, aV, h1, h2⟩ := xl_1 hs hts
    exact ⟨aK, aV, h1.1, h2⟩
  rcases List.mem_cons.mp hq with rfl | hq
  · obtain ⟨aK, aV, h1, h2⟩ := xl_2 hs hts
    exact ⟨aK, aV, h1.1, h2⟩
  rcases List.mem_cons.mp hq with rfl | hq
  · obtain ⟨aK, aV, h1, h2⟩ := xl_3 hs hts
    exact ⟨aK, aV, h1.1, h2⟩
  rcases List.mem_cons.mp hq with rfl | hq
  · obtain ⟨aK, aV, h1, h2⟩ := xl_4 hs hts
    exact ⟨aK, aV, h1.1, h2⟩
  rcases List.mem_cons.mp hq with rfl | hq
  · obtain ⟨aK, aV, h1, h2⟩ := xl_5 hs hts
    exact ⟨aK, aV, h1.1, h2⟩
  rcases List.mem_cons.mp hq with rfl | hq
  · obtain ⟨aK, aV, h1, h2⟩ := xl_6 hs hts
    exact ⟨aK, aV, h1.1, h2⟩
  rcases List.mem_cons.mp hq with rfl | hq
  · obtain ⟨aK, aV, h1, h2⟩ := xl_7 hs hts
    exact ⟨aK, aV, h1.1, h2⟩
  rcases List.mem_cons.mp hq with rfl | hq
  · obtain ⟨aK, aV, h1, h2⟩ := xl_8 hs hts
    exact ⟨aK, aV, h1.1, h2⟩
  rcases List.mem_cons.mp hq with rfl | hq
  · obtain ⟨aK, aV, h1, h2⟩ := xl_9 hs hts
    exact ⟨aK, aV, h1.1, h2⟩
  rcases List.mem_cons.mp hq with rfl | hq
  · obtain ⟨aK, aV, h1, h2⟩ := xl_10 hs hts
    exact ⟨aK, aV, h1.1, h2⟩
  rcases List.mem_cons.mp hq with rfl | hq
  · obtain ⟨aK, aV, h1, h2⟩ := xl_11 hs hts
    exact ⟨aK, aV, h1.1, h2⟩
  rcases List.mem_cons.mp hq with rfl | hq
  · obtain ⟨aK, aV, h1, h2⟩ := xl_12 hs hts
    exact ⟨aK, aV, h1.1, h2⟩
  rcases List.mem_cons.mp hq with rfl | hq
  · obtain ⟨aK, aV, h1, h2⟩ := xl_13 hs hts
    exact ⟨aK, aV, h1.1, h2⟩
  rcases List.mem_cons.mp hq with rfl | hq
  · obtain ⟨aK, aV, h1, h2⟩ := xl_14 hs hts
    exact ⟨aK, aV, h1.1, h2⟩
  rcases List.mem_cons.mp hq with rfl | hq
  · obtain ⟨aK, aV, h1, h2⟩ := xl_15 hs hts
    exact ⟨aK, aV, h1.1, h2⟩
  rcases List.mem_cons.mp hq with rfl | hq
  · obtain ⟨aK, aV, h1, h2⟩ := xl_16 hs hts
    exact ⟨aK, aV, h1.1, h2⟩
  rcases List.mem_cons.mp hq with rfl | hq
  · obtain ⟨aK, aV, h1, h2⟩ := xl_17 hs hts
    exact ⟨aK, aV, h1.1, h2⟩
  rcases List.mem_cons.mp hq with rfl | hq
  · obtain ⟨aK, aV, h1, h2⟩ := xl_18 hs hts
    exact ⟨aK, aV, h1.1, h2⟩
  rcases List.mem_cons.mp hq with rfl | hq
  · obtain ⟨aK, aV, h1, h2⟩ := xl_19 hs hts
    exact ⟨aK, aV, h1.1, h2⟩
  rcases List.mem_cons.mp hq with rfl | hq
  · obtain ⟨aK, aV, h1, h2⟩ := xl_20 hs hts
    exact ⟨aK, aV, h1.1, h2⟩
  rcases List.mem_cons.mp hq with rfl | hq
  · obtain ⟨aK, aV, h1, h2⟩ := xl_21 hs hts
    exact ⟨aK, aV, h1.1, h2⟩
  rcases List.mem_cons.mp hq with rfl | hq
  · obtain ⟨aK, aV, h1, h2⟩ := xl_22 hs hts
    exact ⟨aK, aV, h1.1, h2⟩
  rcases List.mem_cons.mp hq with rfl | hq
  · obtain ⟨aK, aV, h1, h2⟩ := xl_23 hs hts
    exact ⟨aK, aV, h1.1, h2⟩
  rcases List.mem_cons.mp hq with rfl | hq
  · obtain ⟨aK, aV, h1, h2⟩ := xl_24 hs hts
    exact ⟨aK, aV, h1.1, h2⟩
  rcases List.mem_cons.mp hq with rfl | hq
  · obtain ⟨aK, aV, h1, h2⟩ := xl_25 hs hts
    exact ⟨aK, aV, h1.1, h2⟩
  rcases List.mem_cons.mp hq with rfl | hq
  · obtain ⟨aK, aV, h1, h2⟩ := xl_26 hs hts
    exact ⟨aK, aV, h1.1, h2⟩
  rcases List.mem_cons.mp hq with rfl | hq
  · obtain ⟨aK, aV, h1, h2⟩ := xl_27 hs hts
    exact ⟨aK, aV, h1.1, h2⟩
  rcases List.mem_cons.mp hq with rfl | hq
  · obtain ⟨aK, aV, h1, h2⟩ := xl_28 hs hts
    exact ⟨aK, aV, h1.1, h2⟩
  rcases List.mem_cons.mp hq with rfl | hq
  · obtain ⟨aK, aV, h1, h2⟩ := xl_29 hs hts
    exact ⟨aK, aV, h1.1, h2⟩
  rcases List.mem_cons.mp hq with rfl | hq
  · obtain ⟨aK, aV, h1, h2⟩ := xl_30 hs hts
    exact ⟨aK, aV, h1.1, h2⟩
  rcases List.mem_cons.mp hq with rfl | hq
  · obtain ⟨aK, aV, h1, h2⟩ := xl_31 hs hts
    exact ⟨aK, aV, h1.1, h2⟩
  rcases List.mem_cons.mp hq with rfl | hq
  · obtain ⟨aK, aV, h1, h2⟩ := xl_32 hs hts
    exact ⟨aK, aV, h1.1, h2⟩
  rcases List.mem_cons.mp hq with rfl | hq
  · obtain ⟨aK, aV, h1, h2⟩ := xl_33 hs hts
    exact ⟨aK, aV, h1.1, h2⟩
  rcases List.mem_cons.mp hq with rfl | hq
  · obtain ⟨aK, aV, h1, h2⟩ := xl_34 hs hts
    exact ⟨aK, aV, h1.1, h2⟩
  rcases List.mem_cons.mp hq with rfl | hq
  · obtain ⟨aK, aV, h1, h2⟩ := xl_35 hs hts
    exact ⟨aK, aV, h1.1, h2⟩
  rcases List.mem_cons.mp hq with rfl | hq
  · obtain ⟨aK, aV, h1, h2⟩ := xl_36 hs hts
    exact ⟨aK, aV, h1.1, h2⟩
  rcases List.mem_cons.mp hq with rfl | hq
  · obtain ⟨aK, aV, h1, h2⟩ := xl_37 hs hts
    exact ⟨aK, aV, h1.1, h2⟩
  rcases List.mem_cons.mp hq with rfl | hq
  · obtain ⟨aK, aV, h1, h2⟩ := xl_38 hs hts
    exact ⟨aK, aV, h1.1, h2⟩
  rcases List.mem_cons.mp hq with rfl | hq
  · obtain ⟨aK, aV, h1, h2⟩ := xl_39 hs hts
    exact ⟨aK, aV, h1.1, h2⟩
  rcases List.mem_cons.mp hq with rfl | hq
  · obtain ⟨aK, aV, h1, h2⟩ := xl_40 hs hts
    exact ⟨aK, aV, h1.1, h2⟩
  rcases List.mem_cons.mp hq with rfl | hq
  · obtain ⟨aK, aV, h1, h2⟩ := xl_41 hs hts
    exact ⟨aK, aV, h1.1, h2⟩
  rcases List.mem_cons.mp hq with rfl | hq
  · obtain ⟨aK, aV, h1, h2⟩ := xl_42 hs hts
    exact ⟨aK, aV, h1.1, h2⟩
  rcases List.mem_cons.mp hq with rfl | hq
  · obtain ⟨aK, aV, h1, h2⟩ := xl_43 hs hts
    exact ⟨aK, aV, h1.1, h2⟩
  rcases List.mem_cons.mp hq with rfl | hq
  · obtain ⟨aK, aV, h1, h2⟩ := xl_44 hs hts
    exact ⟨aK, aV, h1.1, h2⟩
  rcases List.mem_cons.mp hq with rfl | hq
  · obtain ⟨aK, aV, h1, h2⟩ := xl_45 hs hts
    exact ⟨aK, aV, h1.1, h2⟩
  rcases List.mem_cons.mp hq with rfl | hq
  · obtain ⟨aK, aV, h1, h2⟩ := xl_46 hs hts
    exact ⟨aK, aV, h1.1, h2⟩
  rcases List.mem_cons.mp hq with rfl | hq
  · obtain ⟨aK, aV, h1, h2⟩ := xl_47 hs hts
    exact ⟨aK, aV, h1.1, h2⟩
  rcases List.mem_cons.mp hq with rfl | hq
  · obtain ⟨aK, aV, h1, h2⟩ := xl_48 hs hts
    exact ⟨aK, aV, h1.1, h2⟩
  cases hq
theorem xG_ok {args : Array Value} {s : State} (hs : ∀ w ∈ xnwL, w.before args s = true) (hts : ∀ w ∈ lw_tbl, w.before args s = true) : XG s := by
  refine ⟨va_Zof (hts _ (List.mem_of_getElem? (i := 512) (by decide +kernel))) (hts _ (List.mem_of_getElem? (i := 126) (by decide +kernel))) (va_eqi (hs _ (List.mem_of_getElem? (i := 4) (by decide +kernel)))) (fun a ha h => by have : s.heap.size ≤ a := h; omega), va_Zqof (hts _ (List.mem_of_getElem? (i := 528) (by decide +kernel))) (hts _ (List.mem_of_getElem? (i := 128) (by decide +kernel))) (hs _ (List.mem_of_getElem? (i := 5) (by decide +kernel))) (fun a ha h => by have : s.heap.size ≤ a := h; omega), xlits_ok hs hts, vx_Zqof (hts _ (List.mem_of_getElem? (i := 904) (by decide +kernel))) (hts _ (List.mem_of_getElem? (i := 130) (by decide +kernel))) (hs _ (List.mem_of_getElem? (i := 52) (by decide +kernel))) (fun a ha h => by have : s.heap.size ≤ a := h; omega), vx_Zqof (hts _ (List.mem_of_getElem? (i := 906) (by decide +kernel))) (hts _ (List.mem_of_getElem? (i := 130) (by decide +kernel))) (hs _ (List.mem_of_getElem? (i := 53) (by decide +kernel))) (fun a ha h => by have : s.heap.size ≤ a := h; omega)⟩
theorem xNc_ok {args : Array Value} {s : State} (hs : ∀ w ∈ xnwL, w.before args s = true) (hts : ∀ w ∈ lw_tbl, w.before args s = true) : XNc s := by
  intro i j h1 h2 h3 h4 hij
  rcases (show i = 1 ∨ i = 2 ∨ i = 3 ∨ i = 4 by omega) with rfl | rfl | rfl | rfl <;> rcases (show j = 1 ∨ j = 2 ∨ j = 3 ∨ j = 4 by omega) with rfl | rfl | rfl | rfl
  · exact absurd rfl hij
  · exact va_Nc.of (hs _ (List.mem_of_getElem? (i := 185) (by decide +kernel)))
  · exact va_Nc.of (hs _ (List.mem_of_getElem? (i := 197) (by decide +kernel)))
  · exact va_Nc.of (hs _ (List.mem_of_getElem? (i := 222) (by decide +kernel)))
  · exact va_Nc.of (hs _ (List.mem_of_getElem? (i := 207) (by decide +kernel)))
  · exact absurd rfl hij
  · exact va_Nc.of (hs _ (List.mem_of_getElem? (i := 195) (by decide +kernel)))
  · exact va_Nc.of (hs _ (List.mem_of_getElem? (i := 219) (by decide +kernel)))
  · exact va_Nc.of (hs _ (List.mem_of_getElem? (i := 209) (by decide +kernel)))
  · exact va_Nc.of (hs _ (List.mem_of_getElem? (i := 184) (by decide +kernel)))
  · exact absurd rfl hij
  · exact va_Nc.of (hs _ (List.mem_of_getElem? (i := 221) (by decide +kernel)))
  · exact va_Nc.of (hs _ (List.mem_of_getElem? (i := 210) (by decide +kernel)))
  · exact va_Nc.of (hs _ (List.mem_of_getElem? (i := 186) (by decide +kernel)))
  · exact va_Nc.of (hs _ (List.mem_of_getElem? (i := 198) (by decide +kernel)))
  · exact absurd rfl hij
theorem xDW_ok {args : Array Value} {s : State} (hs : ∀ w ∈ xnwL, w.before args s = true) (hts : ∀ w ∈ lw_tbl, w.before args s = true) : XDW s := by
  intro w hw
  have h0 : ∀ w ∈ xDw, w.before args s = true := by
    intro w hw
    simp only [xDw, List.mem_cons, List.not_mem_nil, or_false] at hw
    rcases hw with rfl | rfl | rfl | rfl | rfl | rfl | rfl
    · exact hts _ (List.mem_of_getElem? (i := 881) (by decide +kernel))
    · exact hts _ (List.mem_of_getElem? (i := 883) (by decide +kernel))
    · exact hts _ (List.mem_of_getElem? (i := 885) (by decide +kernel))
    · exact hts _ (List.mem_of_getElem? (i := 993) (by decide +kernel))
    · exact hts _ (List.mem_of_getElem? (i := 879) (by decide +kernel))
    · exact hts _ (List.mem_of_getElem? (i := 964) (by decide +kernel))
    · exact hts _ (List.mem_of_getElem? (i := 1110) (by decide +kernel))
  have h1 := h0 w hw
  simp only [xDw, List.mem_cons, List.not_mem_nil, or_false] at hw
  rcases hw with rfl | rfl | rfl | rfl | rfl | rfl | rfl <;> exact va_any rfl h1
theorem xNW_ok {args : Array Value} {s : State} (hs : ∀ w ∈ xnwL, w.before args s = true) (hts : ∀ w ∈ lw_tbl, w.before args s = true) : xNW s := by
  intro w hw
  simp only [xNw, List.mem_cons, List.not_mem_nil, or_false] at hw
  rcases hw with rfl | rfl | rfl | rfl | rfl | rfl | rfl
  · exact va_Nw.of rfl (hts _ (List.mem_of_getElem? (i := 158) (by decide +kernel)))
  · exact va_Nw.of rfl (hts _ (List.mem_of_getElem? (i := 152) (by decide +kernel)))
  · exact va_Nw.of rfl (hts _ (List.mem_of_getElem? (i := 262) (by decide +kernel)))
  · exact va_Nw.of rfl (hts _ (List.mem_of_getElem? (i := 276) (by decide +kernel)))
  · exact va_Nw.of rfl (hts _ (List.mem_of_getElem? (i := 282) (by decide +kernel)))
  · exact va_Nw.of rfl (hts _ (List.mem_of_getElem? (i := 312) (by decide +kernel)))
  · exact va_Nw.of rfl (hts _ (List.mem_of_getElem? (i := 350) (by decide +kernel)))
theorem xAO_ok {args : Array Value} {s : State} (hs : ∀ w ∈ xnwL, w.before args s = true) (hts : ∀ w ∈ lw_tbl, w.before args s = true) : va_AO "RooftopCats$Roof" s := va_AO.of (hts _ (List.mem_of_getElem? (i := 261) (by decide +kernel)))
theorem xD_ok {args : Array Value} {s : State} (hs : ∀ w ∈ xnwL, w.before args s = true) (hts : ∀ w ∈ lw_tbl, w.before args s = true) : ∃ D : va_G, ∀ (c : Nat) (q : vw_C), vwCl[c]? = some q → u_Kn s q.1 q.2.1 q.2.2 (D.1 c) (D.2 c) := by
  have hX : ∀ w ∈ lwX, w.before args s = true := fun w hw => hts w (List.mem_filter.mp hw).1
  obtain ⟨c0, i0, h0⟩ := u_known (C := RX2) (T := TX2) (N := 3) hX xinX2 (hts (Cond.instantiable RX2 3) (List.mem_of_getElem? (i := 255) (by decide +kernel)))
  obtain ⟨c1, i1, h1⟩ := u_known (C := RX3) (T := TX3) (N := 4) hX xinX3 (hts (Cond.instantiable RX3 4) (List.mem_of_getElem? (i := 157) (by decide +kernel)))
  obtain ⟨c2, i2, h2⟩ := u_known (C := RX4) (T := TX4) (N := 6) hX xinX4 (hts (Cond.instantiable RX4 6) (List.mem_of_getElem? (i := 281) (by decide +kernel)))
  obtain ⟨c3, i3, h3⟩ := u_known (C := RX5) (T := TX5) (N := 2) hX xinX5 (hts (Cond.instantiable RX5 2) (List.mem_of_getElem? (i := 349) (by decide +kernel)))
  obtain ⟨c4, i4, h4⟩ := u_known (C := RX6) (T := TX6) (N := 17) hX xinX6 (hts (Cond.instantiable RX6 17) (List.mem_of_getElem? (i := 151) (by decide +kernel)))
  obtain ⟨c5, i5, h5⟩ := u_known (C := RX7) (T := TX7) (N := 10) hX xinX7 (hts (Cond.instantiable RX7 10) (List.mem_of_getElem? (i := 275) (by decide +kernel)))
  obtain ⟨c6, i6, h6⟩ := u_known (C := RX8) (T := TX8) (N := 6) hX xinX8 (hts (Cond.instantiable RX8 6) (List.mem_of_getElem? (i := 143) (by decide +kernel)))
  obtain ⟨c7, i7, h7⟩ := u_known (C := RX9) (T := TX9) (N := 23) hX xinX9 (hts (Cond.instantiable RX9 23) (List.mem_of_getElem? (i := 1304) (by decide +kernel)))
  refine ⟨(fun c => [c0, c1, c2, c3, c4, c5, c6, c7].getD c 0, fun c => ([i0, i1, i2, i3, i4, i5, i6, i7] : List (Nat → Nat)).getD c (fun _ => 0)), fun c q hq => ?_⟩
  have hc : c < 8 := (List.getElem?_eq_some_iff.mp hq).1
  rcases (show c = 0 ∨ c = 1 ∨ c = 2 ∨ c = 3 ∨ c = 4 ∨ c = 5 ∨ c = 6 ∨ c = 7 by omega) with rfl | rfl | rfl | rfl | rfl | rfl | rfl | rfl
  · cases hq
    exact h0
  · cases hq
    exact h1
  · cases hq
    exact h2
  · cases hq
    exact h3
  · cases hq
    exact h4
  · cases hq
    exact h5
  · cases hq
    exact h6
  · cases hq
    exact h7
theorem xcy_ok {args : Array Value} {s : State} (hs : ∀ w ∈ xnwL, w.before args s = true) (hts : ∀ w ∈ lw_tbl, w.before args s = true) : ∃ cy : Nat → ClassId, ∀ (k : Nat) (q : ClassId × FieldType), (xtys cy)[k]? = some q → ArrOfT s q.1 q.2 ∧ va_RA s q.1 q.2 := by
  obtain ⟨c0, k0, p0, a0, b0, e0⟩ := Cond.arrayClass_spec (hts (Cond.arrayClass .int) (List.mem_of_getElem? (i := 181) (by decide +kernel)))
  obtain ⟨c1, k1, p1, a1, b1, e1⟩ := Cond.arrayClass_spec (hts (Cond.arrayClass .byte) (List.mem_of_getElem? (i := 310) (by decide +kernel)))
  obtain ⟨c2, k2, p2, a2, b2, e2⟩ := Cond.arrayClass_spec (hts (Cond.arrayClass .char) (List.mem_of_getElem? (i := 1680) (by decide +kernel)))
  obtain ⟨c3, k3, p3, a3, b3, e3⟩ := Cond.arrayClass_spec (hts (Cond.arrayClass .long) (List.mem_of_getElem? (i := 2008) (by decide +kernel)))
  obtain ⟨p4, c4, k4, f4, -, b4, e4, a4⟩ := Cond.arrayOver_spec (hts (Cond.arrayOver (.object "RooftopCats$Roof")) (List.mem_of_getElem? (i := 261) (by decide +kernel)))
  refine ⟨fun t => [c0, c1, c2, c3, c4].getD t 0, fun k q hq => ?_⟩
  have hk : k < 5 := (List.getElem?_eq_some_iff.mp hq).1
  rcases (show k = 0 ∨ k = 1 ∨ k = 2 ∨ k = 3 ∨ k = 4 by omega) with rfl | rfl | rfl | rfl | rfl
  · cases hq
    exact ⟨fun n z => ⟨fun k h => (by cases h), k0, b0, p0, e0⟩, a0⟩
  · cases hq
    exact ⟨fun n z => ⟨fun k h => (by cases h), k1, b1, p1, e1⟩, a1⟩
  · cases hq
    exact ⟨fun n z => ⟨fun k h => (by cases h), k2, b2, p2, e2⟩, a2⟩
  · cases hq
    exact ⟨fun n z => ⟨fun k h => (by cases h), k3, b3, p3, e3⟩, a3⟩
  · cases hq
    exact ⟨fun n z => ⟨fun k h => (by cases h), k4, b4, p4, e4⟩, k4, p4, b4, e4, f4, a4⟩
def xEnm : List String := ["CHIMNEY", "GUTTER", "CAT", "STEP", "CLAIM", "ABANDON", "CHASE", "TRUCE", "KITTEN", "YES", "NO", "NIGHTS", "REPEAT"]
def xWi : List Nat := [70, 78, 83, 88, 93, 98, 103, 108, 113, 118, 121, 124, 129]
def xPi : List Nat := [72, 80, 85, 90, 95, 100, 105, 110, 115, 95, 95, 126, 131]
set_option maxHeartbeats 4000000 in
theorem xEn_ok {args : Array Value} {s : State} (hs : ∀ w ∈ xnwL, w.before args s = true) (hts : ∀ w ∈ lw_tbl, w.before args s = true) : ∃ tE : xEnT, XEn s tE := by
  have hA : ∀ a : Nat, a < s.heap.size → ¬ xA00 s a := (fun a ha h => by have : s.heap.size ≤ a := h; omega)
  obtain ⟨ad, h1, h2⟩ := va_Enof2 (E := xCmd) (d := xCmdD) (nm := xEnm) (F := [("java/lang/Enum", "ordinal", "I", [0, 1, 2, 3, 4, 5, 6, 7, 8, 9, 10, 11, 12])]) (args := args) (s := s) (A := xA00 s)
    (fun i hi => by
      have hi : i < 13 := hi
      rcases (show i = 0 ∨ i = 1 ∨ i = 2 ∨ i = 3 ∨ i = 4 ∨ i = 5 ∨ i = 6 ∨ i = 7 ∨ i = 8 ∨ i = 9 ∨ i = 10 ∨ i = 11 ∨ i = 12 by omega) with rfl | rfl | rfl | rfl | rfl | rfl | rfl | rfl | rfl | rfl | rfl | rfl | rfl
      · exact hts _ (List.mem_of_getElem? (i := 2030) (by decide +kernel))
      · exact hts _ (List.mem_of_getElem? (i := 2031) (by decide +kernel))
      · exact hts _ (List.mem_of_getElem? (i := 2032) (by decide +kernel))
      · exact hts _ (List.mem_of_getElem? (i := 2033) (by decide +kernel))
      · exact hts _ (List.mem_of_getElem? (i := 2034) (by decide +kernel))
      · exact hts _ (List.mem_of_getElem? (i := 2035) (by decide +kernel))
      · exact hts _ (List.mem_of_getElem? (i := 2036) (by decide +kernel))
      · exact hts _ (List.mem_of_getElem? (i := 2037) (by decide +kernel))
      · exact hts _ (List.mem_of_getElem? (i := 2038) (by decide +kernel))
      · exact hts _ (List.mem_of_getElem? (i := 700) (by decide +kernel))
      · exact hts _ (List.mem_of_getElem? (i := 2039) (by decide +kernel))
      · exact hts _ (List.mem_of_getElem? (i := 2040) (by decide +kernel))
      · exact hts _ (List.mem_of_getElem? (i := 575) (by decide +kernel)))
    (hts _ (List.mem_of_getElem? (i := 136) (by decide +kernel)))
    (fun i hi => by
      have hi : i < 13 := hi
      rcases (show i = 0 ∨ i = 1 ∨ i = 2 ∨ i = 3 ∨ i = 4 ∨ i = 5 ∨ i = 6 ∨ i = 7 ∨ i = 8 ∨ i = 9 ∨ i = 10 ∨ i = 11 ∨ i = 12 by omega) with rfl | rfl | rfl | rfl | rfl | rfl | rfl | rfl | rfl | rfl | rfl | rfl | rfl
      · exact hs _ (List.mem_of_getElem? (i := 54) (by decide +kernel))
      · exact hs _ (List.mem_of_getElem? (i := 60) (by decide +kernel))
      · exact hs _ (List.mem_of_getElem? (i := 67) (by decide +kernel))
      · exact hs _ (List.mem_of_getElem? (i := 75) (by decide +kernel))
      · exact hs _ (List.mem_of_getElem? (i := 84) (by decide +kernel))
      · exact hs _ (List.mem_of_getElem? (i := 94) (by decide +kernel))
      · exact hs _ (List.mem_of_getElem? (i := 105) (by decide +kernel))
      · exact hs _ (List.mem_of_getElem? (i := 117) (by decide +kernel))
      · exact hs _ (List.mem_of_getElem? (i := 130) (by decide +kernel))
      · exact hs _ (List.mem_of_getElem? (i := 47) (by decide +kernel))
      · exact hs _ (List.mem_of_getElem? (i := 144) (by decide +kernel))
      · exact hs _ (List.mem_of_getElem? (i := 159) (by decide +kernel))
      · exact hs _ (List.mem_of_getElem? (i := 27) (by decide +kernel)))
    (fun q hq i hi => by
      have hi : i < 13 := hi
      rcases List.mem_cons.mp hq with rfl | hq
      · rcases (show i = 0 ∨ i = 1 ∨ i = 2 ∨ i = 3 ∨ i = 4 ∨ i = 5 ∨ i = 6 ∨ i = 7 ∨ i = 8 ∨ i = 9 ∨ i = 10 ∨ i = 11 ∨ i = 12 by omega) with rfl | rfl | rfl | rfl | rfl | rfl | rfl | rfl | rfl | rfl | rfl | rfl | rfl
        · exact hs _ (List.mem_of_getElem? (i := 55) (by decide +kernel))
        · exact hs _ (List.mem_of_getElem? (i := 61) (by decide +kernel))
        · exact hs _ (List.mem_of_getElem? (i := 68) (by decide +kernel))
        · exact hs _ (List.mem_of_getElem? (i := 76) (by decide +kernel))
        · exact hs _ (List.mem_of_getElem? (i := 85) (by decide +kernel))
        · exact hs _ (List.mem_of_getElem? (i := 95) (by decide +kernel))
        · exact hs _ (List.mem_of_getElem? (i := 106) (by decide +kernel))
        · exact hs _ (List.mem_of_getElem? (i := 118) (by decide +kernel))
        · exact hs _ (List.mem_of_getElem? (i := 131) (by decide +kernel))
        · exact hs _ (List.mem_of_getElem? (i := 48) (by decide +kernel))
        · exact hs _ (List.mem_of_getElem? (i := 145) (by decide +kernel))
        · exact hs _ (List.mem_of_getElem? (i := 160) (by decide +kernel))
        · exact hs _ (List.mem_of_getElem? (i := 28) (by decide +kernel))
      · cases hq)
    (fun i j hi hj hij => by
      have hi : i < 13 := hi
      have hj : j < 13 := hj
      rcases (show i = 0 ∨ i = 1 ∨ i = 2 ∨ i = 3 ∨ i = 4 ∨ i = 5 ∨ i = 6 ∨ i = 7 ∨ i = 8 ∨ i = 9 ∨ i = 10 ∨ i = 11 ∨ i = 12 by omega) with rfl | rfl | rfl | rfl | rfl | rfl | rfl | rfl | rfl | rfl | rfl | rfl | rfl
      · rcases (show j = 0 ∨ j = 1 ∨ j = 2 ∨ j = 3 ∨ j = 4 ∨ j = 5 ∨ j = 6 ∨ j = 7 ∨ j = 8 ∨ j = 9 ∨ j = 10 ∨ j = 11 ∨ j = 12 by omega) with rfl | rfl | rfl | rfl | rfl | rfl | rfl | rfl | rfl | rfl | rfl | rfl | rfl
        · exact absurd rfl hij
        · exact Or.inl (hs _ (List.mem_of_getElem? (i := 66) (by decide +kernel)))
        · exact Or.inl (hs _ (List.mem_of_getElem? (i := 73) (by decide +kernel)))
        · exact Or.inl (hs _ (List.mem_of_getElem? (i := 81) (by decide +kernel)))
        · exact Or.inl (hs _ (List.mem_of_getElem? (i := 90) (by decide +kernel)))
        · exact Or.inl (hs _ (List.mem_of_getElem? (i := 100) (by decide +kernel)))
        · exact Or.inl (hs _ (List.mem_of_getElem? (i := 111) (by decide +kernel)))
        · exact Or.inl (hs _ (List.mem_of_getElem? (i := 123) (by decide +kernel)))
        · exact Or.inl (hs _ (List.mem_of_getElem? (i := 136) (by decide +kernel)))
        · exact Or.inr (hs _ (List.mem_of_getElem? (i := 59) (by decide +kernel)))
        · exact Or.inl (hs _ (List.mem_of_getElem? (i := 150) (by decide +kernel)))
        · exact Or.inl (hs _ (List.mem_of_getElem? (i := 165) (by decide +kernel)))
        · exact Or.inr (hs _ (List.mem_of_getElem? (i := 58) (by decide +kernel)))
      · rcases (show j = 0 ∨ j = 1 ∨ j = 2 ∨ j = 3 ∨ j = 4 ∨ j = 5 ∨ j = 6 ∨ j = 7 ∨ j = 8 ∨ j = 9 ∨ j = 10 ∨ j = 11 ∨ j = 12 by omega) with rfl | rfl | rfl | rfl | rfl | rfl | rfl | rfl | rfl | rfl | rfl | rfl | rfl
        · exact Or.inr (hs _ (List.mem_of_getElem? (i := 66) (by decide +kernel)))
        · exact absurd rfl hij
        · exact Or.inl (hs _ (List.mem_of_getElem? (i := 74) (by decide +kernel)))
        · exact Or.inl (hs _ (List.mem_of_getElem? (i := 82) (by decide +kernel)))
        · exact Or.inl (hs _ (List.mem_of_getElem? (i := 91) (by decide +kernel)))
        · exact Or.inl (hs _ (List.mem_of_getElem? (i := 101) (by decide +kernel)))
        · exact Or.inl (hs _ (List.mem_of_getElem? (i := 112) (by decide +kernel)))
        · exact Or.inl (hs _ (List.mem_of_getElem? (i := 124) (by decide +kernel)))
        · exact Or.inl (hs _ (List.mem_of_getElem? (i := 137) (by decide +kernel)))
        · exact Or.inr (hs _ (List.mem_of_getElem? (i := 65) (by decide +kernel)))
        · exact Or.inl (hs _ (List.mem_of_getElem? (i := 151) (by decide +kernel)))
        · exact Or.inl (hs _ (List.mem_of_getElem? (i := 166) (by decide +kernel)))
        · exact Or.inr (hs _ (List.mem_of_getElem? (i := 64) (by decide +kernel)))
      · rcases (show j = 0 ∨ j = 1 ∨ j = 2 ∨ j = 3 ∨ j = 4 ∨ j = 5 ∨ j = 6 ∨ j = 7 ∨ j = 8 ∨ j = 9 ∨ j = 10 ∨ j = 11 ∨ j = 12 by omega) with rfl | rfl | rfl | rfl | rfl | rfl | rfl | rfl | rfl | rfl | rfl | rfl | rfl
        · exact Or.inr (hs _ (List.mem_of_getElem? (i := 73) (by decide +kernel)))
        · exact Or.inr (hs _ (List.mem_of_getElem? (i := 74) (by decide +kernel)))
        · exact absurd rfl hij
        · exact Or.inl (hs _ (List.mem_of_getElem? (i := 83) (by decide +kernel)))
        · exact Or.inl (hs _ (List.mem_of_getElem? (i := 92) (by decide +kernel)))
        · exact Or.inl (hs _ (List.mem_of_getElem? (i := 102) (by decide +kernel)))
        · exact Or.inl (hs _ (List.mem_of_getElem? (i := 113) (by decide +kernel)))
        · exact Or.inl (hs _ (List.mem_of_getElem? (i := 125) (by decide +kernel)))
        · exact Or.inl (hs _ (List.mem_of_getElem? (i := 138) (by decide +kernel)))
        · exact Or.inr (hs _ (List.mem_of_getElem? (i := 72) (by decide +kernel)))
        · exact Or.inl (hs _ (List.mem_of_getElem? (i := 152) (by decide +kernel)))
        · exact Or.inl (hs _ (List.mem_of_getElem? (i := 167) (by decide +kernel)))
        · exact Or.inr (hs _ (List.mem_of_getElem? (i := 71) (by decide +kernel)))
      · rcases (show j = 0 ∨ j = 1 ∨ j = 2 ∨ j = 3 ∨ j = 4 ∨ j = 5 ∨ j = 6 ∨ j = 7 ∨ j = 8 ∨ j = 9 ∨ j = 10 ∨ j = 11 ∨ j = 12 by omega) with rfl | rfl | rfl | rfl | rfl | rfl | rfl | rfl | rfl | rfl | rfl | rfl | rfl
        · exact Or.inr (hs _ (List.mem_of_getElem? (i := 81) (by decide +kernel)))
        · exact Or.inr (hs _ (List.mem_of_getElem? (i := 82) (by decide +kernel)))
        · exact Or.inr (hs _ (List.mem_of_getElem? (i := 83) (by decide +kernel)))
        · exact absurd rfl hij
        · exact Or.inl (hs _ (List.mem_of_getElem? (i := 93) (by decide +kernel)))
        · exact Or.inl (hs _ (List.mem_of_getElem? (i := 103) (by decide +kernel)))
        · exact Or.inl (hs _ (List.mem_of_getElem? (i := 114) (by decide +kernel)))
        · exact Or.inl (hs _ (List.mem_of_getElem? (i := 126) (by decide +kernel)))
        · exact Or.inl (hs _ (List.mem_of_getElem? (i := 139) (by decide +kernel)))
        · exact Or.inr (hs _ (List.mem_of_getElem? (i := 80) (by decide +kernel)))
        · exact Or.inl (hs _ (List.mem_of_getElem? (i := 153) (by decide +kernel)))
        · exact Or.inl (hs _ (List.mem_of_getElem? (i := 168) (by decide +kernel)))
        · exact Or.inr (hs _ (List.mem_of_getElem? (i := 79) (by decide +kernel)))
      · rcases (show j = 0 ∨ j = 1 ∨ j = 2 ∨ j = 3 ∨ j = 4 ∨ j = 5 ∨ j = 6 ∨ j = 7 ∨ j = 8 ∨ j = 9 ∨ j = 10 ∨ j = 11 ∨ j = 12 by omega) with rfl | rfl | rfl | rfl | rfl | rfl | rfl | rfl | rfl | rfl | rfl | rfl | rfl
        · exact Or.inr (hs _ (List.mem_of_getElem? (i := 90) (by decide +kernel)))
        · exact Or.inr (hs _ (List.mem_of_getElem? (i := 91) (by decide +kernel)))
        · exact Or.inr (hs _ (List.mem_of_getElem? (i := 92) (by decide +kernel)))
        · exact Or.inr (hs _ (List.mem_of_getElem? (i := 93) (by decide +kernel)))
        · exact absurd rfl hij
        · exact Or.inl (hs _ (List.mem_of_getElem? (i := 104) (by decide +kernel)))
        · exact Or.inl (hs _ (List.mem_of_getElem? (i := 115) (by decide +kernel)))
        · exact Or.inl (hs _ (List.mem_of_getElem? (i := 127) (by decide +kernel)))
        · exact Or.inl (hs _ (List.mem_of_getElem? (i := 140) (by decide +kernel)))
        · exact Or.inr (hs _ (List.mem_of_getElem? (i := 89) (by decide +kernel)))
        · exact Or.inl (hs _ (List.mem_of_getElem? (i := 154) (by decide +kernel)))
        · exact Or.inl (hs _ (List.mem_of_getElem? (i := 169) (by decide +kernel)))
        · exact Or.inr (hs _ (List.mem_of_getElem? (i := 88) (by decide +kernel)))
      · rcases (show j = 0 ∨ j = 1 ∨ j = 2 ∨ j = 3 ∨ j = 4 ∨ j = 5 ∨ j = 6 ∨ j = 7 ∨ j = 8 ∨ j = 9 ∨ j = 10 ∨ j = 11 ∨ j = 12 by omega) with rfl | rfl | rfl | rfl | rfl | rfl | rfl | rfl | rfl | rfl | rfl | rfl | rfl
        · exact Or.inr (hs _ (List.mem_of_getElem? (i := 100) (by decide +kernel)))
        · exact Or.inr (hs _ (List.mem_of_getElem? (i := 101) (by decide +kernel)))
        · exact Or.inr (hs _ (List.mem_of_getElem? (i := 102) (by decide +kernel)))
        · exact Or.inr (hs _ (List.mem_of_getElem? (i := 103) (by decide +kernel)))
        · exact Or.inr (hs _ (List.mem_of_getElem? (i := 104) (by decide +kernel)))
        · exact absurd rfl hij
        · exact Or.inl (hs _ (List.mem_of_getElem? (i := 116) (by decide +kernel)))
        · exact Or.inl (hs _ (List.mem_of_getElem? (i := 128) (by decide +kernel)))
        · exact Or.inl (hs _ (List.mem_of_getElem? (i := 141) (by decide +kernel)))
        · exact Or.inr (hs _ (List.mem_of_getElem? (i := 99) (by decide +kernel)))
        · exact Or.inl (hs _ (List.mem_of_getElem? (i := 155) (by decide +kernel)))
        · exact Or.inl (hs _ (List.mem_of_getElem? (i := 170) (by decide +kernel)))
        · exact Or.inr (hs _ (List.mem_of_getElem? (i := 98) (by decide +kernel)))
      · rcases (show j = 0 ∨ j = 1 ∨ j = 2 ∨ j = 3 ∨ j = 4 ∨ j = 5 ∨ j = 6 ∨ j = 7 ∨ j = 8 ∨ j = 9 ∨ j = 10 ∨ j = 11 ∨ j = 12 by omega) with rfl | rfl | rfl | rfl | rfl | rfl | rfl | rfl | rfl | rfl | rfl | rfl | rfl
        · exact Or.inr (hs _ (List.mem_of_getElem? (i := 111) (by decide +kernel)))
        · exact Or.inr (hs _ (List.mem_of_getElem? (i := 112) (by decide +kernel)))
        · exact Or.inr (hs _ (List.mem_of_getElem? (i := 113) (by decide +kernel)))
        · exact Or.inr (hs _ (List.mem_of_getElem? (i := 114) (by decide +kernel)))
        · exact Or.inr (hs _ (List.mem_of_getElem? (i := 115) (by decide +kernel)))
        · exact Or.inr (hs _ (List.mem_of_getElem? (i := 116) (by decide +kernel)))
        · exact absurd rfl hij
        · exact Or.inl (hs _ (List.mem_of_getElem? (i := 129) (by decide +kernel)))
        · exact Or.inl (hs _ (List.mem_of_getElem? (i := 142) (by decide +kernel)))
        · exact Or.inr (hs _ (List.mem_of_getElem? (i := 110) (by decide +kernel)))
        · exact Or.inl (hs _ (List.mem_of_getElem? (i := 156) (by decide +kernel)))
        · exact Or.inl (hs _ (List.mem_of_getElem? (i := 171) (by decide +kernel)))
        · exact Or.inr (hs _ (List.mem_of_getElem? (i := 109) (by decide +kernel)))
      · rcases (show j = 0 ∨ j = 1 ∨ j = 2 ∨ j = 3 ∨ j = 4 ∨ j = 5 ∨ j = 6 ∨ j = 7 ∨ j = 8 ∨ j = 9 ∨ j = 10 ∨ j = 11 ∨ j = 12 by omega) with rfl | rfl | rfl | rfl | rfl | rfl | rfl | rfl | rfl | rfl | rfl | rfl | rfl
        · exact Or.inr (hs _ (List.mem_of_getElem? (i := 123) (by decide +kernel)))
        · exact Or.inr (hs _ (List.mem_of_getElem? (i := 124) (by decide +kernel)))
        · exact Or.inr (hs _ (List.mem_of_getElem? (i := 125) (by decide +kernel)))
        · exact Or.inr (hs _ (List.mem_of_getElem? (i := 126) (by decide +kernel)))
        · exact Or.inr (hs _ (List.mem_of_getElem? (i := 127) (by decide +kernel)))
        · exact Or.inr (hs _ (List.mem_of_getElem? (i := 128) (by decide +kernel)))
        · exact Or.inr (hs _ (List.mem_of_getElem? (i := 129) (by decide +kernel)))
        · exact absurd rfl hij
        · exact Or.inl (hs _ (List.mem_of_getElem? (i := 143) (by decide +kernel)))
        · exact Or.inr (hs _ (List.mem_of_getElem? (i := 122) (by decide +kernel)))
        · exact Or.inl (hs _ (List.mem_of_getElem? (i := 157) (by decide +kernel)))
        · exact Or.inl (hs _ (List.mem_of_getElem? (i := 172) (by decide +kernel)))
        · exact Or.inr (hs _ (List.mem_of_getElem? (i := 121) (by decide +kernel)))
      · rcases (show j = 0 ∨ j = 1 ∨ j = 2 ∨ j = 3 ∨ j = 4 ∨ j = 5 ∨ j = 6 ∨ j = 7 ∨ j = 8 ∨ j = 9 ∨ j = 10 ∨ j = 11 ∨ j = 12 by omega) with rfl | rfl | rfl | rfl | rfl | rfl | rfl | rfl | rfl | rfl | rfl | rfl | rfl
        · exact Or.inr (hs _ (List.mem_of_getElem? (i := 136) (by decide +kernel)))
        · exact Or.inr (hs _ (List.mem_of_getElem? (i := 137) (by decide +kernel)))
        · exact Or.inr (hs _ (List.mem_of_getElem? (i := 138) (by decide +kernel)))
        · exact Or.inr (hs _ (List.mem_of_getElem? (i := 139) (by decide +kernel)))
        · exact Or.inr (hs _ (List.mem_of_getElem? (i := 140) (by decide +kernel)))
        · exact Or.inr (hs _ (List.mem_of_getElem? (i := 141) (by decide +kernel)))
        · exact Or.inr (hs _ (List.mem_of_getElem? (i := 142) (by decide +kernel)))
        · exact Or.inr (hs _ (List.mem_of_getElem? (i := 143) (by decide +kernel)))
        · exact absurd rfl hij
        · exact Or.inr (hs _ (List.mem_of_getElem? (i := 135) (by decide +kernel)))
        · exact Or.inl (hs _ (List.mem_of_getElem? (i := 158) (by decide +kernel)))
        · exact Or.inl (hs _ (List.mem_of_getElem? (i := 173) (by decide +kernel)))
        · exact Or.inr (hs _ (List.mem_of_getElem? (i := 134) (by decide +kernel)))
      · rcases (show j = 0 ∨ j = 1 ∨ j = 2 ∨ j = 3 ∨ j = 4 ∨ j = 5 ∨ j = 6 ∨ j = 7 ∨ j = 8 ∨ j = 9 ∨ j = 10 ∨ j = 11 ∨ j = 12 by omega) with rfl | rfl | rfl | rfl | rfl | rfl | rfl | rfl | rfl | rfl | rfl | rfl | rfl
        · exact Or.inl (hs _ (List.mem_of_getElem? (i := 59) (by decide +kernel)))
        · exact Or.inl (hs _ (List.mem_of_getElem? (i := 65) (by decide +kernel)))
        · exact Or.inl (hs _ (List.mem_of_getElem? (i := 72) (by decide +kernel)))
        · exact Or.inl (hs _ (List.mem_of_getElem? (i := 80) (by decide +kernel)))
        · exact Or.inl (hs _ (List.mem_of_getElem? (i := 89) (by decide +kernel)))
        · exact Or.inl (hs _ (List.mem_of_getElem? (i := 99) (by decide +kernel)))
        · exact Or.inl (hs _ (List.mem_of_getElem? (i := 110) (by decide +kernel)))
        · exact Or.inl (hs _ (List.mem_of_getElem? (i := 122) (by decide +kernel)))
        · exact Or.inl (hs _ (List.mem_of_getElem? (i := 135) (by decide +kernel)))
        · exact absurd rfl hij
        · exact Or.inl (hs _ (List.mem_of_getElem? (i := 149) (by decide +kernel)))
        · exact Or.inl (hs _ (List.mem_of_getElem? (i := 164) (by decide +kernel)))
        · exact Or.inr (hs _ (List.mem_of_getElem? (i := 51) (by decide +kernel)))
      · rcases (show j = 0 ∨ j = 1 ∨ j = 2 ∨ j = 3 ∨ j = 4 ∨ j = 5 ∨ j = 6 ∨ j = 7 ∨ j = 8 ∨ j = 9 ∨ j = 10 ∨ j = 11 ∨ j = 12 by omega) with rfl | rfl | rfl | rfl | rfl | rfl | rfl | rfl | rfl | rfl | rfl | rfl | rfl
        · exact Or.inr (hs _ (List.mem_of_getElem? (i := 150) (by decide +kernel)))
        · exact Or.inr (hs _ (List.mem_of_getElem? (i := 151) (by decide +kernel)))
        · exact Or.inr (hs _ (List.mem_of_getElem? (i := 152) (by decide +kernel)))
        · exact Or.inr (hs _ (List.mem_of_getElem? (i := 153) (by decide +kernel)))
        · exact Or.inr (hs _ (List.mem_of_getElem? (i := 154) (by decide +kernel)))
        · exact Or.inr (hs _ (List.mem_of_getElem? (i := 155) (by decide +kernel)))
        · exact Or.inr (hs _ (List.mem_of_getElem? (i := 156) (by decide +kernel)))
        · exact Or.inr (hs _ (List.mem_of_getElem? (i := 157) (by decide +kernel)))
        · exact Or.inr (hs _ (List.mem_of_getElem? (i := 158) (by decide +kernel)))
        · exact Or.inr (hs _ (List.mem_of_getElem? (i := 149) (by decide +kernel)))
        · exact absurd rfl hij
        · exact Or.inl (hs _ (List.mem_of_getElem? (i := 174) (by decide +kernel)))
        · exact Or.inr (hs _ (List.mem_of_getElem? (i := 148) (by decide +kernel)))
      · rcases (show j = 0 ∨ j = 1 ∨ j = 2 ∨ j = 3 ∨ j = 4 ∨ j = 5 ∨ j = 6 ∨ j = 7 ∨ j = 8 ∨ j = 9 ∨ j = 10 ∨ j = 11 ∨ j = 12 by omega) with rfl | rfl | rfl | rfl | rfl | rfl | rfl | rfl | rfl | rfl | rfl | rfl | rfl
        · exact Or.inr (hs _ (List.mem_of_getElem? (i := 165) (by decide +kernel)))
        · exact Or.inr (hs _ (List.mem_of_getElem? (i := 166) (by decide +kernel)))
        · exact Or.inr (hs _ (List.mem_of_getElem? (i := 167) (by decide +kernel)))
        · exact Or.inr (hs _ (List.mem_of_getElem? (i := 168) (by decide +kernel)))
        · exact Or.inr (hs _ (List.mem_of_getElem? (i := 169) (by decide +kernel)))
        · exact Or.inr (hs _ (List.mem_of_getElem? (i := 170) (by decide +kernel)))
        · exact Or.inr (hs _ (List.mem_of_getElem? (i := 171) (by decide +kernel)))
        · exact Or.inr (hs _ (List.mem_of_getElem? (i := 172) (by decide +kernel)))
        · exact Or.inr (hs _ (List.mem_of_getElem? (i := 173) (by decide +kernel)))
        · exact Or.inr (hs _ (List.mem_of_getElem? (i := 164) (by decide +kernel)))
        · exact Or.inr (hs _ (List.mem_of_getElem? (i := 174) (by decide +kernel)))
        · exact absurd rfl hij
        · exact Or.inr (hs _ (List.mem_of_getElem? (i := 163) (by decide +kernel)))
      · rcases (show j = 0 ∨ j = 1 ∨ j = 2 ∨ j = 3 ∨ j = 4 ∨ j = 5 ∨ j = 6 ∨ j = 7 ∨ j = 8 ∨ j = 9 ∨ j = 10 ∨ j = 11 ∨ j = 12 by omega) with rfl | rfl | rfl | rfl | rfl | rfl | rfl | rfl | rfl | rfl | rfl | rfl | rfl
        · exact Or.inl (hs _ (List.mem_of_getElem? (i := 58) (by decide +kernel)))
        · exact Or.inl (hs _ (List.mem_of_getElem? (i := 64) (by decide +kernel)))
        · exact Or.inl (hs _ (List.mem_of_getElem? (i := 71) (by decide +kernel)))
        · exact Or.inl (hs _ (List.mem_of_getElem? (i := 79) (by decide +kernel)))
        · exact Or.inl (hs _ (List.mem_of_getElem? (i := 88) (by decide +kernel)))
        · exact Or.inl (hs _ (List.mem_of_getElem? (i := 98) (by decide +kernel)))
        · exact Or.inl (hs _ (List.mem_of_getElem? (i := 109) (by decide +kernel)))
        · exact Or.inl (hs _ (List.mem_of_getElem? (i := 121) (by decide +kernel)))
        · exact Or.inl (hs _ (List.mem_of_getElem? (i := 134) (by decide +kernel)))
        · exact Or.inl (hs _ (List.mem_of_getElem? (i := 51) (by decide +kernel)))
        · exact Or.inl (hs _ (List.mem_of_getElem? (i := 148) (by decide +kernel)))
        · exact Or.inl (hs _ (List.mem_of_getElem? (i := 163) (by decide +kernel)))
        · exact absurd rfl hij) hA
  have gw : ∀ i, ∃ q : Nat × Nat, i < 13 → (Term.string xCmd (xWi.getD i 0)).eval args s none [] s = some (.ref q.1) ∧ XStr s q.1 q.2 (xWord.getD i []) := by
    intro i
    by_cases hi : i < 13
    · rcases (show i = 0 ∨ i = 1 ∨ i = 2 ∨ i = 3 ∨ i = 4 ∨ i = 5 ∨ i = 6 ∨ i = 7 ∨ i = 8 ∨ i = 9 ∨ i = 10 ∨ i = 11 ∨ i = 12 by omega) with rfl | rfl | rfl | rfl | rfl | rfl | rfl | rfl | rfl | rfl | rfl | rfl | rfl
      · obtain ⟨aK, aV, e1, e2⟩ := xl_29 hs hts
        exact ⟨(aK, aV), fun _ => ⟨e1.2, e2⟩⟩
      · obtain ⟨aK, aV, e1, e2⟩ := xl_31 hs hts
        exact ⟨(aK, aV), fun _ => ⟨e1.2, e2⟩⟩
      · obtain ⟨aK, aV, e1, e2⟩ := xl_33 hs hts
        exact ⟨(aK, aV), fun _ => ⟨e1.2, e2⟩⟩
      · obtain ⟨aK, aV, e1, e2⟩ := xl_35 hs hts
        exact ⟨(aK, aV), fun _ => ⟨e1.2, e2⟩⟩
      · obtain ⟨aK, aV, e1, e2⟩ := xl_37 hs hts
        exact ⟨(aK, aV), fun _ => ⟨e1.2, e2⟩⟩
      · obtain ⟨aK, aV, e1, e2⟩ := xl_38 hs hts
        exact ⟨(aK, aV), fun _ => ⟨e1.2, e2⟩⟩
      · obtain ⟨aK, aV, e1, e2⟩ := xl_40 hs hts
        exact ⟨(aK, aV), fun _ => ⟨e1.2, e2⟩⟩
      · obtain ⟨aK, aV, e1, e2⟩ := xl_42 hs hts
        exact ⟨(aK, aV), fun _ => ⟨e1.2, e2⟩⟩
      · obtain ⟨aK, aV, e1, e2⟩ := xl_44 hs hts
        exact ⟨(aK, aV), fun _ => ⟨e1.2, e2⟩⟩
      · obtain ⟨aK, aV, e1, e2⟩ := xl_27 hs hts
        exact ⟨(aK, aV), fun _ => ⟨e1.2, e2⟩⟩
      · obtain ⟨aK, aV, e1, e2⟩ := xl_46 hs hts
        exact ⟨(aK, aV), fun _ => ⟨e1.2, e2⟩⟩
      · obtain ⟨aK, aV, e1, e2⟩ := xl_47 hs hts
        exact ⟨(aK, aV), fun _ => ⟨e1.2, e2⟩⟩
      · obtain ⟨aK, aV, e1, e2⟩ := xl_25 hs hts
        exact ⟨(aK, aV), fun _ => ⟨e1.2, e2⟩⟩
    · exact ⟨(0, 0), fun h => absurd h hi⟩
  obtain ⟨fw, gw⟩ := Classical.axiomOfChoice gw
  have gp : ∀ i, ∃ q : Nat × Nat, i < 13 → (Term.string xCmd (xPi.getD i 0)).eval args s none [] s = some (.ref q.1) ∧ XStr s q.1 q.2 (xPlace.getD i []) := by
    intro i
    by_cases hi : i < 13
    · rcases (show i = 0 ∨ i = 1 ∨ i = 2 ∨ i = 3 ∨ i = 4 ∨ i = 5 ∨ i = 6 ∨ i = 7 ∨ i = 8 ∨ i = 9 ∨ i = 10 ∨ i = 11 ∨ i = 12 by omega) with rfl | rfl | rfl | rfl | rfl | rfl | rfl | rfl | rfl | rfl | rfl | rfl | rfl
      · obtain ⟨aK, aV, e1, e2⟩ := xl_30 hs hts
        exact ⟨(aK, aV), fun _ => ⟨e1.2, e2⟩⟩
      · obtain ⟨aK, aV, e1, e2⟩ := xl_32 hs hts
        exact ⟨(aK, aV), fun _ => ⟨e1.2, e2⟩⟩
      · obtain ⟨aK, aV, e1, e2⟩ := xl_34 hs hts
        exact ⟨(aK, aV), fun _ => ⟨e1.2, e2⟩⟩
      · obtain ⟨aK, aV, e1, e2⟩ := xl_36 hs hts
        exact ⟨(aK, aV), fun _ => ⟨e1.2, e2⟩⟩
      · obtain ⟨aK, aV, e1, e2⟩ := xl_28 hs hts
        exact ⟨(aK, aV), fun _ => ⟨e1.2, e2⟩⟩
      · obtain ⟨aK, aV, e1, e2⟩ := xl_39 hs hts
        exact ⟨(aK, aV), fun _ => ⟨e1.2, e2⟩⟩
      · obtain ⟨aK, aV, e1, e2⟩ := xl_41 hs hts
        exact ⟨(aK, aV), fun _ => ⟨e1.2, e2⟩⟩
      · obtain ⟨aK, aV, e1, e2⟩ := xl_43 hs hts
        exact ⟨(aK, aV), fun _ => ⟨e1.2, e2⟩⟩
      · obtain ⟨aK, aV, e1, e2⟩ := xl_45 hs hts
        exact ⟨(aK, aV), fun _ => ⟨e1.2, e2⟩⟩
      · obtain ⟨aK, aV, e1, e2⟩ := xl_28 hs hts
        exact ⟨(aK, aV), fun _ => ⟨e1.2, e2⟩⟩
      · obtain ⟨aK, aV, e1, e2⟩ := xl_28 hs hts
        exact ⟨(aK, aV), fun _ => ⟨e1.2, e2⟩⟩
      · obtain ⟨aK, aV, e1, e2⟩ := xl_48 hs hts
        exact ⟨(aK, aV), fun _ => ⟨e1.2, e2⟩⟩
      · obtain ⟨aK, aV, e1, e2⟩ := xl_26 hs hts
        exact ⟨(aK, aV), fun _ => ⟨e1.2, e2⟩⟩
    · exact ⟨(0, 0), fun h => absurd h hi⟩
  obtain ⟨fp, gp⟩ := Classical.axiomOfChoice gp
  have ow := va_Efof (N := 13) (E := xCmd) (d0 := xCmdD) (nm := xEnm) (o := xCmd) (n := "word") (d := "Ljava/lang/String;") (tm := fun i => .string xCmd (xWi.getD i 0)) (v := fun i => .ref (fw i).1) (args := args) (s := s) (A := xA00 s) h2
    (fun i hi => by
      rcases (show i = 0 ∨ i = 1 ∨ i = 2 ∨ i = 3 ∨ i = 4 ∨ i = 5 ∨ i = 6 ∨ i = 7 ∨ i = 8 ∨ i = 9 ∨ i = 10 ∨ i = 11 ∨ i = 12 by omega) with rfl | rfl | rfl | rfl | rfl | rfl | rfl | rfl | rfl | rfl | rfl | rfl | rfl
      · exact hs _ (List.mem_of_getElem? (i := 56) (by decide +kernel))
      · exact hs _ (List.mem_of_getElem? (i := 62) (by decide +kernel))
      · exact hs _ (List.mem_of_getElem? (i := 69) (by decide +kernel))
      · exact hs _ (List.mem_of_getElem? (i := 77) (by decide +kernel))
      · exact hs _ (List.mem_of_getElem? (i := 86) (by decide +kernel))
      · exact hs _ (List.mem_of_getElem? (i := 96) (by decide +kernel))
      · exact hs _ (List.mem_of_getElem? (i := 107) (by decide +kernel))
      · exact hs _ (List.mem_of_getElem? (i := 119) (by decide +kernel))
      · exact hs _ (List.mem_of_getElem? (i := 132) (by decide +kernel))
      · exact hs _ (List.mem_of_getElem? (i := 49) (by decide +kernel))
      · exact hs _ (List.mem_of_getElem? (i := 146) (by decide +kernel))
      · exact hs _ (List.mem_of_getElem? (i := 161) (by decide +kernel))
      · exact hs _ (List.mem_of_getElem? (i := 29) (by decide +kernel))) (fun i hi => (gw i hi).1) hA
  have op := va_Efof (N := 13) (E := xCmd) (d0 := xCmdD) (nm := xEnm) (o := xCmd) (n := "places") (d := "Ljava/lang/String;") (tm := fun i => .string xCmd (xPi.getD i 0)) (v := fun i => .ref (fp i).1) (args := args) (s := s) (A := xA00 s) h2
    (fun i hi => by
      rcases (show i = 0 ∨ i = 1 ∨ i = 2 ∨ i = 3 ∨ i = 4 ∨ i = 5 ∨ i = 6 ∨ i = 7 ∨ i = 8 ∨ i = 9 ∨ i = 10 ∨ i = 11 ∨ i = 12 by omega) with rfl | rfl | rfl | rfl | rfl | rfl | rfl | rfl | rfl | rfl | rfl | rfl | rfl
      · exact hs _ (List.mem_of_getElem? (i := 57) (by decide +kernel))
      · exact hs _ (List.mem_of_getElem? (i := 63) (by decide +kernel))
      · exact hs _ (List.mem_of_getElem? (i := 70) (by decide +kernel))
      · exact hs _ (List.mem_of_getElem? (i := 78) (by decide +kernel))
      · exact hs _ (List.mem_of_getElem? (i := 87) (by decide +kernel))
      · exact hs _ (List.mem_of_getElem? (i := 97) (by decide +kernel))
      · exact hs _ (List.mem_of_getElem? (i := 108) (by decide +kernel))
      · exact hs _ (List.mem_of_getElem? (i := 120) (by decide +kernel))
      · exact hs _ (List.mem_of_getElem? (i := 133) (by decide +kernel))
      · exact hs _ (List.mem_of_getElem? (i := 50) (by decide +kernel))
      · exact hs _ (List.mem_of_getElem? (i := 147) (by decide +kernel))
      · exact hs _ (List.mem_of_getElem? (i := 162) (by decide +kernel))
      · exact hs _ (List.mem_of_getElem? (i := 30) (by decide +kernel))) (fun i hi => (gp i hi).1) hA
  obtain ⟨tc, ec, vc⟩ := va_Tof (tm := .static "RooftopCats$Script" "COMMANDS" "[LRooftopCats$Command;") (ty := .object xCmd) (N := 13) (f := fun j => .ref (ad j)) (args := args) (s := s) (A := xA00 s) (by decide) (hs _ (List.mem_of_getElem? (i := 11) (by decide +kernel))) (va_eqv (hs (Cond.eq _ (.int 13)) (List.mem_of_getElem? (i := 12) (by decide +kernel))) rfl) (fun i hi => by
      rcases (show i = 0 ∨ i = 1 ∨ i = 2 ∨ i = 3 ∨ i = 4 ∨ i = 5 ∨ i = 6 ∨ i = 7 ∨ i = 8 ∨ i = 9 ∨ i = 10 ∨ i = 11 ∨ i = 12 by omega) with rfl | rfl | rfl | rfl | rfl | rfl | rfl | rfl | rfl | rfl | rfl | rfl | rfl
      · exact va_eqv (hs _ (List.mem_of_getElem? (i := 14) (by decide +kernel))) (h2 0 (by decide))
      · exact va_eqv (hs _ (List.mem_of_getElem? (i := 15) (by decide +kernel))) (h2 1 (by decide))
      · exact va_eqv (hs _ (List.mem_of_getElem? (i := 16) (by decide +kernel))) (h2 2 (by decide))
      · exact va_eqv (hs _ (List.mem_of_getElem? (i := 17) (by decide +kernel))) (h2 3 (by decide))
      · exact va_eqv (hs _ (List.mem_of_getElem? (i := 18) (by decide +kernel))) (h2 4 (by decide))
      · exact va_eqv (hs _ (List.mem_of_getElem? (i := 19) (by decide +kernel))) (h2 5 (by decide))
      · exact va_eqv (hs _ (List.mem_of_getElem? (i := 20) (by decide +kernel))) (h2 6 (by decide))
      · exact va_eqv (hs _ (List.mem_of_getElem? (i := 21) (by decide +kernel))) (h2 7 (by decide))
      · exact va_eqv (hs _ (List.mem_of_getElem? (i := 22) (by decide +kernel))) (h2 8 (by decide))
      · exact va_eqv (hs _ (List.mem_of_getElem? (i := 23) (by decide +kernel))) (h2 9 (by decide))
      · exact va_eqv (hs _ (List.mem_of_getElem? (i := 24) (by decide +kernel))) (h2 10 (by decide))
      · exact va_eqv (hs _ (List.mem_of_getElem? (i := 25) (by decide +kernel))) (h2 11 (by decide))
      · exact va_eqv (hs _ (List.mem_of_getElem? (i := 26) (by decide +kernel))) (h2 12 (by decide))) hA
  obtain ⟨tw, ew, vw⟩ := va_Tof (tm := .static "RooftopCats$1" "$SwitchMap$RooftopCats$Command" "[I") (ty := .int) (N := 13) (f := fun j => .int (xSw.getD j 0)) (args := args) (s := s) (A := xA00 s) (by decide) (hs _ (List.mem_of_getElem? (i := 32) (by decide +kernel))) (va_eqv (hs (Cond.eq _ (.int 13)) (List.mem_of_getElem? (i := 33) (by decide +kernel))) rfl) (fun i hi => by
      rcases (show i = 0 ∨ i = 1 ∨ i = 2 ∨ i = 3 ∨ i = 4 ∨ i = 5 ∨ i = 6 ∨ i = 7 ∨ i = 8 ∨ i = 9 ∨ i = 10 ∨ i = 11 ∨ i = 12 by omega) with rfl | rfl | rfl | rfl | rfl | rfl | rfl | rfl | rfl | rfl | rfl | rfl | rfl
      · exact va_eqv (hs (Cond.eq _ (.int 1)) (List.mem_of_getElem? (i := 34) (by decide +kernel))) rfl
      · exact va_eqv (hs (Cond.eq _ (.int 2)) (List.mem_of_getElem? (i := 35) (by decide +kernel))) rfl
      · exact va_eqv (hs (Cond.eq _ (.int 3)) (List.mem_of_getElem? (i := 36) (by decide +kernel))) rfl
      · exact va_eqv (hs (Cond.eq _ (.int 4)) (List.mem_of_getElem? (i := 37) (by decide +kernel))) rfl
      · exact va_eqv (hs (Cond.eq _ (.int 5)) (List.mem_of_getElem? (i := 38) (by decide +kernel))) rfl
      · exact va_eqv (hs (Cond.eq _ (.int 6)) (List.mem_of_getElem? (i := 39) (by decide +kernel))) rfl
      · exact va_eqv (hs (Cond.eq _ (.int 7)) (List.mem_of_getElem? (i := 40) (by decide +kernel))) rfl
      · exact va_eqv (hs (Cond.eq _ (.int 8)) (List.mem_of_getElem? (i := 41) (by decide +kernel))) rfl
      · exact va_eqv (hs (Cond.eq _ (.int 9)) (List.mem_of_getElem? (i := 42) (by decide +kernel))) rfl
      · exact va_eqv (hs (Cond.eq _ (.int 10)) (List.mem_of_getElem? (i := 43) (by decide +kernel))) rfl
      · exact va_eqv (hs (Cond.eq _ (.int 11)) (List.mem_of_getElem? (i := 44) (by decide +kernel))) rfl
      · exact va_eqv (hs (Cond.eq _ (.int 12)) (List.mem_of_getElem? (i := 45) (by decide +kernel))) rfl
      · exact va_eqv (hs (Cond.eq _ (.int 0)) (List.mem_of_getElem? (i := 46) (by decide +kernel))) rfl) hA
  refine ⟨(ad, fun i => (fw i).1, fun i => (fp i).1, fun i => (fw i).2, fun i => (fp i).2, tc, tw), fun k hk => ⟨(h1.1 k hk).2.1, ?_, ow k hk, op k hk, (gw k hk).2, (gp k hk).2⟩, fun i j hi hj e => h1.2 i j hi hj e, va_Zof (hts _ (List.mem_of_getElem? (i := 573) (by decide +kernel))) (hts _ (List.mem_of_getElem? (i := 120) (by decide +kernel))) ec hA, vc, va_Zof (hts _ (List.mem_of_getElem? (i := 607) (by decide +kernel))) (hts _ (List.mem_of_getElem? (i := 137) (by decide +kernel))) ew hA, vw, (h1.1 12 (by decide)).1, (h1.1 9 (by decide)).1⟩
  have h9 := (h1.1 k hk).2.2 _ List.mem_cons_self
  rcases (show k = 0 ∨ k = 1 ∨ k = 2 ∨ k = 3 ∨ k = 4 ∨ k = 5 ∨ k = 6 ∨ k = 7 ∨ k = 8 ∨ k = 9 ∨ k = 10 ∨ k = 11 ∨ k = 12 by omega) with rfl | rfl | rfl | rfl | rfl | rfl | rfl | rfl | rfl | rfl | rfl | rfl | rfl <;> exact h9
