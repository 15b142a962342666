/-! THE HEAP BEHIND THE TWO CONSTRUCTORS -/
def cs0 : List Nat := [0, 3, 11, 15, 21, 25, 31, 41, 61, 103]
def okI (ins : Instr) : Bool := match ins with
  | .iaload => false
  | .arraylength => false
  | _ => true
theorem cs_ok : cs0.all (fun y => (cdT y).all (fun e => okI e.2.1 && (match xcl (mC y) e.2.1 with | some q => cs0.contains q.1 | none => true))) = true := by decide +kernel
theorem stp_E {own : Nat} {ctor : Bool} {d : Nat} {E E' : XE} {pc : Nat} {ins : Instr} {ls st : List Value} {h : XH} (hi : okI ins = true) : stp own ctor d E pc ins ls st h = stp own ctor d E' pc ins ls st h := by
  cases ins <;> first | rfl | cases hi
theorem dec_mem {y pc : Nat} {ins : Instr} {len : Nat} (h : dec y pc = some (ins, len)) : ∃ e ∈ cdT y, e.2.1 = ins := by
  unfold dec at h
  rw [Option.map_eq_some_iff] at h
  obtain ⟨e, he, h2⟩ := h
  exact ⟨e, List.mem_of_find?_eq_some he, by rw [h2]⟩
theorem ev_E {E E' : XE} : ∀ (n : Nat) {d y pc : Nat} {ls st : List Value} {h : XH}, cs0.contains y = true → ev E n d y pc ls st h = ev E' n d y pc ls st h
  | 0, _, _, _, _, _, _, _ => rfl
  | n + 1, d, y, pc, ls, st, h, hy => by
    rw [ev, ev]
    cases hdec : dec y pc with
    | none => rfl
    | some q =>
      obtain ⟨ins, len⟩ := q
      simp only
      obtain ⟨e, he, hei⟩ := dec_mem hdec
      have h1 := List.all_eq_true.mp (List.all_eq_true.mp cs_ok y (List.contains_iff_mem.mp hy)) e he
      rw [hei, Bool.and_eq_true] at h1
      obtain ⟨h2, h3⟩ := h1
      cases hcl : xcl (mC y) ins with
      | none =>
        simp only
        rw [stp_E (E' := E') h2]
        cases hs : stp (mC y) (mIni y) d E' pc ins ls st h with
        | none => rfl
        | some q3 =>
          obtain ⟨pc', ls', st', h1⟩ := q3
          simp only
          rw [ev_E n hy]
      | some q2 =>
        obtain ⟨y', o⟩ := q2
        rw [hcl] at h3
        simp only at h3 ⊢
        cases d with
        | zero => rfl
        | succ d' =>
          simp only
          rw [ev_E (E' := E') n (d := d') (y := y') h3]
          cases ev E' n d' y' 0 (xent (st.take (mA y' + o)).reverse (mL y')) [] h with
          | none => rfl
          | some q4 =>
            obtain ⟨r1, h1⟩ := q4
            simp only
            rw [ev_E n hy]
def runB : Option (Option Value × XH) := ev (0, fun _ => 0) 6000 190 61 0 (xent [.ref 0] (mL 61)) [] (xmk h00 [(8, 8)])
def hB : XH := match runB with | some x => x.2 | none => h00
theorem runB_some : (match runB with | some (none, _) => true | _ => false) = true := by decide +kernel
theorem runB_eq : runB = some (none, hB) := by
  have h := runB_some
  unfold hB
  split at h
  · next hx he => rw [he]
  · cases h
theorem hB_len : hB.1.length = 157 := by decide +kernel
def runD : Option (Option Value × XH) := ev (0, fun _ => 0) 6000 190 103 0 (xent [.ref 157] (mL 103)) [] (xmk hB [(9, 34)])
def hD : XH := match runD with | some x => x.2 | none => h00
theorem runD_some : (match runD with | some (none, _) => true | _ => false) = true := by decide +kernel
theorem runD_eq : runD = some (none, hD) := by
  have h := runD_some
  unfold hD
  split at h
  · next hx he => rw [he]
  · cases h
def SH0 : List (Nat × Nat) := [(8, 8), (2, 5), (5, 3), (17, 6), (10, 7), (10, 7), (10, 7), (10, 7), (10, 7), (10, 7), (5, 3), (17, 6), (10, 3), (10, 3), (10, 3), (10, 3), (10, 3), (10, 3), (5, 3), (17, 8), (10, 8), (10, 8), (10, 8), (10, 8), (10, 8), (10, 8), (10, 8), (10, 8), (10, 6), (15, 2), (6, 2), (10, 160), (6, 2), (10, 160), (13, 2), (2, 5), (5, 3), (17, 6), (10, 7), (10, 7), (10, 7), (10, 7), (10, 7), (10, 7), (5, 3), (17, 6), (10, 3), (10, 3), (10, 3), (10, 3), (10, 3), (10, 3), (5, 3), (17, 8), (10, 8), (10, 8), (10, 8), (10, 8), (10, 8), (10, 8), (10, 8), (10, 8), (10, 6), (15, 2), (6, 2), (10, 160), (6, 2), (10, 160), (2, 5), (5, 3), (17, 6), (10, 7), (10, 7), (10, 7), (10, 7), (10, 7), (10, 7), (5, 3), (17, 6), (10, 3), (10, 3), (10, 3), (10, 3), (10, 3), (10, 3), (5, 3), (17, 8), (10, 8), (10, 8), (10, 8), (10, 8), (10, 8), (10, 8), (10, 8), (10, 8), (10, 6), (15, 2), (6, 2), (10, 160), (6, 2), (10, 160), (12, 2), (14, 2), (4, 4), (10, 54), (10, 54), (10, 54), (4, 4), (10, 54), (10, 54), (10, 54), (7, 10), (10, 6), (10, 6), (10, 8), (10, 8), (10, 8), (3, 7), (10, 4), (10, 4), (16, 5), (7, 10), (10, 6), (10, 6), (10, 8), (10, 8), (10, 8), (7, 10), (10, 6), (10, 6), (10, 8), (10, 8), (10, 8), (7, 10), (10, 6), (10, 6), (10, 8), (10, 8), (10, 8), (7, 10), (10, 6), (10, 6), (10, 8), (10, 8), (10, 8), (7, 10), (10, 6), (10, 6), (10, 8), (10, 8), (10, 8), (1, 8), (10, 6), (10, 6), (11, 6), (11, 6), (0, 2), (9, 34), (10, 461), (10, 922), (12, 2), (10, 6), (10, 8), (10, 8), (10, 8), (10, 6), (10, 6), (10, 6), (12, 6), (10, 8), (10, 8), (11, 6), (11, 6), (10, 4), (10, 4)]
theorem hD_sh : hD.1 = SH0 := by decide +kernel
theorem xh_eta (x : XH) : x = (x.1, x.2.1, x.2.2.1, x.2.2.2) := rfl
theorem hD_ex : ∃ q : (Nat → Nat → Int32) × (Nat → Nat → Int64) × (Nat → Nat → Option Nat), hD = (SH0, q.1, q.2.1, q.2.2) := by
  refine ⟨hD.2, ?_⟩
  rw [← hD_sh]
noncomputable def hq0 : (Nat → Nat → Int32) × (Nat → Nat → Int64) × (Nat → Nat → Option Nat) := Classical.choose hD_ex
noncomputable def I0 : Nat → Nat → Int32 := hq0.1
noncomputable def J0 : Nat → Nat → Int64 := hq0.2.1
noncomputable def P0 : Nat → Nat → Option Nat := hq0.2.2
noncomputable def hp (I : Nat → Nat → Int32) (J : Nat → Nat → Int64) : XH := (SH0, I, J, P0)
theorem hD_eq : hD = hp I0 J0 := Classical.choose_spec hD_ex
theorem P0_def : P0 = hD.2.2.2 := by rw [hD_eq, hp]
theorem I0_def : I0 = hD.2.1 := by rw [hD_eq, hp]
theorem J0_def : J0 = hD.2.2.1 := by rw [hD_eq, hp]
def PL : List (Nat × Nat × Nat) := [(0, 0, 1), (0, 1, 34), (0, 2, 101), (0, 3, 102), (0, 4, 111), (0, 5, 117), (0, 6, 151), (0, 7, 156), (1, 0, 2), (1, 1, 10), (1, 2, 18), (1, 3, 28), (1, 4, 29), (2, 0, 3), (3, 0, 4), (3, 1, 5), (3, 2, 6), (3, 3, 7), (3, 4, 8), (3, 5, 9), (10, 0, 11), (11, 0, 12), (11, 1, 13), (11, 2, 14), (11, 3, 15), (11, 4, 16), (11, 5, 17), (18, 0, 19), (19, 0, 20), (19, 1, 21), (19, 2, 22), (19, 3, 23), (19, 4, 24), (19, 5, 25), (19, 6, 26), (19, 7, 27), (29, 0, 30), (29, 1, 32), (30, 0, 31), (32, 0, 33), (34, 0, 35), (34, 1, 68), (35, 0, 36), (35, 1, 44), (35, 2, 52), (35, 3, 62), (35, 4, 63), (36, 0, 37), (37, 0, 38), (37, 1, 39), (37, 2, 40), (37, 3, 41), (37, 4, 42), (37, 5, 43), (44, 0, 45), (45, 0, 46), (45, 1, 47), (45, 2, 48), (45, 3, 49), (45, 4, 50), (45, 5, 51), (52, 0, 53), (53, 0, 54), (53, 1, 55), (53, 2, 56), (53, 3, 57), (53, 4, 58), (53, 5, 59), (53, 6, 60), (53, 7, 61), (63, 0, 64), (63, 1, 66), (64, 0, 65), (66, 0, 67), (68, 0, 69), (68, 1, 77), (68, 2, 85), (68, 3, 95), (68, 4, 96), (69, 0, 70), (70, 0, 71), (70, 1, 72), (70, 2, 73), (70, 3, 74), (70, 4, 75), (70, 5, 76), (77, 0, 78), (78, 0, 79), (78, 1, 80), (78, 2, 81), (78, 3, 82), (78, 4, 83), (78, 5, 84), (85, 0, 86), (86, 0, 87), (86, 1, 88), (86, 2, 89), (86, 3, 90), (86, 4, 91), (86, 5, 92), (86, 6, 93), (86, 7, 94), (96, 0, 97), (96, 1, 99), (97, 0, 98), (99, 0, 100), (102, 0, 103), (102, 1, 107), (103, 0, 104), (103, 1, 105), (103, 2, 106), (107, 0, 108), (107, 1, 109), (107, 2, 110), (111, 0, 1), (111, 1, 112), (111, 2, 113), (111, 3, 114), (111, 4, 115), (111, 5, 116), (117, 0, 1), (117, 1, 120), (117, 2, 118), (117, 3, 119), (120, 0, 121), (120, 1, 127), (120, 2, 133), (120, 3, 139), (120, 4, 145), (121, 0, 1), (121, 1, 122), (121, 2, 123), (121, 3, 124), (121, 4, 125), (121, 5, 126), (127, 0, 1), (127, 1, 128), (127, 2, 129), (127, 3, 130), (127, 4, 131), (127, 5, 132), (133, 0, 1), (133, 1, 134), (133, 2, 135), (133, 3, 136), (133, 4, 137), (133, 5, 138), (139, 0, 1), (139, 1, 140), (139, 2, 141), (139, 3, 142), (139, 4, 143), (139, 5, 144), (145, 0, 1), (145, 1, 146), (145, 2, 147), (145, 3, 148), (145, 4, 149), (145, 5, 150), (151, 0, 18), (151, 1, 152), (151, 2, 153), (151, 6, 154), (151, 7, 155), (157, 0, 158), (157, 1, 159), (157, 2, 160), (157, 12, 161), (157, 16, 162), (157, 17, 163), (157, 18, 164), (157, 19, 165), (157, 20, 166), (157, 21, 167), (157, 22, 168), (157, 24, 169), (157, 25, 170), (157, 29, 171), (157, 30, 172), (157, 31, 173), (157, 32, 174)]
theorem P0_all0 : PL.all (fun e => decide (hD.2.2.2 e.1 e.2.1 = some e.2.2)) = true := by decide +kernel
theorem P0_all : PL.all (fun e => decide (P0 e.1 e.2.1 = some e.2.2)) = true := by
  rw [P0_def]
  exact P0_all0
theorem P0_0_0 : P0 0 0 = some 1 := of_decide_eq_true (List.all_eq_true.mp P0_all (0, 0, 1) (List.mem_of_getElem? (i := 0) rfl))
theorem P0_0_1 : P0 0 1 = some 34 := of_decide_eq_true (List.all_eq_true.mp P0_all (0, 1, 34) (List.mem_of_getElem? (i := 1) rfl))
theorem P0_0_2 : P0 0 2 = some 101 := of_decide_eq_true (List.all_eq_true.mp P0_all (0, 2, 101) (List.mem_of_getElem? (i := 2) rfl))
theorem P0_0_3 : P0 0 3 = some 102 := of_decide_eq_true (List.all_eq_true.mp P0_all (0, 3, 102) (List.mem_of_getElem? (i := 3) rfl))
theorem P0_0_4 : P0 0 4 = some 111 := of_decide_eq_true (List.all_eq_true.mp P0_all (0, 4, 111) (List.mem_of_getElem? (i := 4) rfl))
theorem P0_0_5 : P0 0 5 = some 117 := of_decide_eq_true (List.all_eq_true.mp P0_all (0, 5, 117) (List.mem_of_getElem? (i := 5) rfl))
theorem P0_0_6 : P0 0 6 = some 151 := of_decide_eq_true (List.all_eq_true.mp P0_all (0, 6, 151) (List.mem_of_getElem? (i := 6) rfl))
theorem P0_0_7 : P0 0 7 = some 156 := of_decide_eq_true (List.all_eq_true.mp P0_all (0, 7, 156) (List.mem_of_getElem? (i := 7) rfl))
theorem P0_1_0 : P0 1 0 = some 2 := of_decide_eq_true (List.all_eq_true.mp P0_all (1, 0, 2) (List.mem_of_getElem? (i := 8) rfl))
theorem P0_1_1 : P0 1 1 = some 10 := of_decide_eq_true (List.all_eq_true.mp P0_all (1, 1, 10) (List.mem_of_getElem? (i := 9) rfl))
theorem P0_1_2 : P0 1 2 = some 18 := of_decide_eq_true (List.all_eq_true.mp P0_all (1, 2, 18) (List.mem_of_getElem? (i := 10) rfl))
theorem P0_1_3 : P0 1 3 = some 28 := of_decide_eq_true (List.all_eq_true.mp P0_all (1, 3, 28) (List.mem_of_getElem? (i := 11) rfl))
theorem P0_1_4 : P0 1 4 = some 29 := of_decide_eq_true (List.all_eq_true.mp P0_all (1, 4, 29) (List.mem_of_getElem? (i := 12) rfl))
theorem P0_2_0 : P0 2 0 = some 3 := of_decide_eq_true (List.all_eq_true.mp P0_all (2, 0, 3) (List.mem_of_getElem? (i := 13) rfl))
theorem P0_3_0 : P0 3 0 = some 4 := of_decide_eq_true (List.all_eq_true.mp P0_all (3, 0, 4) (List.mem_of_getElem? (i := 14) rfl))
theorem P0_3_1 : P0 3 1 = some 5 := of_decide_eq_true (List.all_eq_true.mp P0_all (3, 1, 5) (List.mem_of_getElem? (i := 15) rfl))
theorem P0_3_2 : P0 3 2 = some 6 := of_decide_eq_true (List.all_eq_true.mp P0_all (3, 2, 6) (List.mem_of_getElem? (i := 16) rfl))
theorem P0_3_3 : P0 3 3 = some 7 := of_decide_eq_true (List.all_eq_true.mp P0_all (3, 3, 7) (List.mem_of_getElem? (i := 17) rfl))
theorem P0_3_4 : P0 3 4 = some 8 := of_decide_eq_true (List.all_eq_true.mp P0_all (3, 4, 8) (List.mem_of_getElem? (i := 18) rfl))
theorem P0_3_5 : P0 3 5 = some 9 := of_decide_eq_true (List.all_eq_true.mp P0_all (3, 5, 9) (List.mem_of_getElem? (i := 19) rfl))
theorem P0_10_0 : P0 10 0 = some 11 := of_decide_eq_true (List.all_eq_true.mp P0_all (10, 0, 11) (List.mem_of_getElem? (i := 20) rfl))
theorem P0_11_0 : P0 11 0 = some 12 := of_decide_eq_true (List.all_eq_true.mp P0_all (11, 0, 12) (List.mem_of_getElem? (i := 21) rfl))
theorem P0_11_1 : P0 11 1 = some 13 := of_decide_eq_true (List.all_eq_true.mp P0_all (11, 1, 13) (List.mem_of_getElem? (i := 22) rfl))
theorem P0_11_2 : P0 11 2 = some 14 := of_decide_eq_true (List.all_eq_true.mp P0_all (11, 2, 14) (List.mem_of_getElem? (i := 23) rfl))
theorem P0_11_3 : P0 11 3 = some 15 := of_decide_eq_true (List.all_eq_true.mp P0_all (11, 3, 15) (List.mem_of_getElem? (i := 24) rfl))
theorem P0_11_4 : P0 11 4 = some 16 := of_decide_eq_true (List.all_eq_true.mp P0_all (11, 4, 16) (List.mem_of_getElem? (i := 25) rfl))
theorem P0_11_5 : P0 11 5 = some 17 := of_decide_eq_true (List.all_eq_true.mp P0_all (11, 5, 17) (List.mem_of_getElem? (i := 26) rfl))
theorem P0_18_0 : P0 18 0 = some 19 := of_decide_eq_true (List.all_eq_true.mp P0_all (18, 0, 19) (List.mem_of_getElem? (i := 27) rfl))
theorem P0_19_0 : P0 19 0 = some 20 := of_decide_eq_true (List.all_eq_true.mp P0_all (19, 0, 20) (List.mem_of_getElem? (i := 28) rfl))
theorem P0_19_1 : P0 19 1 = some 21 := of_decide_eq_true (List.all_eq_true.mp P0_all (19, 1, 21) (List.mem_of_getElem? (i := 29) rfl))
theorem P0_19_2 : P0 19 2 = some 22 := of_decide_eq_true (List.all_eq_true.mp P0_all (19, 2, 22) (List.mem_of_getElem? (i := 30) rfl))
theorem P0_19_3 : P0 19 3 = some 23 := of_decide_eq_true (List.all_eq_true.mp P0_all (19, 3, 23) (List.mem_of_getElem? (i := 31) rfl))
theorem P0_19_4 : P0 19 4 = some 24 := of_decide_eq_true (List.all_eq_true.mp P0_all (19, 4, 24) (List.mem_of_getElem? (i := 32) rfl))
theorem P0_19_5 : P0 19 5 = some 25 := of_decide_eq_true (List.all_eq_true.mp P0_all (19, 5, 25) (List.mem_of_getElem? (i := 33) rfl))
theorem P0_19_6 : P0 19 6 = some 26 := of_decide_eq_true (List.all_eq_true.mp P0_all (19, 6, 26) (List.mem_of_getElem? (i := 34) rfl))
theorem P0_19_7 : P0 19 7 = some 27 := of_decide_eq_true (List.all_eq_true.mp P0_all (19, 7, 27) (List.mem_of_getElem? (i := 35) rfl))
theorem P0_29_0 : P0 29 0 = some 30 := of_decide_eq_true (List.all_eq_true.mp P0_all (29, 0, 30) (List.mem_of_getElem? (i := 36) rfl))
theorem P0_29_1 : P0 29 1 = some 32 := of_decide_eq_true (List.all_eq_true.mp P0_all (29, 1, 32) (List.mem_of_getElem? (i := 37) rfl))
theorem P0_30_0 : P0 30 0 = some 31 := of_decide_eq_true (List.all_eq_true.mp P0_all (30, 0, 31) (List.mem_of_getElem? (i := 38) rfl))
theorem P0_32_0 : P0 32 0 = some 33 := of_decide_eq_true (List.all_eq_true.mp P0_all (32, 0, 33) (List.mem_of_getElem? (i := 39) rfl))
theorem P0_34_0 : P0 34 0 = some 35 := of_decide_eq_true (List.all_eq_true.mp P0_all (34, 0, 35) (List.mem_of_getElem? (i := 40) rfl))
theorem P0_34_1 : P0 34 1 = some 68 := of_decide_eq_true (List.all_eq_true.mp P0_all (34, 1, 68) (List.mem_of_getElem? (i := 41) rfl))
theorem P0_35_0 : P0 35 0 = some 36 := of_decide_eq_true (List.all_eq_true.mp P0_all (35, 0, 36) (List.mem_of_getElem? (i := 42) rfl))
theorem P0_35_1 : P0 35 1 = some 44 := of_decide_eq_true (List.all_eq_true.mp P0_all (35, 1, 44) (List.mem_of_getElem? (i := 43) rfl))
theorem P0_35_2 : P0 35 2 = some 52 := of_decide_eq_true (List.all_eq_true.mp P0_all (35, 2, 52) (List.mem_of_getElem? (i := 44) rfl))
theorem P0_35_3 : P0 35 3 = some 62 := of_decide_eq_true (List.all_eq_true.mp P0_all (35, 3, 62) (List.mem_of_getElem? (i := 45) rfl))
theorem P0_35_4 : P0 35 4 = some 63 := of_decide_eq_true (List.all_eq_true.mp P0_all (35, 4, 63) (List.mem_of_getElem? (i := 46) rfl))
theorem P0_36_0 : P0 36 0 = some 37 := of_decide_eq_true (List.all_eq_true.mp P0_all (36, 0, 37) (List.mem_of_getElem? (i := 47) rfl))
theorem P0_37_0 : P0 37 0 = some 38 := of_decide_eq_true (List.all_eq_true.mp P0_all (37, 0, 38) (List.mem_of_getElem? (i := 48) rfl))
theorem P0_37_1 : P0 37 1 = some 39 := of_decide_eq_true (List.all_eq_true.mp P0_all (37, 1, 39) (List.mem_of_getElem? (i := 49) rfl))
theorem P0_37_2 : P0 37 2 = some 40 := of_decide_eq_true (List.all_eq_true.mp P0_all (37, 2, 40) (List.mem_of_getElem? (i := 50) rfl))
theorem P0_37_3 : P0 37 3 = some 41 := of_decide_eq_true (List.all_eq_true.mp P0_all (37, 3, 41) (List.mem_of_getElem? (i := 51) rfl))
theorem P0_37_4 : P0 37 4 = some 42 := of_decide_eq_true (List.all_eq_true.mp P0_all (37, 4, 42) (List.mem_of_getElem? (i := 52) rfl))
theorem P0_37_5 : P0 37 5 = some 43 := of_decide_eq_true (List.all_eq_true.mp P0_all (37, 5, 43) (List.mem_of_getElem? (i := 53) rfl))
theorem P0_44_0 : P0 44 0 = some 45 := of_decide_eq_true (List.all_eq_true.mp P0_all (44, 0, 45) (List.mem_of_getElem? (i := 54) rfl))
theorem P0_45_0 : P0 45 0 = some 46 := of_decide_eq_true (List.all_eq_true.mp P0_all (45, 0, 46) (List.mem_of_getElem? (i := 55) rfl))
theorem P0_45_1 : P0 45 1 = some 47 := of_decide_eq_true (List.all_eq_true.mp P0_all (45, 1, 47) (List.mem_of_getElem? (i := 56) rfl))
theorem P0_45_2 : P0 45 2 = some 48 := of_decide_eq_true (List.all_eq_true.mp P0_all (45, 2, 48) (List.mem_of_getElem? (i := 57) rfl))
theorem P0_45_3 : P0 45 3 = some 49 := of_decide_eq_true (List.all_eq_true.mp P0_all (45, 3, 49) (List.mem_of_getElem? (i := 58) rfl))
theorem P0_45_4 : P0 45 4 = some 50 := of_decide_eq_true (List.all_eq_true.mp P0_all (45, 4, 50) (List.mem_of_getElem? (i := 59) rfl))
theorem P0_45_5 : P0 45 5 = some 51 := of_decide_eq_true (List.all_eq_true.mp P0_all (45, 5, 51) (List.mem_of_getElem? (i := 60) rfl))
theorem P0_52_0 : P0 52 0 = some 53 := of_decide_eq_true (List.all_eq_true.mp P0_all (52, 0, 53) (List.mem_of_getElem? (i := 61) rfl))
theorem P0_53_0 : P0 53 0 = some 54 := of_decide_eq_true (List.all_eq_true.mp P0_all (53, 0, 54) (List.mem_of_getElem? (i := 62) rfl))
theorem P0_53_1 : P0 53 1 = some 55 := of_decide_eq_true (List.all_eq_true.mp P0_all (53, 1, 55) (List.mem_of_getElem? (i := 63) rfl))
theorem P0_53_2 : P0 53 2 = some 56 := of_decide_eq_true (List.all_eq_true.mp P0_all (53, 2, 56) (List.mem_of_getElem? (i := 64) rfl))
theorem P0_53_3 : P0 53 3 = some 57 := of_decide_eq_true (List.all_eq_true.mp P0_all (53, 3, 57) (List.mem_of_getElem? (i := 65) rfl))
theorem P0_53_4 : P0 53 4 = some 58 := of_decide_eq_true (List.all_eq_true.mp P0_all (53, 4, 58) (List.mem_of_getElem? (i := 66) rfl))
theorem P0_53_5 : P0 53 5 = some 59 := of_decide_eq_true (List.all_eq_true.mp P0_all (53, 5, 59) (List.mem_of_getElem? (i := 67) rfl))
theorem P0_53_6 : P0 53 6 = some 60 := of_decide_eq_true (List.all_eq_true.mp P0_all (53, 6, 60) (List.mem_of_getElem? (i := 68) rfl))
theorem P0_53_7 : P0 53 7 = some 61 := of_decide_eq_true (List.all_eq_true.mp P0_all (53, 7, 61) (List.mem_of_getElem? (i := 69) rfl))
theorem P0_63_0 : P0 63 0 = some 64 := of_decide_eq_true (List.all_eq_true.mp P0_all (63, 0, 64) (List.mem_of_getElem? (i := 70) rfl))
theorem P0_63_1 : P0 63 1 = some 66 := of_decide_eq_true (List.all_eq_true.mp P0_all (63, 1, 66) (List.mem_of_getElem? (i := 71) rfl))
theorem P0_64_0 : P0 64 0 = some 65 := of_decide_eq_true (List.all_eq_true.mp P0_all (64, 0, 65) (List.mem_of_getElem? (i := 72) rfl))
theorem P0_66_0 : P0 66 0 = some 67 := of_decide_eq_true (List.all_eq_true.mp P0_all (66, 0, 67) (List.mem_of_getElem? (i := 73) rfl))
theorem P0_68_0 : P0 68 0 = some 69 := of_decide_eq_true (List.all_eq_true.mp P0_all (68, 0, 69) (List.mem_of_getElem? (i := 74) rfl))
theorem P0_68_1 : P0 68 1 = some 77 := of_decide_eq_true (List.all_eq_true.mp P0_all (68, 1, 77) (List.mem_of_getElem? (i := 75) rfl))
theorem P0_68_2 : P0 68 2 = some 85 := of_decide_eq_true (List.all_eq_true.mp P0_all (68, 2, 85) (List.mem_of_getElem? (i := 76) rfl))
theorem P0_68_3 : P0 68 3 = some 95 := of_decide_eq_true (List.all_eq_true.mp P0_all (68, 3, 95) (List.mem_of_getElem? (i := 77) rfl))
theorem P0_68_4 : P0 68 4 = some 96 := of_decide_eq_true (List.all_eq_true.mp P0_all (68, 4, 96) (List.mem_of_getElem? (i := 78) rfl))
theorem P0_69_0 : P0 69 0 = some 70 := of_decide_eq_true (List.all_eq_true.mp P0_all (69, 0, 70) (List.mem_of_getElem? (i := 79) rfl))
theorem P0_70_0 : P0 70 0 = some 71 := of_decide_eq_true (List.all_eq_true.mp P0_all (70, 0, 71) (List.mem_of_getElem? (i := 80) rfl))
theorem P0_70_1 : P0 70 1 = some 72 := of_decide_eq_true (List.all_eq_true.mp P0_all (70, 1, 72) (List.mem_of_getElem? (i := 81) rfl))
theorem P0_70_2 : P0 70 2 = some 73 := of_decide_eq_true (List.all_eq_true.mp P0_all (70, 2, 73) (List.mem_of_getElem? (i := 82) rfl))
theorem P0_70_3 : P0 70 3 = some 74 := of_decide_eq_true (List.all_eq_true.mp P0_all (70, 3, 74) (List.mem_of_getElem? (i := 83) rfl))
theorem P0_70_4 : P0 70 4 = some 75 := of_decide_eq_true (List.all_eq_true.mp P0_all (70, 4, 75) (List.mem_of_getElem? (i := 84) rfl))
theorem P0_70_5 : P0 70 5 = some 76 := of_decide_eq_true (List.all_eq_true.mp P0_all (70, 5, 76) (List.mem_of_getElem? (i := 85) rfl))
theorem P0_77_0 : P0 77 0 = some 78 := of_decide_eq_true (List.all_eq_true.mp P0_all (77, 0, 78) (List.mem_of_getElem? (i := 86) rfl))
theorem P0_78_0 : P0 78 0 = some 79 := of_decide_eq_true (List.all_eq_true.mp P0_all (78, 0, 79) (List.mem_of_getElem? (i := 87) rfl))
theorem P0_78_1 : P0 78 1 = some 80 := of_decide_eq_true (List.all_eq_true.mp P0_all (78, 1, 80) (List.mem_of_getElem? (i := 88) rfl))
theorem P0_78_2 : P0 78 2 = some 81 := of_decide_eq_true (List.all_eq_true.mp P0_all (78, 2, 81) (List.mem_of_getElem? (i := 89) rfl))
theorem P0_78_3 : P0 78 3 = some 82 := of_decide_eq_true (List.all_eq_true.mp P0_all (78, 3, 82) (List.mem_of_getElem? (i := 90) rfl))
theorem P0_78_4 : P0 78 4 = some 83 := of_decide_eq_true (List.all_eq_true.mp P0_all (78, 4, 83) (List.mem_of_getElem? (i := 91) rfl))
theorem P0_78_5 : P0 78 5 = some 84 := of_decide_eq_true (List.all_eq_true.mp P0_all (78, 5, 84) (List.mem_of_getElem? (i := 92) rfl))
theorem P0_85_0 : P0 85 0 = some 86 := of_decide_eq_true (List.all_eq_true.mp P0_all (85, 0, 86) (List.mem_of_getElem? (i := 93) rfl))
theorem P0_86_0 : P0 86 0 = some 87 := of_decide_eq_true (List.all_eq_true.mp P0_all (86, 0, 87) (List.mem_of_getElem? (i := 94) rfl))
theorem P0_86_1 : P0 86 1 = some 88 := of_decide_eq_true (List.all_eq_true.mp P0_all (86, 1, 88) (List.mem_of_getElem? (i := 95) rfl))
theorem P0_86_2 : P0 86 2 = some 89 := of_decide_eq_true (List.all_eq_true.mp P0_all (86, 2, 89) (List.mem_of_getElem? (i := 96) rfl))
theorem P0_86_3 : P0 86 3 = some 90 := of_decide_eq_true (List.all_eq_true.mp P0_all (86, 3, 90) (List.mem_of_getElem? (i := 97) rfl))
theorem P0_86_4 : P0 86 4 = some 91 := of_decide_eq_true (List.all_eq_true.mp P0_all (86, 4, 91) (List.mem_of_getElem? (i := 98) rfl))
theorem P0_86_5 : P0 86 5 = some 92 := of_decide_eq_true (List.all_eq_true.mp P0_all (86, 5, 92) (List.mem_of_getElem? (i := 99) rfl))
theorem P0_86_6 : P0 86 6 = some 93 := of_decide_eq_true (List.all_eq_true.mp P0_all (86, 6, 93) (List.mem_of_getElem? (i := 100) rfl))
theorem P0_86_7 : P0 86 7 = some 94 := of_decide_eq_true (List.all_eq_true.mp P0_all (86, 7, 94) (List.mem_of_getElem? (i := 101) rfl))
theorem P0_96_0 : P0 96 0 = some 97 := of_decide_eq_true (List.all_eq_true.mp P0_all (96, 0, 97) (List.mem_of_getElem? (i := 102) rfl))
theorem P0_96_1 : P0 96 1 = some 99 := of_decide_eq_true (List.all_eq_true.mp P0_all (96, 1, 99) (List.mem_of_getElem? (i := 103) rfl))
theorem P0_97_0 : P0 97 0 = some 98 := of_decide_eq_true (List.all_eq_true.mp P0_all (97, 0, 98) (List.mem_of_getElem? (i := 104) rfl))
theorem P0_99_0 : P0 99 0 = some 100 := of_decide_eq_true (List.all_eq_true.mp P0_all (99, 0, 100) (List.mem_of_getElem? (i := 105) rfl))
theorem P0_102_0 : P0 102 0 = some 103 := of_decide_eq_true (List.all_eq_true.mp P0_all (102, 0, 103) (List.mem_of_getElem? (i := 106) rfl))
theorem P0_102_1 : P0 102 1 = some 107 := of_decide_eq_true (List.all_eq_true.mp P0_all (102, 1, 107) (List.mem_of_getElem? (i := 107) rfl))
theorem P0_103_0 : P0 103 0 = some 104 := of_decide_eq_true (List.all_eq_true.mp P0_all (103, 0, 104) (List.mem_of_getElem? (i := 108) rfl))
theorem P0_103_1 : P0 103 1 = some 105 := of_decide_eq_true (List.all_eq_true.mp P0_all (103, 1, 105) (List.mem_of_getElem? (i := 109) rfl))
theorem P0_103_2 : P0 103 2 = some 106 := of_decide_eq_true (List.all_eq_true.mp P0_all (103, 2, 106) (List.mem_of_getElem? (i := 110) rfl))
theorem P0_107_0 : P0 107 0 = some 108 := of_decide_eq_true (List.all_eq_true.mp P0_all (107, 0, 108) (List.mem_of_getElem? (i := 111) rfl))
theorem P0_107_1 : P0 107 1 = some 109 := of_decide_eq_true (List.all_eq_true.mp P0_all (107, 1, 109) (List.mem_of_getElem? (i := 112) rfl))
theorem P0_107_2 : P0 107 2 = some 110 := of_decide_eq_true (List.all_eq_true.mp P0_all (107, 2, 110) (List.mem_of_getElem? (i := 113) rfl))
theorem P0_111_0 : P0 111 0 = some 1 := of_decide_eq_true (List.all_eq_true.mp P0_all (111, 0, 1) (List.mem_of_getElem? (i := 114) rfl))
theorem P0_111_1 : P0 111 1 = some 112 := of_decide_eq_true (List.all_eq_true.mp P0_all (111, 1, 112) (List.mem_of_getElem? (i := 115) rfl))
theorem P0_111_2 : P0 111 2 = some 113 := of_decide_eq_true (List.all_eq_true.mp P0_all (111, 2, 113) (List.mem_of_getElem? (i := 116) rfl))
theorem P0_111_3 : P0 111 3 = some 114 := of_decide_eq_true (List.all_eq_true.mp P0_all (111, 3, 114) (List.mem_of_getElem? (i := 117) rfl))
theorem P0_111_4 : P0 111 4 = some 115 := of_decide_eq_true (List.all_eq_true.mp P0_all (111, 4, 115) (List.mem_of_getElem? (i := 118) rfl))
theorem P0_111_5 : P0 111 5 = some 116 := of_decide_eq_true (List.all_eq_true.mp P0_all (111, 5, 116) (List.mem_of_getElem? (i := 119) rfl))
theorem P0_117_0 : P0 117 0 = some 1 := of_decide_eq_true (List.all_eq_true.mp P0_all (117, 0, 1) (List.mem_of_getElem? (i := 120) rfl))
theorem P0_117_1 : P0 117 1 = some 120 := of_decide_eq_true (List.all_eq_true.mp P0_all (117, 1, 120) (List.mem_of_getElem? (i := 121) rfl))
theorem P0_117_2 : P0 117 2 = some 118 := of_decide_eq_true (List.all_eq_true.mp P0_all (117, 2, 118) (List.mem_of_getElem? (i := 122) rfl))
theorem P0_117_3 : P0 117 3 = some 119 := of_decide_eq_true (List.all_eq_true.mp P0_all (117, 3, 119) (List.mem_of_getElem? (i := 123) rfl))
theorem P0_120_0 : P0 120 0 = some 121 := of_decide_eq_true (List.all_eq_true.mp P0_all (120, 0, 121) (List.mem_of_getElem? (i := 124) rfl))
theorem P0_120_1 : P0 120 1 = some 127 := of_decide_eq_true (List.all_eq_true.mp P0_all (120, 1, 127) (List.mem_of_getElem? (i := 125) rfl))
theorem P0_120_2 : P0 120 2 = some 133 := of_decide_eq_true (List.all_eq_true.mp P0_all (120, 2, 133) (List.mem_of_getElem? (i := 126) rfl))
theorem P0_120_3 : P0 120 3 = some 139 := of_decide_eq_true (List.all_eq_true.mp P0_all (120, 3, 139) (List.mem_of_getElem? (i := 127) rfl))
theorem P0_120_4 : P0 120 4 = some 145 := of_decide_eq_true (List.all_eq_true.mp P0_all (120, 4, 145) (List.mem_of_getElem? (i := 128) rfl))
theorem P0_121_0 : P0 121 0 = some 1 := of_decide_eq_true (List.all_eq_true.mp P0_all (121, 0, 1) (List.mem_of_getElem? (i := 129) rfl))
theorem P0_121_1 : P0 121 1 = some 122 := of_decide_eq_true (List.all_eq_true.mp P0_all (121, 1, 122) (List.mem_of_getElem? (i := 130) rfl))
theorem P0_121_2 : P0 121 2 = some 123 := of_decide_eq_true (List.all_eq_true.mp P0_all (121, 2, 123) (List.mem_of_getElem? (i := 131) rfl))
theorem P0_121_3 : P0 121 3 = some 124 := of_decide_eq_true (List.all_eq_true.mp P0_all (121, 3, 124) (List.mem_of_getElem? (i := 132) rfl))
theorem P0_121_4 : P0 121 4 = some 125 := of_decide_eq_true (List.all_eq_true.mp P0_all (121, 4, 125) (List.mem_of_getElem? (i := 133) rfl))
theorem P0_121_5 : P0 121 5 = some 126 := of_decide_eq_true (List.all_eq_true.mp P0_all (121, 5, 126) (List.mem_of_getElem? (i := 134) rfl))
theorem P0_127_0 : P0 127 0 = some 1 := of_decide_eq_true (List.all_eq_true.mp P0_all (127, 0, 1) (List.mem_of_getElem? (i := 135) rfl))
theorem P0_127_1 : P0 127 1 = some 128 := of_decide_eq_true (List.all_eq_true.mp P0_all (127, 1, 128) (List.mem_of_getElem? (i := 136) rfl))
theorem P0_127_2 : P0 127 2 = some 129 := of_decide_eq_true (List.all_eq_true.mp P0_all (127, 2, 129) (List.mem_of_getElem? (i := 137) rfl))
theorem P0_127_3 : P0 127 3 = some 130 := of_decide_eq_true (List.all_eq_true.mp P0_all (127, 3, 130) (List.mem_of_getElem? (i := 138) rfl))
theorem P0_127_4 : P0 127 4 = some 131 := of_decide_eq_true (List.all_eq_true.mp P0_all (127, 4, 131) (List.mem_of_getElem? (i := 139) rfl))
theorem P0_127_5 : P0 127 5 = some 132 := of_decide_eq_true (List.all_eq_true.mp P0_all (127, 5, 132) (List.mem_of_getElem? (i := 140) rfl))
theorem P0_133_0 : P0 133 0 = some 1 := of_decide_eq_true (List.all_eq_true.mp P0_all (133, 0, 1) (List.mem_of_getElem? (i := 141) rfl))
theorem P0_133_1 : P0 133 1 = some 134 := of_decide_eq_true (List.all_eq_true.mp P0_all (133, 1, 134) (List.mem_of_getElem? (i := 142) rfl))
theorem P0_133_2 : P0 133 2 = some 135 := of_decide_eq_true (List.all_eq_true.mp P0_all (133, 2, 135) (List.mem_of_getElem? (i := 143) rfl))
theorem P0_133_3 : P0 133 3 = some 136 := of_decide_eq_true (List.all_eq_true.mp P0_all (133, 3, 136) (List.mem_of_getElem? (i := 144) rfl))
theorem P0_133_4 : P0 133 4 = some 137 := of_decide_eq_true (List.all_eq_true.mp P0_all (133, 4, 137) (List.mem_of_getElem? (i := 145) rfl))
theorem P0_133_5 : P0 133 5 = some 138 := of_decide_eq_true (List.all_eq_true.mp P0_all (133, 5, 138) (List.mem_of_getElem? (i := 146) rfl))
theorem P0_139_0 : P0 139 0 = some 1 := of_decide_eq_true (List.all_eq_true.mp P0_all (139, 0, 1) (List.mem_of_getElem? (i := 147) rfl))
theorem P0_139_1 : P0 139 1 = some 140 := of_decide_eq_true (List.all_eq_true.mp P0_all (139, 1, 140) (List.mem_of_getElem? (i := 148) rfl))
theorem P0_139_2 : P0 139 2 = some 141 := of_decide_eq_true (List.all_eq_true.mp P0_all (139, 2, 141) (List.mem_of_getElem? (i := 149) rfl))
theorem P0_139_3 : P0 139 3 = some 142 := of_decide_eq_true (List.all_eq_true.mp P0_all (139, 3, 142) (List.mem_of_getElem? (i := 150) rfl))
theorem P0_139_4 : P0 139 4 = some 143 := of_decide_eq_true (List.all_eq_true.mp P0_all (139, 4, 143) (List.mem_of_getElem? (i := 151) rfl))
theorem P0_139_5 : P0 139 5 = some 144 := of_decide_eq_true (List.all_eq_true.mp P0_all (139, 5, 144) (List.mem_of_getElem? (i := 152) rfl))
theorem P0_145_0 : P0 145 0 = some 1 := of_decide_eq_true (List.all_eq_true.mp P0_all (145, 0, 1) (List.mem_of_getElem? (i := 153) rfl))
theorem P0_145_1 : P0 145 1 = some 146 := of_decide_eq_true (List.all_eq_true.mp P0_all (145, 1, 146) (List.mem_of_getElem? (i := 154) rfl))
theorem P0_145_2 : P0 145 2 = some 147 := of_decide_eq_true (List.all_eq_true.mp P0_all (145, 2, 147) (List.mem_of_getElem? (i := 155) rfl))
theorem P0_145_3 : P0 145 3 = some 148 := of_decide_eq_true (List.all_eq_true.mp P0_all (145, 3, 148) (List.mem_of_getElem? (i := 156) rfl))
theorem P0_145_4 : P0 145 4 = some 149 := of_decide_eq_true (List.all_eq_true.mp P0_all (145, 4, 149) (List.mem_of_getElem? (i := 157) rfl))
theorem P0_145_5 : P0 145 5 = some 150 := of_decide_eq_true (List.all_eq_true.mp P0_all (145, 5, 150) (List.mem_of_getElem? (i := 158) rfl))
theorem P0_151_0 : P0 151 0 = some 18 := of_decide_eq_true (List.all_eq_true.mp P0_all (151, 0, 18) (List.mem_of_getElem? (i := 159) rfl))
theorem P0_151_1 : P0 151 1 = some 152 := of_decide_eq_true (List.all_eq_true.mp P0_all (151, 1, 152) (List.mem_of_getElem? (i := 160) rfl))
theorem P0_151_2 : P0 151 2 = some 153 := of_decide_eq_true (List.all_eq_true.mp P0_all (151, 2, 153) (List.mem_of_getElem? (i := 161) rfl))
theorem P0_151_6 : P0 151 6 = some 154 := of_decide_eq_true (List.all_eq_true.mp P0_all (151, 6, 154) (List.mem_of_getElem? (i := 162) rfl))
theorem P0_151_7 : P0 151 7 = some 155 := of_decide_eq_true (List.all_eq_true.mp P0_all (151, 7, 155) (List.mem_of_getElem? (i := 163) rfl))
theorem P0_157_0 : P0 157 0 = some 158 := of_decide_eq_true (List.all_eq_true.mp P0_all (157, 0, 158) (List.mem_of_getElem? (i := 164) rfl))
theorem P0_157_1 : P0 157 1 = some 159 := of_decide_eq_true (List.all_eq_true.mp P0_all (157, 1, 159) (List.mem_of_getElem? (i := 165) rfl))
theorem P0_157_2 : P0 157 2 = some 160 := of_decide_eq_true (List.all_eq_true.mp P0_all (157, 2, 160) (List.mem_of_getElem? (i := 166) rfl))
theorem P0_157_12 : P0 157 12 = some 161 := of_decide_eq_true (List.all_eq_true.mp P0_all (157, 12, 161) (List.mem_of_getElem? (i := 167) rfl))
theorem P0_157_16 : P0 157 16 = some 162 := of_decide_eq_true (List.all_eq_true.mp P0_all (157, 16, 162) (List.mem_of_getElem? (i := 168) rfl))
theorem P0_157_17 : P0 157 17 = some 163 := of_decide_eq_true (List.all_eq_true.mp P0_all (157, 17, 163) (List.mem_of_getElem? (i := 169) rfl))
theorem P0_157_18 : P0 157 18 = some 164 := of_decide_eq_true (List.all_eq_true.mp P0_all (157, 18, 164) (List.mem_of_getElem? (i := 170) rfl))
theorem P0_157_19 : P0 157 19 = some 165 := of_decide_eq_true (List.all_eq_true.mp P0_all (157, 19, 165) (List.mem_of_getElem? (i := 171) rfl))
theorem P0_157_20 : P0 157 20 = some 166 := of_decide_eq_true (List.all_eq_true.mp P0_all (157, 20, 166) (List.mem_of_getElem? (i := 172) rfl))
theorem P0_157_21 : P0 157 21 = some 167 := of_decide_eq_true (List.all_eq_true.mp P0_all (157, 21, 167) (List.mem_of_getElem? (i := 173) rfl))
theorem P0_157_22 : P0 157 22 = some 168 := of_decide_eq_true (List.all_eq_true.mp P0_all (157, 22, 168) (List.mem_of_getElem? (i := 174) rfl))
theorem P0_157_24 : P0 157 24 = some 169 := of_decide_eq_true (List.all_eq_true.mp P0_all (157, 24, 169) (List.mem_of_getElem? (i := 175) rfl))
theorem P0_157_25 : P0 157 25 = some 170 := of_decide_eq_true (List.all_eq_true.mp P0_all (157, 25, 170) (List.mem_of_getElem? (i := 176) rfl))
theorem P0_157_29 : P0 157 29 = some 171 := of_decide_eq_true (List.all_eq_true.mp P0_all (157, 29, 171) (List.mem_of_getElem? (i := 177) rfl))
theorem P0_157_30 : P0 157 30 = some 172 := of_decide_eq_true (List.all_eq_true.mp P0_all (157, 30, 172) (List.mem_of_getElem? (i := 178) rfl))
theorem P0_157_31 : P0 157 31 = some 173 := of_decide_eq_true (List.all_eq_true.mp P0_all (157, 31, 173) (List.mem_of_getElem? (i := 179) rfl))
theorem P0_157_32 : P0 157 32 = some 174 := of_decide_eq_true (List.all_eq_true.mp P0_all (157, 32, 174) (List.mem_of_getElem? (i := 180) rfl))
def KD (a : Nat) : Nat := ((SH0[a]?).getD (99, 0)).1
def LN (a : Nat) : Nat := ((SH0[a]?).getD (99, 0)).2
