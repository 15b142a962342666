theorem gi {ws : List Cond} (h : ∀ w ∈ ws, w ∈ GWl) : GoodIn GWl ws := fun w hw => ⟨h w hw, good_of_word (List.all_eq_true.mp GWl_good w (h w hw))⟩
def XQ (b0 : Nat) (ba : Nat → Nat) (fv : Value) (D : va_G) (dA : Nat → ClassId) (r : Option Value) (h' : XH) : Array Value → State → Outcome → State → Prop := fun _ st o t =>
  (o = .returned (r.map (tv ba fv)) ∧ t.heap.size = b0 + h'.1.length ∧ h'.1.length ≤ xTop ∧ va_P D vwCl (wl ba fv dA h') t.heap) ∧ va_F (xA b0) st t
def XP (b0 : Nat) (ba : Nat → Nat) (fv : Value) (D : va_G) (dA : Nat → ClassId) (E : XE) (h : XH) (U : State) : Prop := U.heap.size = b0 + h.1.length ∧ h.1.length ≤ xTop ∧ va_P D vwCl (wl ba fv dA h) U.heap ∧ va_K D vwCl (xtys dA) U ∧ XEnv b0 ba fv E U
def wcs (y : Nat) : List Cond := wcode y :: GWl
theorem wcode_in {y : Nat} (h : y < 195) : wcode y ∈ GWl := by
  unfold GWl
  simp only [List.mem_append]
  exact Or.inr (Or.inl (List.mem_map_of_mem (List.mem_range.mpr h)))
theorem wcs_in {y : Nat} (h : y < 195) : ∀ w ∈ wcs y, w ∈ GWl := by
  intro w hw
  rcases List.mem_cons.mp hw with rfl | hw
  · exact wcode_in h
  · exact hw
/-- what the tables say of a call's entry -/
def chk (e : Nat × Nat × Nat × Nat) : Bool := !(e.2.1 == 3 || e.2.1 == 4) || (decide (e.2.2.1 < 195) && (if mSt e.2.2.1 = true then GWs.contains (.static (mN e.2.2.1)) else (GWi.contains (.instanceMethod (mN e.2.2.1)) && (mIni e.2.2.1 || GWv.contains (.selects (RN (mC e.2.2.1)) (mN e.2.2.1) (mN e.2.2.1))))))
theorem chk0 : RT0.all chk = true := by decide +kernel
theorem chk1 : RT1.all chk = true := by decide +kernel
theorem chk2 : RT2.all chk = true := by decide +kernel
theorem chk3 : RT3.all chk = true := by decide +kernel
theorem chk4 : RT4.all chk = true := by decide +kernel
theorem chk5 : RT5.all chk = true := by decide +kernel
theorem chk6 : RT6.all chk = true := by decide +kernel
theorem chk7 : RT7.all chk = true := by decide +kernel
theorem chk8 : RT8.all chk = true := by decide +kernel
theorem chk9 : RT9.all chk = true := by decide +kernel
theorem chk10 : RT10.all chk = true := by decide +kernel
theorem chk20 : RT20.all chk = true := by decide +kernel
theorem chk21 : RT21.all chk = true := by decide +kernel
theorem chk22 : RT22.all chk = true := by decide +kernel
theorem chk_all : ∀ own : Nat, ∀ e ∈ RT own, chk e = true := by
  intro own e he
  unfold RT at he
  split at he
  · exact List.all_eq_true.mp chk0 e he
  · exact List.all_eq_true.mp chk1 e he
  · exact List.all_eq_true.mp chk2 e he
  · exact List.all_eq_true.mp chk3 e he
  · exact List.all_eq_true.mp chk4 e he
  · exact List.all_eq_true.mp chk5 e he
  · exact List.all_eq_true.mp chk6 e he
  · exact List.all_eq_true.mp chk7 e he
  · exact List.all_eq_true.mp chk8 e he
  · exact List.all_eq_true.mp chk9 e he
  · exact List.all_eq_true.mp chk10 e he
  · exact List.all_eq_true.mp chk20 e he
  · exact List.all_eq_true.mp chk21 e he
  · exact List.all_eq_true.mp chk22 e he
  · cases he
theorem cls_all : (List.range 196).all (fun y => decide ((mN y).cls = RN (mC y))) = true := by decide +kernel
theorem cls_ok {y : Nat} (h : y < 196) : (mN y).cls = RN (mC y) := of_decide_eq_true (List.all_eq_true.mp cls_all y (List.mem_range.mpr h))
theorem mth_ok : (List.range 195).all (fun y => plainFor (mN y) && (decide ((mN y).cls ≠ "java/lang/invoke/MethodHandle") && (decide ((mN y).cls ≠ "java/lang/invoke/VarHandle") && (decide ((parseMethodDescriptor (mN y).desc).map (fun d => d.parameters.length) = some (mA y)) && decide (mL y ≤ 20))))) = true := by decide +kernel
theorem mth_at {y : Nat} (h : y < 195) : plainFor (mN y) = true ∧ (mN y).cls ≠ "java/lang/invoke/MethodHandle" ∧ (mN y).cls ≠ "java/lang/invoke/VarHandle" ∧ (parseMethodDescriptor (mN y).desc).map (fun d => d.parameters.length) = some (mA y) ∧ mL y ≤ 20 := by
  have h1 := List.all_eq_true.mp mth_ok y (List.mem_range.mpr h)
  simp only [Bool.and_eq_true, decide_eq_true_eq] at h1
  exact h1
theorem chk_use {own idx t y b : Nat} (hr : rs own idx = (t, y, b)) (ht : t = 3 ∨ t = 4) : y < 195 ∧ (mSt y = true → Cond.static (mN y) ∈ GWl) ∧ (mSt y = false → Cond.instanceMethod (mN y) ∈ GWl ∧ (mIni y = false → Cond.selects (RN (mC y)) (mN y) (mN y) ∈ GWl)) := by
  have h1 := chk_all own _ (rs_mem hr (by omega))
  unfold chk at h1
  have e : (t == 3 || t == 4) = true := by rcases ht with rfl | rfl <;> rfl
  simp only [e, Bool.not_true, Bool.false_or, Bool.and_eq_true, decide_eq_true_eq] at h1
  obtain ⟨h2, h3⟩ := h1
  have in1 : ∀ w, w ∈ GWs → w ∈ GWl := fun w hw => by
    unfold GWl
    simp only [List.mem_append]
    exact Or.inr (Or.inr (Or.inl hw))
  have in2 : ∀ w, w ∈ GWi → w ∈ GWl := fun w hw => by
    unfold GWl
    simp only [List.mem_append]
    exact Or.inr (Or.inr (Or.inr (Or.inl hw)))
  have in3 : ∀ w, w ∈ GWv → w ∈ GWl := fun w hw => by
    unfold GWl
    simp only [List.mem_append]
    exact Or.inr (Or.inr (Or.inr (Or.inr (Or.inl hw))))
  refine ⟨h2, fun q => ?_, fun q => ?_⟩
  · rw [if_pos q] at h3
    exact in1 _ (List.contains_iff_mem.mp h3)
  · rw [if_neg (by rw [q]; decide)] at h3
    simp only [Bool.and_eq_true, Bool.or_eq_true] at h3
    refine ⟨in2 _ (List.contains_iff_mem.mp h3.1), fun q2 => ?_⟩
    rcases h3.2 with h4 | h4
    · rw [q2] at h4
      cases h4
    · exact in3 _ (List.contains_iff_mem.mp h4)
theorem init_in {y : Nat} (h : y < 195) : Cond.initialized (mN y).cls ∈ GWl := by
  unfold GWl
  simp only [List.mem_append]
  refine Or.inr (Or.inr (Or.inr (Or.inr (Or.inr (Or.inl ?_)))))
  rw [cls_ok (by omega)]
  unfold GWn
  have key : (List.range 195).all (fun y => [0, 1, 2, 3, 4, 5, 6, 7, 8, 9, 10, 20, 21, 22, 23, 27, 29, 30].contains (mC y)) = true := by decide +kernel
  exact List.mem_map_of_mem (List.contains_iff_mem.mp (List.all_eq_true.mp key y (List.mem_range.mpr h)))
