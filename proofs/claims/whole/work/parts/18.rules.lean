/-! RUNS OVER THE FIXED SHAPE: contents alone change -/
abbrev XQt : Type := Option Value → (Nat → Nat → Int32) → (Nat → Nat → Int64) → Prop
def X (E : XE) (d y pc : Nat) (ls st : List Value) (I : Nat → Nat → Int32) (J : Nat → Nat → Int64) (Q : XQt) : Prop := Ev E d y pc ls st (hp I J) (fun r h' => ∃ (I' : Nat → Nat → Int32) (J' : Nat → Nat → Int64), h' = hp I' J' ∧ Q r I' J')
def XM (E : XE) (d y : Nat) (as : List Value) (I : Nat → Nat → Int32) (J : Nat → Nat → Int64) (Q : XQt) : Prop := X E d y 0 (xent as (mL y)) [] I J Q
theorem hp_inj {I I' : Nat → Nat → Int32} {J J' : Nat → Nat → Int64} (h : hp I J = hp I' J') : I = I' ∧ J = J' := by
  unfold hp at h
  simp only [Prod.mk.injEq, true_and, and_true] at h
  exact h
section XR
variable {E : XE} {d y pc idx len ci k a t : Nat} {off : Int} {ins : Instr} {ls st ls' st' : List Value} {I I' : Nat → Nat → Int32} {J J' : Nat → Nat → Int64} {Q : XQt}
theorem X_ret {r : Option Value} (hd : dec y pc = some (ins, 1)) (hl : xlenOK ins 1 = true) (hr : xrt y ins st = some r) : X E d y pc ls st I J Q = Q r I J := by
  unfold X
  rw [Ev_ret hd hl hr]
  exact propext ⟨fun ⟨I', J', e, q⟩ => by obtain ⟨rfl, rfl⟩ := hp_inj e; exact q, fun q => ⟨I, J, rfl, q⟩⟩
theorem X_reti {v : Int32} {ty : FieldType} (hd : dec y pc = some (.ireturn, 1)) (hm : mR y = some ty) (ht : ty = .int) : X E d y pc ls [.int v] I J Q = Q (some (.int v)) I J := by
  refine X_ret hd rfl ?_
  subst ht
  unfold xrt
  rw [hm]
  exact if_pos ⟨rfl, Or.inl rfl⟩
theorem X_retz {v : Int32} {ty : FieldType} (hd : dec y pc = some (.ireturn, 1)) (hm : mR y = some ty) (ht : ty = .boolean ∨ ty = .char ∨ ty = .byte) (hn : narrow ty (.int v) = .int v) : X E d y pc ls [.int v] I J Q = Q (some (.int v)) I J := by
  refine X_ret hd rfl ?_
  unfold xrt
  rw [hm]
  exact if_pos ⟨hn, Or.inr ht⟩
theorem X_retl {v : Int64} (hd : dec y pc = some (.lreturn, 1)) (hm : mR y = some .long) : X E d y pc ls [.long v] I J Q = Q (some (.long v)) I J := by
  refine X_ret hd rfl ?_
  unfold xrt
  rw [hm]
theorem X_retv (hd : dec y pc = some (.return_, 1)) (hm : mR y = none) : X E d y pc ls [] I J Q = Q none I J := by
  refine X_ret hd rfl ?_
  unfold xrt
  rw [hm]
theorem X_stp {pc' : Nat} (hd : dec y pc = some (ins, len)) (hl : xlenOK ins len = true) (hr : xrt y ins st = none) (hc : xcl (mC y) ins = none) (hs : stp (mC y) (mIni y) d E pc ins ls st (hp I J) = some (pc', ls', st', hp I' J')) : X E d y pc ls st I J Q = X E d y pc' ls' st' I' J' Q := Ev_stp hd hl hr hc hs
theorem X_no (hd : dec y pc = some (ins, len)) (hr : xrt y ins st = none) (hc : xcl (mC y) ins = none) (hs : stp (mC y) (mIni y) d E pc ins ls st (hp I J) = none) : X E d y pc ls st I J Q = False := by
  refine propext ⟨fun ⟨n, r, h2, he, hq⟩ => ?_, fun q => q.elim⟩
  cases n with
  | zero => simp [ev] at he
  | succ n =>
    rw [ev, hd] at he
    simp only at he
    split at he
    · rw [hr] at he
      simp only at he
      rw [hc] at he
      simp only at he
      rw [hs] at he
      cases he
    · cases he
theorem X_icmp {c : Jvm.ClassFile.Cond} {x0 y0 : Int32} (hd : dec y pc = some (.if_icmp c off, 3)) (ht : xgo pc off = some t) : X E d y pc ls (.int y0 :: .int x0 :: st) I J Q = if xcm c x0 y0 = true then X E d y t ls st I J Q else X E d y (pc + 3) ls st I J Q := by
  by_cases h : xcm c x0 y0 = true
  · rw [if_pos h]
    refine X_stp hd rfl rfl rfl ?_
    show xif _ _ _ _ _ _ = _
    unfold xif
    rw [ht]
    exact if_pos h
  · rw [if_neg h]
    refine X_stp hd rfl rfl rfl ?_
    show xif _ _ _ _ _ _ = _
    unfold xif
    rw [ht]
    exact if_neg h
theorem X_ifc {c : Jvm.ClassFile.Cond} {x0 : Int32} (hd : dec y pc = some (.ifCond c off, 3)) (ht : xgo pc off = some t) : X E d y pc ls (.int x0 :: st) I J Q = if xcm c x0 0 = true then X E d y t ls st I J Q else X E d y (pc + 3) ls st I J Q := by
  by_cases h : xcm c x0 0 = true
  · rw [if_pos h]
    refine X_stp hd rfl rfl rfl ?_
    show xif _ _ _ _ _ _ = _
    unfold xif
    rw [ht]
    exact if_pos h
  · rw [if_neg h]
    refine X_stp hd rfl rfl rfl ?_
    show xif _ _ _ _ _ _ = _
    unfold xif
    rw [ht]
    exact if_neg h
theorem if_dec {c : Prop} [Decidable c] {A B : Prop} : (if decide c = true then A else B) = if c then A else B := by
  by_cases h : c
  · rw [if_pos h, if_pos (decide_eq_true h)]
  · rw [if_neg h, if_neg (fun q => h (of_decide_eq_true q))]
theorem KD_top {n : Nat} (h : KD a = n) (hn : n < 99) : a < xTop := by
  have h1 : a < SH0.length := by
    rcases Nat.lt_or_ge a SH0.length with q | q
    · exact q
    · unfold KD at h
      rw [List.getElem?_eq_none q] at h
      exact absurd h (by show ¬ 99 = n; omega)
  have h2 : SH0.length = 175 := by decide +kernel
  unfold xTop
  omega
theorem KD_scr {n : Nat} (h : KD a = n) (hn : n < 99) : a ≠ xScr ∧ ¬ (xByt ≤ a ∧ a < xByt + 5) := by
  have := KD_top h hn
  unfold xTop at this
  unfold xScr xByt
  omega
theorem X_gfI (hd : dec y pc = some (.getfield idx, 3)) (hr : rs (mC y) idx = (0, ci, k)) (hk : ci < 10 ∧ k < NC ci) (hty : tyC ci k = .int) (ha : KD a = ci) : X E d y pc ls (.ref a :: st) I J Q = X E d y (pc + 3) ls (.int (I a k) :: st) I J Q := by
  refine X_stp hd rfl rfl rfl ?_
  simp only [stp, xgf, hr]
  rw [if_pos ⟨KD_top ha (by omega), ha, hk⟩]
  unfold xfv
  rw [hty]
  rfl
theorem X_gfJ (hd : dec y pc = some (.getfield idx, 3)) (hr : rs (mC y) idx = (0, ci, k)) (hk : ci < 10 ∧ k < NC ci) (hty : tyC ci k = .long) (ha : KD a = ci) : X E d y pc ls (.ref a :: st) I J Q = X E d y (pc + 3) ls (.long (J a k) :: st) I J Q := by
  refine X_stp hd rfl rfl rfl ?_
  simp only [stp, xgf, hr]
  rw [if_pos ⟨KD_top ha (by omega), ha, hk⟩]
  unfold xfv
  rw [hty]
  rfl
theorem X_gfP {q : Nat} (hd : dec y pc = some (.getfield idx, 3)) (hr : rs (mC y) idx = (0, ci, k)) (hk : ci < 10 ∧ k < NC ci) (hty : (tyC ci k).isReference = true) (ha : KD a = ci) (hq : P0 a k = some q) : X E d y pc ls (.ref a :: st) I J Q = X E d y (pc + 3) ls (.ref q :: st) I J Q := by
  refine X_stp hd rfl rfl rfl ?_
  simp only [stp, xgf, hr]
  rw [if_pos ⟨KD_top ha (by omega), ha, hk⟩]
  have e : xfv ci k (hp I J) a = .ref q := by
    unfold xfv
    cases h : tyC ci k <;> first | (rw [h] at hty; cases hty; done) | (show va_rf (P0 a k) = _; rw [hq]; rfl)
  rw [e]
theorem X_pfI {x : Int32} (hd : dec y pc = some (.putfield idx, 3)) (hr : rs (mC y) idx = (0, ci, k)) (hk : ci < 10 ∧ k < NC ci) (hf : (TC ci k).2.2.2 = false) (hty : tyC ci k = .int) (ha : KD a = ci) : X E d y pc ls (.int x :: .ref a :: st) I J Q = X E d y (pc + 3) ls st (xuI I a k x) J Q := by
  refine X_stp hd rfl rfl rfl ?_
  simp only [stp, xpf, hr]
  rw [if_pos ⟨KD_top ha (by omega), ha, hk.1, hk.2, fun q => by rw [hf] at q; cases q⟩, hty]
  rfl
theorem X_pfJ {x : Int64} (hd : dec y pc = some (.putfield idx, 3)) (hr : rs (mC y) idx = (0, ci, k)) (hk : ci < 10 ∧ k < NC ci) (hf : (TC ci k).2.2.2 = false) (hty : tyC ci k = .long) (ha : KD a = ci) : X E d y pc ls (.long x :: .ref a :: st) I J Q = X E d y (pc + 3) ls st I (xuJ J a k x) Q := by
  refine X_stp hd rfl rfl rfl ?_
  simp only [stp, xpf, hr]
  rw [if_pos ⟨KD_top ha (by omega), ha, hk.1, hk.2, fun q => by rw [hf] at q; cases q⟩, hty]
  rfl
theorem X_iald {i : Int32} (hd : dec y pc = some (.iaload, 1)) (ha : KD a = 10) : X E d y pc ls (.int i :: .ref a :: st) I J Q = (xin i (LN a) = true ∧ X E d y (pc + 1) ls (.int (I a i.toNatClampNeg) :: st) I J Q) := by
  have hn := KD_scr ha (by omega)
  have hs : stp (mC y) (mIni y) d E pc .iaload ls (.int i :: .ref a :: st) (hp I J) = if xin i (LN a) = true then some (pc + 1, ls, .int (I a i.toNatClampNeg) :: st, hp I J) else none := by
    simp only [stp, xial]
    rw [if_neg hn.1]
    by_cases h : xin i (LN a) = true
    · rw [if_pos ⟨KD_top ha (by omega), ha, h⟩, if_pos h]
      rfl
    · rw [if_neg (fun q => h q.2.2), if_neg h]
  by_cases h : xin i (LN a) = true
  · rw [if_pos h] at hs
    rw [X_stp hd rfl rfl rfl hs]
    exact propext ⟨fun q => ⟨h, q⟩, fun q => q.2⟩
  · rw [if_neg h] at hs
    rw [X_no hd rfl rfl hs]
    exact propext ⟨fun q => q.elim, fun q => h q.1⟩
theorem X_zald {i : Int32} (hd : dec y pc = some (.baload, 1)) (ha : KD a = 12) : X E d y pc ls (.int i :: .ref a :: st) I J Q = (xin i (LN a) = true ∧ X E d y (pc + 1) ls (.int (I a i.toNatClampNeg) :: st) I J Q) := by
  have hn := KD_scr ha (by omega)
  have hs : stp (mC y) (mIni y) d E pc .baload ls (.int i :: .ref a :: st) (hp I J) = if xin i (LN a) = true then some (pc + 1, ls, .int (I a i.toNatClampNeg) :: st, hp I J) else none := by
    simp only [stp, xbal]
    rw [if_neg hn.2]
    by_cases h : xin i (LN a) = true
    · rw [if_pos ⟨KD_top ha (by omega), ha, h⟩, if_pos h]
      rfl
    · rw [if_neg (fun q => h q.2.2), if_neg h]
  by_cases h : xin i (LN a) = true
  · rw [if_pos h] at hs
    rw [X_stp hd rfl rfl rfl hs]
    exact propext ⟨fun q => ⟨h, q⟩, fun q => q.2⟩
  · rw [if_neg h] at hs
    rw [X_no hd rfl rfl hs]
    exact propext ⟨fun q => q.elim, fun q => h q.1⟩
theorem X_lald {i : Int32} (hd : dec y pc = some (.laload, 1)) (ha : KD a = 11) : X E d y pc ls (.int i :: .ref a :: st) I J Q = (xin i (LN a) = true ∧ X E d y (pc + 1) ls (.long (J a i.toNatClampNeg) :: st) I J Q) := by
  have hs : stp (mC y) (mIni y) d E pc .laload ls (.int i :: .ref a :: st) (hp I J) = if xin i (LN a) = true then some (pc + 1, ls, .long (J a i.toNatClampNeg) :: st, hp I J) else none := by
    simp only [stp, xlal]
    by_cases h : xin i (LN a) = true
    · rw [if_pos ⟨KD_top ha (by omega), ha, h⟩, if_pos h]
      rfl
    · rw [if_neg (fun q => h q.2.2), if_neg h]
  by_cases h : xin i (LN a) = true
  · rw [if_pos h] at hs
    rw [X_stp hd rfl rfl rfl hs]
    exact propext ⟨fun q => ⟨h, q⟩, fun q => q.2⟩
  · rw [if_neg h] at hs
    rw [X_no hd rfl rfl hs]
    exact propext ⟨fun q => q.elim, fun q => h q.1⟩
theorem X_aald {i : Int32} (hd : dec y pc = some (.aaload, 1)) (ha : 13 ≤ KD a ∧ KD a < 18) : X E d y pc ls (.int i :: .ref a :: st) I J Q = (xin i (LN a) = true ∧ X E d y (pc + 1) ls (va_rf (P0 a i.toNatClampNeg) :: st) I J Q) := by
  have hs : stp (mC y) (mIni y) d E pc .aaload ls (.int i :: .ref a :: st) (hp I J) = if xin i (LN a) = true then some (pc + 1, ls, va_rf (P0 a i.toNatClampNeg) :: st, hp I J) else none := by
    simp only [stp, xaal]
    by_cases h : xin i (LN a) = true
    · rw [if_pos ⟨KD_top rfl (by omega), ha.1, ha.2, h⟩, if_pos h]
      rfl
    · rw [if_neg (fun q => h q.2.2.2), if_neg h]
  by_cases h : xin i (LN a) = true
  · rw [if_pos h] at hs
    rw [X_stp hd rfl rfl rfl hs]
    exact propext ⟨fun q => ⟨h, q⟩, fun q => q.2⟩
  · rw [if_neg h] at hs
    rw [X_no hd rfl rfl hs]
    exact propext ⟨fun q => q.elim, fun q => h q.1⟩
theorem X_iast {i x : Int32} (hd : dec y pc = some (.iastore, 1)) (ha : KD a = 10) : X E d y pc ls (.int x :: .int i :: .ref a :: st) I J Q = (xin i (LN a) = true ∧ X E d y (pc + 1) ls st (xuI I a i.toNatClampNeg x) J Q) := by
  have hs : stp (mC y) (mIni y) d E pc .iastore ls (.int x :: .int i :: .ref a :: st) (hp I J) = if xin i (LN a) = true then some (pc + 1, ls, st, hp (xuI I a i.toNatClampNeg x) J) else none := by
    simp only [stp, xias]
    by_cases h : xin i (LN a) = true
    · rw [if_pos ⟨KD_top ha (by omega), ha, h⟩, if_pos h]
      rfl
    · rw [if_neg (fun q => h q.2.2), if_neg h]
  by_cases h : xin i (LN a) = true
  · rw [if_pos h] at hs
    rw [X_stp hd rfl rfl rfl hs]
    exact propext ⟨fun q => ⟨h, q⟩, fun q => q.2⟩
  · rw [if_neg h] at hs
    rw [X_no hd rfl rfl hs]
    exact propext ⟨fun q => q.elim, fun q => h q.1⟩
theorem X_zast {i x : Int32} (hd : dec y pc = some (.bastore, 1)) (ha : KD a = 12) : X E d y pc ls (.int x :: .int i :: .ref a :: st) I J Q = (xin i (LN a) = true ∧ X E d y (pc + 1) ls st (xuI I a i.toNatClampNeg (vp_nar .boolean x)) J Q) := by
  have hs : stp (mC y) (mIni y) d E pc .bastore ls (.int x :: .int i :: .ref a :: st) (hp I J) = if xin i (LN a) = true then some (pc + 1, ls, st, hp (xuI I a i.toNatClampNeg (vp_nar .boolean x)) J) else none := by
    simp only [stp, xbas]
    by_cases h : xin i (LN a) = true
    · rw [if_pos ⟨KD_top ha (by omega), ha, h⟩, if_pos h]
      rfl
    · rw [if_neg (fun q => h q.2.2), if_neg h]
  by_cases h : xin i (LN a) = true
  · rw [if_pos h] at hs
    rw [X_stp hd rfl rfl rfl hs]
    exact propext ⟨fun q => ⟨h, q⟩, fun q => q.2⟩
  · rw [if_neg h] at hs
    rw [X_no hd rfl rfl hs]
    exact propext ⟨fun q => q.elim, fun q => h q.1⟩
theorem X_last {i : Int32} {x : Int64} (hd : dec y pc = some (.lastore, 1)) (ha : KD a = 11) : X E d y pc ls (.long x :: .int i :: .ref a :: st) I J Q = (xin i (LN a) = true ∧ X E d y (pc + 1) ls st I (xuJ J a i.toNatClampNeg x) Q) := by
  have hs : stp (mC y) (mIni y) d E pc .lastore ls (.long x :: .int i :: .ref a :: st) (hp I J) = if xin i (LN a) = true then some (pc + 1, ls, st, hp I (xuJ J a i.toNatClampNeg x)) else none := by
    simp only [stp, xlas]
    by_cases h : xin i (LN a) = true
    · rw [if_pos ⟨KD_top ha (by omega), ha, h⟩, if_pos h]
      rfl
    · rw [if_neg (fun q => h q.2.2), if_neg h]
  by_cases h : xin i (LN a) = true
  · rw [if_pos h] at hs
    rw [X_stp hd rfl rfl rfl hs]
    exact propext ⟨fun q => ⟨h, q⟩, fun q => q.2⟩
  · rw [if_neg h] at hs
    rw [X_no hd rfl rfl hs]
    exact propext ⟨fun q => q.elim, fun q => h q.1⟩
theorem X_alen (hd : dec y pc = some (.arraylength, 1)) (ha : 10 ≤ KD a ∧ KD a < 18) : X E d y pc ls (.ref a :: st) I J Q = X E d y (pc + 1) ls (.int (Int32.ofNat (LN a)) :: st) I J Q := by
  have hn := KD_scr (a := a) rfl (show KD a < 99 by omega)
  refine X_stp hd rfl rfl rfl ?_
  simp only [stp, xlen]
  rw [if_neg hn.1, if_neg hn.2, if_pos ⟨KD_top rfl (by omega), ha.1, ha.2⟩]
  rfl
theorem X_div {f : Int32 → Int32 → Int32} {x0 y0 : Int32} (hd : dec y pc = some (ins, 1)) (hl : xlenOK ins 1 = true) (hr : xrt y ins (.int y0 :: .int x0 :: st) = none) (hc : xcl (mC y) ins = none) (hs : stp (mC y) (mIni y) d E pc ins ls (.int y0 :: .int x0 :: st) (hp I J) = xd2 f ls (.int y0 :: .int x0 :: st) (hp I J) pc) : X E d y pc ls (.int y0 :: .int x0 :: st) I J Q = (¬ y0 = 0 ∧ X E d y (pc + 1) ls (.int (f x0 y0) :: st) I J Q) := by
  unfold xd2 at hs
  simp only at hs
  by_cases h : y0 = 0
  · rw [if_pos h] at hs
    rw [X_no hd hr hc hs]
    exact propext ⟨fun q => q.elim, fun q => q.1 h⟩
  · rw [if_neg h] at hs
    rw [X_stp hd hl hr hc hs]
    exact propext ⟨fun q => ⟨h, q⟩, fun q => q.2⟩
theorem X_ldv {f : Int64 → Int64 → Int64} {x0 y0 : Int64} (hd : dec y pc = some (ins, 1)) (hl : xlenOK ins 1 = true) (hr : xrt y ins (.long y0 :: .long x0 :: st) = none) (hc : xcl (mC y) ins = none) (hs : stp (mC y) (mIni y) d E pc ins ls (.long y0 :: .long x0 :: st) (hp I J) = xe2 f ls (.long y0 :: .long x0 :: st) (hp I J) pc) : X E d y pc ls (.long y0 :: .long x0 :: st) I J Q = (¬ y0 = 0 ∧ X E d y (pc + 1) ls (.long (f x0 y0) :: st) I J Q) := by
  unfold xe2 at hs
  simp only at hs
  by_cases h : y0 = 0
  · rw [if_pos h] at hs
    rw [X_no hd hr hc hs]
    exact propext ⟨fun q => q.elim, fun q => q.1 h⟩
  · rw [if_neg h] at hs
    rw [X_stp hd hl hr hc hs]
    exact propext ⟨fun q => ⟨h, q⟩, fun q => q.2⟩
theorem X_acp {n dp sp : Int32} {a0 : Nat} (hd : dec y pc = some (.invokestatic idx, 3)) (hr : rs (mC y) idx = (8, ci, k)) (hsum : (st.map fun v => v.category).sum ≤ 8) (h0 : KD a0 = 10) (h1 : KD a = 10) (hn : ¬ n < 0) (hdp : ¬ dp < 0) (hsp : ¬ sp < 0) (hl0 : sp.toNatClampNeg + n.toNatClampNeg ≤ LN a0) (hl1 : dp.toNatClampNeg + n.toNatClampNeg ≤ LN a) : X E (d + 1) y pc ls (.int n :: .int dp :: .ref a :: .int sp :: .ref a0 :: st) I J Q = X E (d + 1) y (pc + 3) ls st (xcI I a0 sp.toNatClampNeg a dp.toNatClampNeg n.toNatClampNeg) J Q := by
  have hc : xcl (mC y) (.invokestatic idx) = none := by
    unfold xcl
    simp only
    rw [hr]
    rfl
  refine X_stp hd rfl rfl hc ?_
  simp only [stp, hr]
  rw [if_neg (by omega)]
  unfold xac
  simp only
  have e0 : xkd (hp I J) a0 = (KD a0, LN a0) := rfl
  have e1 : xkd (hp I J) a = (KD a, LN a) := rfl
  rw [e0, e1, if_neg]
  · rfl
  · have t0 := KD_top h0 (by omega)
    have t1 := KD_top h1 (by omega)
    simp only [h0, h1, hn, hdp, hsp, not_true_eq_false, false_or, not_or, Nat.not_le, Nat.not_lt]
    exact ⟨t1, t0, hl0, hl1, hsum⟩
def okP (own : Nat) (ins : Instr) : Bool := match ins with
  | .new idx => !decide ((rs own idx).1 = 5)
  | .newarray _ => false
  | .anewarray idx => !decide ((rs own idx).1 = 5)
  | .multianewarray idx _ => !decide ((rs own idx).1 = 10)
  | .aastore => false
  | .putfield idx => decide ((rs own idx).1 = 0) && (decide (tyC (rs own idx).2.1 (rs own idx).2.2 = .int) || decide (tyC (rs own idx).2.1 (rs own idx).2.2 = .long))
  | _ => true
theorem stp_hp {own : Nat} {ctor : Bool} {pc' : Nat} {h' : XH} (hi : okP own ins = true) (hs : stp own ctor d E pc ins ls st (hp I J) = some (pc', ls', st', h')) : ∃ (I' : Nat → Nat → Int32) (J' : Nat → Nat → Int64), h' = hp I' J' := by
  have nil : ∃ (I' : Nat → Nat → Int32) (J' : Nat → Nat → Int64), hp I J = hp I' J' := ⟨I, J, rfl⟩
  cases ins <;> try (cases hi; done)
  case putfield idx =>
    simp only [stp, xpf] at hs
    simp only [okP, Bool.and_eq_true, Bool.or_eq_true, decide_eq_true_eq] at hi
    obtain ⟨h0, h1⟩ := hi
    repeat' split at hs
    all_goals first | (cases hs; done) | (cases hs; exact ⟨_, _, rfl⟩) | (simp_all; done)
  case new idx =>
    simp only [stp, xnew] at hs
    simp only [okP, Bool.not_eq_true', decide_eq_false_iff_not] at hi
    repeat' split at hs
    all_goals first | (cases hs; done) | (simp_all; done)
  case anewarray idx =>
    simp only [stp, xan] at hs
    simp only [okP, Bool.not_eq_true', decide_eq_false_iff_not] at hi
    repeat' split at hs
    all_goals first | (cases hs; done) | (simp_all; done)
  case multianewarray idx dm =>
    simp only [stp, xmn] at hs
    simp only [okP, Bool.not_eq_true', decide_eq_false_iff_not] at hi
    repeat' split at hs
    all_goals first | (cases hs; done) | (simp_all; done)
  all_goals simp only [stp] at hs
  all_goals try (cases hs; done)
  all_goals try (cases hs; exact nil)
  all_goals try simp only [xli, xll, xla, xsi, xsl, xsa, xi2, xd2, xl2, xe2, xlsh, xif, xts, xlk, xgf, xgs, xial, xbal, xlal, xaal, xias, xbas, xlas, xlen, xoi, xac] at hs
  all_goals repeat' split at hs
  all_goals first | (cases hs; done) | (cases hs; exact nil) | (cases hs; exact ⟨_, _, rfl⟩)
end XR
def cs1 : List Nat := (List.range 195).filter (fun y => !(mIni y))
theorem cs1_ok : cs1.all (fun y => (cdT y).all (fun e => okP (mC y) e.2.1 && (match xcl (mC y) e.2.1 with | some q => cs1.contains q.1 | none => true))) = true := by decide +kernel
theorem ev_hp {E : XE} : ∀ (n : Nat) {d y pc : Nat} {ls st : List Value} {I : Nat → Nat → Int32} {J : Nat → Nat → Int64} {r : Option Value} {h' : XH}, cs1.contains y = true → ev E n d y pc ls st (hp I J) = some (r, h') → ∃ (I' : Nat → Nat → Int32) (J' : Nat → Nat → Int64), h' = hp I' J'
  | 0, _, _, _, _, _, _, _, _, _, _, he => by simp [ev] at he
  | n + 1, d, y, pc, ls, st, I, J, r, h', hy, he => by
    rw [ev] at he
    cases hdec : dec y pc with
    | none =>
      rw [hdec] at he
      cases he
    | some q =>
      obtain ⟨ins, len⟩ := q
      rw [hdec] at he
      simp only at he
      obtain ⟨e, hem, hei⟩ := dec_mem hdec
      have h1 := List.all_eq_true.mp (List.all_eq_true.mp cs1_ok y (List.contains_iff_mem.mp hy)) e hem
      rw [hei, Bool.and_eq_true] at h1
      obtain ⟨h2, h3⟩ := h1
      split at he
      · split at he
        · cases he
          exact ⟨I, J, rfl⟩
        · split at he
          · next y' o hcl =>
            rw [hcl] at h3
            simp only at h3
            split at he
            · cases he
            · split at he
              · split at he
                · next r1 h1 he1 =>
                  obtain ⟨I1, J1, e1⟩ := ev_hp n h3 he1
                  rw [e1] at he
                  exact ev_hp n hy he
                · cases he
              · cases he
          · split at he
            · next pc' ls' st' h1 hs =>
              obtain ⟨I1, J1, e1⟩ := stp_hp h2 hs
              rw [e1] at he
              exact ev_hp n hy he
            · cases he
      · cases he
theorem X_call {E : XE} {d y pc : Nat} {ins : Instr} {ls st : List Value} {I : Nat → Nat → Int32} {J : Nat → Nat → Int64} {Q : XQt} {y' o n : Nat} {as rest : List Value} (hcs : cs1.contains y' = true) (hd : dec y pc = some (ins, 3)) (hl : xlenOK ins 3 = true) (hr : xrt y ins st = none) (hc : xcl (mC y) ins = some (y', o)) (hk : mA y' + o = n) (hst : st = as.reverse ++ rest) (hal : as.length = n) (hsum : (rest.map fun v => v.category).sum ≤ 8) (hxl : (xen as).length ≤ mL y') (hrc : o = 1 → xrc y' as (hp I J) = true) :
    X E (d + 1) y pc ls st I J Q = XM E d y' as I J (fun r I1 J1 => X E (d + 1) y (pc + 3) ls (r.toList ++ rest) I1 J1 Q) := by
  unfold X XM X
  rw [Ev_call hd hl hr hc hk hst hal hsum hxl hrc]
  refine propext ⟨fun ⟨m, r, h', he, hq⟩ => ?_, fun hx => Ev_imp (fun r h' ⟨I1, J1, e, hx⟩ => ?_) hx⟩
  · obtain ⟨I1, J1, e⟩ := ev_hp m hcs he
    exact ⟨m, r, h', he, I1, J1, e, by rw [e] at hq; exact hq⟩
  · rw [e]
    exact hx
theorem xrc_obj {a y' : Nat} {r : List Value} {I : Nat → Nat → Int32} {J : Nat → Nat → Int64} (ha : KD a = mC y') (hy : mC y' < 10) : xrc y' (.ref a :: r) (hp I J) = true := by
  unfold xrc
  have e : (xkd (hp I J) a).1 = mC y' := ha
  simp only [e, KD_top ha (by omega), hy, decide_true, Bool.and_self, Bool.true_or]
theorem X_gfV {E : XE} {d y pc idx ci k a : Nat} {ls st : List Value} {I : Nat → Nat → Int32} {J : Nat → Nat → Int64} {Q : XQt} (hd : dec y pc = some (.getfield idx, 3)) (hr : rs (mC y) idx = (0, ci, k)) (hk : ci < 10 ∧ k < NC ci) (hty : (tyC ci k).isReference = true) (ha : KD a = ci) : X E d y pc ls (.ref a :: st) I J Q = X E d y (pc + 3) ls (va_rf (P0 a k) :: st) I J Q := by
  refine X_stp hd rfl rfl rfl ?_
  simp only [stp, xgf, hr]
  rw [if_pos ⟨KD_top ha (by omega), ha, hk⟩]
  have e : xfv ci k (hp I J) a = va_rf (P0 a k) := by
    unfold xfv
    cases h : tyC ci k <;> first | (rw [h] at hty; cases hty; done) | rfl
  rw [e]
theorem X_tsw {E : XE} {d y pc len td : Nat} {dflt lo hi : Int} {offs : Array Int} {ls st : List Value} {I : Nat → Nat → Int32} {J : Nat → Nat → Int64} {Q : XQt} {x : Int32} (tg : Int → Nat) (hd : dec y pc = some (.tableswitch dflt lo hi offs, len)) (hdf : xgo pc dflt = some td) (hall : ∀ z : Int, ¬ (z < lo ∨ hi < z) → (match offs[(z - lo).toNat]? with | some off => xgo pc off | none => none) = some (tg z)) : X E d y pc ls (.int x :: st) I J Q = if x.toInt < lo ∨ hi < x.toInt then X E d y td ls st I J Q else X E d y (tg x.toInt) ls st I J Q := by
  by_cases h : x.toInt < lo ∨ hi < x.toInt
  · rw [if_pos h]
    refine X_stp hd rfl rfl rfl ?_
    simp only [stp, xts]
    rw [if_pos h, hdf]
  · rw [if_neg h]
    refine X_stp hd rfl rfl rfl ?_
    simp only [stp, xts]
    rw [if_neg h]
    have h1 := hall x.toInt h
    split at h1
    · next off ho =>
      rw [ho]
      simp only
      rw [h1]
    · cases h1
theorem xrc_str {a y' : Nat} {r : List Value} {I : Nat → Nat → Int32} {J : Nat → Nat → Int64} (ha : xStr ≤ a ∧ a < xStr + 5) (hy : mC y' = 20) : xrc y' (.ref a :: r) (hp I J) = true := by
  unfold xrc
  simp only [ha.1, ha.2, hy, decide_true, Bool.and_self, Bool.or_true]
theorem xkl_int {x : Int32} : xkl (.int x) = .int x := rfl
theorem xkl_ref {x : Nat} : xkl (.ref x) = .ref x := rfl
theorem xkl_dm : xkl xdm = xdm := rfl
theorem xkl_long {x : Int64} : xkl (.long x) = xdm := rfl
theorem va_rf_some {q : Nat} : va_rf (some q) = .ref q := rfl
theorem tl_some {v : Value} {r : List Value} : (some v).toList ++ r = v :: r := rfl
theorem tl_none {r : List Value} : (none : Option Value).toList ++ r = r := rfl
