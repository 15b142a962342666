/-! TEXTS OF THE CLASS: tokens -/
def TX (a n : Nat) (B : Nat → Int32) (I : Iv) : Prop := KD a = 6 ∧ P0 a 0 = some (a + 1) ∧ KD (a + 1) = 10 ∧ LN (a + 1) = 160 ∧ I a 1 = o n ∧ n ≤ 160 ∧ ∀ i, i < n → I (a + 1) i = B i
def isB (B : Nat → Int32) (i : Nat) : Bool := decide (B i = 32)
def isL (B : Nat → Int32) (i : Nat) : Bool := decide (97 ≤ (B i).toInt ∧ (B i).toInt ≤ 122)
def isF (B : Nat → Int32) (i : Nat) : Bool := decide (48 ≤ (B i).toInt ∧ (B i).toInt ≤ 57)
def runW (P : Nat → Bool) : Nat → Nat → Nat
  | 0, p => p
  | f + 1, p => if P p = true then runW P f (p + 1) else p
theorem runW_le {P : Nat → Bool} : ∀ (f p : Nat), p ≤ runW P f p ∧ runW P f p ≤ p + f
  | 0, p => ⟨Nat.le_refl _, Nat.le_refl _⟩
  | f + 1, p => by
    unfold runW
    split
    · have := runW_le (P := P) f (p + 1)
      omega
    · omega
def skp (B : Nat → Int32) (n p : Nat) : Nat := runW (isB B) (n - p) p
def tkE (B : Nat → Int32) (n p : Nat) : Nat := if isL B p = true then runW (isL B) (n - (p + 1)) (p + 1) else if isF B p = true then runW (isF B) (n - (p + 1)) (p + 1) else p + 1
theorem tkE_le {B : Nat → Int32} {n p : Nat} (h : p < n) : p < tkE B n p ∧ tkE B n p ≤ n := by
  unfold tkE
  split
  · have := runW_le (P := isL B) (n - (p + 1)) (p + 1)
    omega
  · split
    · have := runW_le (P := isF B) (n - (p + 1)) (p + 1)
      omega
    · omega
theorem skp_le {B : Nat → Int32} {n p : Nat} (h : p ≤ n) : p ≤ skp B n p ∧ skp B n p ≤ n := by
  have := runW_le (P := isB B) (n - p) p
  unfold skp
  omega
def splF (B : Nat → Int32) (p e w : Nat) : Bool := decide (e - p = lenW w ∧ ∀ k, k < lenW w → B (p + k) = chW w k)
def numV (B : Nat → Int32) (p : Nat) : Nat → Int32
  | 0 => 0
  | k + 1 => 10 * numV B p k + B (p + k) - 48
def numF (B : Nat → Int32) (p e : Nat) : Int32 := if isF B p = true then (if e - p ≤ 2 then numV B p (e - p) else -1) else -1
section
variable {E : XE} {d : Nat} {I : Iv} {J : Jv} {Q : XQt} {a n : Nat} {B : Nat → Int32}
theorem t_isBlank {i : Nat} (hi : i < n) (h : TX a n B I) : XM E d 34 [.ref a, .int (o i)] I J Q = Q (some (.int (bI (isB B i)))) I J := by
  obtain ⟨h1, h2, h3, h4, h5, h6, h7⟩ := h
  have k5 : i < 160 := by omega
  have b := h7 i hi
  by_cases z : B i = 32
  · have e : isB B i = true := by unfold isB; rw [decide_eq_true_eq]; exact z
    rw [e]
    simp (disch := first | omega | (simp only [nar_0, nar_1, nar_b, and_self, Nat.reduceLeDiff, Nat.reduceLT, Int32.reduceToInt]; done) | fail) only [mText_isBlank, eText_isBlank_0, eText_isBlank_1, eText_isBlank_4, eText_isBlank_5, eText_isBlank_6, eText_isBlank_8, eText_isBlank_11, eText_isBlank_12, eText_isBlank_15, eText_isBlank_16, va_rf_some, xl_0, xl_1, xl_2, xl_3, xl_4, xl_5, xl_6, xl_7, xl_8, xl_458, xl_459, xl_460, and_false, false_and, tl_some, tl_none, xkl_int, xkl_ref, xkl_dm, xkl_long, true_and, and_true, o_cl, xin_o, lt_ti, le_ti, ito_o, t32_64, o_add1, oz, op0, op1, op2, op3, op4, op5, op6, op7, o8m, o3m, o161m, o461m, o48p, o66p, o72p, o136p, Int32.reduceToInt, Int32.reduceToNatClampNeg, i_10, i_01, le_om1, Int64.reduceToInt, ↓reduceIte, ite_n, ite_p, xu_hit, xu_miss, op11, not_true_eq_false, not_false_eq_true, decide_true, decide_false, bIt0, bIf0, and_self, Int.reduceLE, Int.reduceLT, Int32.reduceAdd, Nat.reduceLeDiff, Nat.reduceLT, Nat.reduceAdd, Nat.reduceMul, Nat.reduceEqDiff, Nat.add_zero, Nat.zero_add, h1, h2, h3, h4, k5, b, z]
    rfl
  · have e : isB B i = false := by unfold isB; rw [decide_eq_false_iff_not]; exact z
    rw [e]
    simp (disch := first | omega | (simp only [nar_0, nar_1, nar_b, and_self, Nat.reduceLeDiff, Nat.reduceLT, Int32.reduceToInt]; done) | fail) only [mText_isBlank, eText_isBlank_0, eText_isBlank_1, eText_isBlank_4, eText_isBlank_5, eText_isBlank_6, eText_isBlank_8, eText_isBlank_11, eText_isBlank_12, eText_isBlank_15, eText_isBlank_16, va_rf_some, xl_0, xl_1, xl_2, xl_3, xl_4, xl_5, xl_6, xl_7, xl_8, xl_458, xl_459, xl_460, and_false, false_and, tl_some, tl_none, xkl_int, xkl_ref, xkl_dm, xkl_long, true_and, and_true, o_cl, xin_o, lt_ti, le_ti, ito_o, t32_64, o_add1, oz, op0, op1, op2, op3, op4, op5, op6, op7, o8m, o3m, o161m, o461m, o48p, o66p, o72p, o136p, Int32.reduceToInt, Int32.reduceToNatClampNeg, i_10, i_01, le_om1, Int64.reduceToInt, ↓reduceIte, ite_n, ite_p, xu_hit, xu_miss, op11, not_true_eq_false, not_false_eq_true, decide_true, decide_false, bIt0, bIf0, and_self, Int.reduceLE, Int.reduceLT, Int32.reduceAdd, Nat.reduceLeDiff, Nat.reduceLT, Nat.reduceAdd, Nat.reduceMul, Nat.reduceEqDiff, Nat.add_zero, Nat.zero_add, h1, h2, h3, h4, k5, b, z]
    rfl
theorem t_isLetter {i : Nat} (hi : i < n) (h : TX a n B I) : XM E d 35 [.ref a, .int (o i)] I J Q = Q (some (.int (bI (isL B i)))) I J := by
  obtain ⟨h1, h2, h3, h4, h5, h6, h7⟩ := h
  have k5 : i < 160 := by omega
  have b := h7 i hi
  by_cases z : 97 ≤ (B i).toInt
  · have z' : ¬ (B i).toInt < 97 := by omega
    by_cases y : (B i).toInt ≤ 122
    · have y' : ¬ 122 < (B i).toInt := by omega
      have e : isL B i = true := by unfold isL; rw [decide_eq_true_eq]; exact ⟨z, y⟩
      rw [e]
      simp (disch := first | omega | (simp only [nar_0, nar_1, nar_b, and_self, Nat.reduceLeDiff, Nat.reduceLT, Int32.reduceToInt]; done) | fail) only [mText_isLetter, eText_isLetter_0, eText_isLetter_1, eText_isLetter_4, eText_isLetter_5, eText_isLetter_6, eText_isLetter_8, eText_isLetter_11, eText_isLetter_12, eText_isLetter_15, eText_isLetter_16, eText_isLetter_17, eText_isLetter_19, eText_isLetter_22, eText_isLetter_23, eText_isLetter_26, eText_isLetter_27, va_rf_some, xl_0, xl_1, xl_2, xl_3, xl_4, xl_5, xl_6, xl_7, xl_8, xl_458, xl_459, xl_460, and_false, false_and, tl_some, tl_none, xkl_int, xkl_ref, xkl_dm, xkl_long, true_and, and_true, o_cl, xin_o, lt_ti, le_ti, ito_o, t32_64, o_add1, oz, op0, op1, op2, op3, op4, op5, op6, op7, o8m, o3m, o161m, o461m, o48p, o66p, o72p, o136p, Int32.reduceToInt, Int32.reduceToNatClampNeg, i_10, i_01, le_om1, Int64.reduceToInt, ↓reduceIte, ite_n, ite_p, xu_hit, xu_miss, op11, not_true_eq_false, not_false_eq_true, decide_true, decide_false, bIt0, bIf0, and_self, Int.reduceLE, Int.reduceLT, Int32.reduceAdd, Nat.reduceLeDiff, Nat.reduceLT, Nat.reduceAdd, Nat.reduceMul, Nat.reduceEqDiff, Nat.add_zero, Nat.zero_add, h1, h2, h3, h4, k5, b, z', y']
      rfl
    · have y' : 122 < (B i).toInt := by omega
      have e : isL B i = false := by unfold isL; rw [decide_eq_false_iff_not]; omega
      rw [e]
      simp (disch := first | omega | (simp only [nar_0, nar_1, nar_b, and_self, Nat.reduceLeDiff, Nat.reduceLT, Int32.reduceToInt]; done) | fail) only [mText_isLetter, eText_isLetter_0, eText_isLetter_1, eText_isLetter_4, eText_isLetter_5, eText_isLetter_6, eText_isLetter_8, eText_isLetter_11, eText_isLetter_12, eText_isLetter_15, eText_isLetter_16, eText_isLetter_17, eText_isLetter_19, eText_isLetter_22, eText_isLetter_23, eText_isLetter_26, eText_isLetter_27, va_rf_some, xl_0, xl_1, xl_2, xl_3, xl_4, xl_5, xl_6, xl_7, xl_8, xl_458, xl_459, xl_460, and_false, false_and, tl_some, tl_none, xkl_int, xkl_ref, xkl_dm, xkl_long, true_and, and_true, o_cl, xin_o, lt_ti, le_ti, ito_o, t32_64, o_add1, oz, op0, op1, op2, op3, op4, op5, op6, op7, o8m, o3m, o161m, o461m, o48p, o66p, o72p, o136p, Int32.reduceToInt, Int32.reduceToNatClampNeg, i_10, i_01, le_om1, Int64.reduceToInt, ↓reduceIte, ite_n, ite_p, xu_hit, xu_miss, op11, not_true_eq_false, not_false_eq_true, decide_true, decide_false, bIt0, bIf0, and_self, Int.reduceLE, Int.reduceLT, Int32.reduceAdd, Nat.reduceLeDiff, Nat.reduceLT, Nat.reduceAdd, Nat.reduceMul, Nat.reduceEqDiff, Nat.add_zero, Nat.zero_add, h1, h2, h3, h4, k5, b, z', y']
      rfl
  · have z' : (B i).toInt < 97 := by omega
    have e : isL B i = false := by unfold isL; rw [decide_eq_false_iff_not]; omega
    rw [e]
    simp (disch := first | omega | (simp only [nar_0, nar_1, nar_b, and_self, Nat.reduceLeDiff, Nat.reduceLT, Int32.reduceToInt]; done) | fail) only [mText_isLetter, eText_isLetter_0, eText_isLetter_1, eText_isLetter_4, eText_isLetter_5, eText_isLetter_6, eText_isLetter_8, eText_isLetter_11, eText_isLetter_12, eText_isLetter_15, eText_isLetter_16, eText_isLetter_17, eText_isLetter_19, eText_isLetter_22, eText_isLetter_23, eText_isLetter_26, eText_isLetter_27, va_rf_some, xl_0, xl_1, xl_2, xl_3, xl_4, xl_5, xl_6, xl_7, xl_8, xl_458, xl_459, xl_460, and_false, false_and, tl_some, tl_none, xkl_int, xkl_ref, xkl_dm, xkl_long, true_and, and_true, o_cl, xin_o, lt_ti, le_ti, ito_o, t32_64, o_add1, oz, op0, op1, op2, op3, op4, op5, op6, op7, o8m, o3m, o161m, o461m, o48p, o66p, o72p, o136p, Int32.reduceToInt, Int32.reduceToNatClampNeg, i_10, i_01, le_om1, Int64.reduceToInt, ↓reduceIte, ite_n, ite_p, xu_hit, xu_miss, op11, not_true_eq_false, not_false_eq_true, decide_true, decide_false, bIt0, bIf0, and_self, Int.reduceLE, Int.reduceLT, Int32.reduceAdd, Nat.reduceLeDiff, Nat.reduceLT, Nat.reduceAdd, Nat.reduceMul, Nat.reduceEqDiff, Nat.add_zero, Nat.zero_add, h1, h2, h3, h4, k5, b, z']
    rfl
theorem t_isFigure {i : Nat} (hi : i < n) (h : TX a n B I) : XM E d 36 [.ref a, .int (o i)] I J Q = Q (some (.int (bI (isF B i)))) I J := by
  obtain ⟨h1, h2, h3, h4, h5, h6, h7⟩ := h
  have k5 : i < 160 := by omega
  have b := h7 i hi
  by_cases z : 48 ≤ (B i).toInt
  · have z' : ¬ (B i).toInt < 48 := by omega
    by_cases y : (B i).toInt ≤ 57
    · have y' : ¬ 57 < (B i).toInt := by omega
      have e : isF B i = true := by unfold isF; rw [decide_eq_true_eq]; exact ⟨z, y⟩
      rw [e]
      simp (disch := first | omega | (simp only [nar_0, nar_1, nar_b, and_self, Nat.reduceLeDiff, Nat.reduceLT, Int32.reduceToInt]; done) | fail) only [mText_isFigure, eText_isFigure_0, eText_isFigure_1, eText_isFigure_4, eText_isFigure_5, eText_isFigure_6, eText_isFigure_8, eText_isFigure_11, eText_isFigure_12, eText_isFigure_15, eText_isFigure_16, eText_isFigure_17, eText_isFigure_19, eText_isFigure_22, eText_isFigure_23, eText_isFigure_26, eText_isFigure_27, va_rf_some, xl_0, xl_1, xl_2, xl_3, xl_4, xl_5, xl_6, xl_7, xl_8, xl_458, xl_459, xl_460, and_false, false_and, tl_some, tl_none, xkl_int, xkl_ref, xkl_dm, xkl_long, true_and, and_true, o_cl, xin_o, lt_ti, le_ti, ito_o, t32_64, o_add1, oz, op0, op1, op2, op3, op4, op5, op6, op7, o8m, o3m, o161m, o461m, o48p, o66p, o72p, o136p, Int32.reduceToInt, Int32.reduceToNatClampNeg, i_10, i_01, le_om1, Int64.reduceToInt, ↓reduceIte, ite_n, ite_p, xu_hit, xu_miss, op11, not_true_eq_false, not_false_eq_true, decide_true, decide_false, bIt0, bIf0, and_self, Int.reduceLE, Int.reduceLT, Int32.reduceAdd, Nat.reduceLeDiff, Nat.reduceLT, Nat.reduceAdd, Nat.reduceMul, Nat.reduceEqDiff, Nat.add_zero, Nat.zero_add, h1, h2, h3, h4, k5, b, z', y']
      rfl
    · have y' : 57 < (B i).toInt := by omega
      have e : isF B i = false := by unfold isF; rw [decide_eq_false_iff_not]; omega
      rw [e]
      simp (disch := first | omega | (simp only [nar_0, nar_1, nar_b, and_self, Nat.reduceLeDiff, Nat.reduceLT, Int32.reduceToInt]; done) | fail) only [mText_isFigure, eText_isFigure_0, eText_isFigure_1, eText_isFigure_4, eText_isFigure_5, eText_isFigure_6, eText_isFigure_8, eText_isFigure_11, eText_isFigure_12, eText_isFigure_15, eText_isFigure_16, eText_isFigure_17, eText_isFigure_19, eText_isFigure_22, eText_isFigure_23, eText_isFigure_26, eText_isFigure_27, va_rf_some, xl_0, xl_1, xl_2, xl_3, xl_4, xl_5, xl_6, xl_7, xl_8, xl_458, xl_459, xl_460, and_false, false_and, tl_some, tl_none, xkl_int, xkl_ref, xkl_dm, xkl_long, true_and, and_true, o_cl, xin_o, lt_ti, le_ti, ito_o, t32_64, o_add1, oz, op0, op1, op2, op3, op4, op5, op6, op7, o8m, o3m, o161m, o461m, o48p, o66p, o72p, o136p, Int32.reduceToInt, Int32.reduceToNatClampNeg, i_10, i_01, le_om1, Int64.reduceToInt, ↓reduceIte, ite_n, ite_p, xu_hit, xu_miss, op11, not_true_eq_false, not_false_eq_true, decide_true, decide_false, bIt0, bIf0, and_self, Int.reduceLE, Int.reduceLT, Int32.reduceAdd, Nat.reduceLeDiff, Nat.reduceLT, Nat.reduceAdd, Nat.reduceMul, Nat.reduceEqDiff, Nat.add_zero, Nat.zero_add, h1, h2, h3, h4, k5, b, z', y']
      rfl
  · have z' : (B i).toInt < 48 := by omega
    have e : isF B i = false := by unfold isF; rw [decide_eq_false_iff_not]; omega
    rw [e]
    simp (disch := first | omega | (simp only [nar_0, nar_1, nar_b, and_self, Nat.reduceLeDiff, Nat.reduceLT, Int32.reduceToInt]; done) | fail) only [mText_isFigure, eText_isFigure_0, eText_isFigure_1, eText_isFigure_4, eText_isFigure_5, eText_isFigure_6, eText_isFigure_8, eText_isFigure_11, eText_isFigure_12, eText_isFigure_15, eText_isFigure_16, eText_isFigure_17, eText_isFigure_19, eText_isFigure_22, eText_isFigure_23, eText_isFigure_26, eText_isFigure_27, va_rf_some, xl_0, xl_1, xl_2, xl_3, xl_4, xl_5, xl_6, xl_7, xl_8, xl_458, xl_459, xl_460, and_false, false_and, tl_some, tl_none, xkl_int, xkl_ref, xkl_dm, xkl_long, true_and, and_true, o_cl, xin_o, lt_ti, le_ti, ito_o, t32_64, o_add1, oz, op0, op1, op2, op3, op4, op5, op6, op7, o8m, o3m, o161m, o461m, o48p, o66p, o72p, o136p, Int32.reduceToInt, Int32.reduceToNatClampNeg, i_10, i_01, le_om1, Int64.reduceToInt, ↓reduceIte, ite_n, ite_p, xu_hit, xu_miss, op11, not_true_eq_false, not_false_eq_true, decide_true, decide_false, bIt0, bIf0, and_self, Int.reduceLE, Int.reduceLT, Int32.reduceAdd, Nat.reduceLeDiff, Nat.reduceLT, Nat.reduceAdd, Nat.reduceMul, Nat.reduceEqDiff, Nat.add_zero, Nat.zero_add, h1, h2, h3, h4, k5, b, z']
    rfl
theorem tbl_loop {p0 : Nat} (h : TX a n B I) : ∀ (m p : Nat), p + m = n → X E (d + 1) 37 2 [.ref a, .int (o p0), .int (o p)] [] I J Q = Q (some (.int (o (runW (isB B) m p)))) I J
  | 0, p, hp => by
    obtain ⟨h1, h2, h3, h4, h5, h6, h7⟩ := h
    have e : p = n := by omega
    subst e
    have hj : (p : Int) ≤ (p : Int) := by omega
    rw [eText_blanksEnd_2]
    simp (disch := first | omega | (simp only [nar_0, nar_1, nar_b, and_self, Nat.reduceLeDiff, Nat.reduceLT, Int32.reduceToInt]; done) | fail) only [mText_blanksEnd, eText_blanksEnd_0, eText_blanksEnd_1, eText_blanksEnd_3, eText_blanksEnd_4, eText_blanksEnd_7, eText_blanksEnd_10, eText_blanksEnd_11, eText_blanksEnd_12, eText_blanksEnd_15, eText_blanksEnd_18, eText_blanksEnd_21, eText_blanksEnd_24, eText_blanksEnd_25, va_rf_some, xl_0, xl_1, xl_2, xl_3, xl_4, xl_5, xl_6, xl_7, xl_8, xl_458, xl_459, xl_460, and_false, false_and, tl_some, tl_none, xkl_int, xkl_ref, xkl_dm, xkl_long, true_and, and_true, o_cl, xin_o, lt_ti, le_ti, ito_o, t32_64, o_add1, oz, op0, op1, op2, op3, op4, op5, op6, op7, o8m, o3m, o161m, o461m, o48p, o66p, o72p, o136p, Int32.reduceToInt, Int32.reduceToNatClampNeg, i_10, i_01, le_om1, Int64.reduceToInt, ↓reduceIte, ite_n, ite_p, xu_hit, xu_miss, op11, not_true_eq_false, not_false_eq_true, decide_true, decide_false, bIt0, bIf0, and_self, Int.reduceLE, Int.reduceLT, Int32.reduceAdd, Nat.reduceLeDiff, Nat.reduceLT, Nat.reduceAdd, Nat.reduceMul, Nat.reduceEqDiff, Nat.add_zero, Nat.zero_add, h1, h5, hj, runW]
  | m + 1, p, hp => by
    have ih := tbl_loop (p0 := p0) h m (p + 1) (by omega)
    have hb := fun E d J Q => t_isBlank (E := E) (d := d) (J := J) (Q := Q) (by omega : p < n) h
    obtain ⟨h1, h2, h3, h4, h5, h6, h7⟩ := h
    have hj : ¬ (n : Int) ≤ (p : Int) := by omega
    unfold runW
    by_cases z : isB B p = true
    · rw [if_pos z]
      rw [eText_blanksEnd_2]
      simp (disch := first | omega | (simp only [nar_0, nar_1, nar_b, and_self, Nat.reduceLeDiff, Nat.reduceLT, Int32.reduceToInt]; done) | fail) only [mText_blanksEnd, eText_blanksEnd_0, eText_blanksEnd_1, eText_blanksEnd_3, eText_blanksEnd_4, eText_blanksEnd_7, eText_blanksEnd_10, eText_blanksEnd_11, eText_blanksEnd_12, eText_blanksEnd_15, eText_blanksEnd_18, eText_blanksEnd_21, eText_blanksEnd_24, eText_blanksEnd_25, va_rf_some, xl_0, xl_1, xl_2, xl_3, xl_4, xl_5, xl_6, xl_7, xl_8, xl_458, xl_459, xl_460, and_false, false_and, tl_some, tl_none, xkl_int, xkl_ref, xkl_dm, xkl_long, true_and, and_true, o_cl, xin_o, lt_ti, le_ti, ito_o, t32_64, o_add1, oz, op0, op1, op2, op3, op4, op5, op6, op7, o8m, o3m, o161m, o461m, o48p, o66p, o72p, o136p, Int32.reduceToInt, Int32.reduceToNatClampNeg, i_10, i_01, le_om1, Int64.reduceToInt, ↓reduceIte, ite_n, ite_p, xu_hit, xu_miss, op11, not_true_eq_false, not_false_eq_true, decide_true, decide_false, bIt0, bIf0, and_self, Int.reduceLE, Int.reduceLT, Int32.reduceAdd, Nat.reduceLeDiff, Nat.reduceLT, Nat.reduceAdd, Nat.reduceMul, Nat.reduceEqDiff, Nat.add_zero, Nat.zero_add, h1, h5, hj, hb, z]
      exact ih
    · have z' : isB B p = false := by simpa using z
      rw [if_neg z]
      rw [eText_blanksEnd_2]
      simp (disch := first | omega | (simp only [nar_0, nar_1, nar_b, and_self, Nat.reduceLeDiff, Nat.reduceLT, Int32.reduceToInt]; done) | fail) only [mText_blanksEnd, eText_blanksEnd_0, eText_blanksEnd_1, eText_blanksEnd_3, eText_blanksEnd_4, eText_blanksEnd_7, eText_blanksEnd_10, eText_blanksEnd_11, eText_blanksEnd_12, eText_blanksEnd_15, eText_blanksEnd_18, eText_blanksEnd_21, eText_blanksEnd_24, eText_blanksEnd_25, va_rf_some, xl_0, xl_1, xl_2, xl_3, xl_4, xl_5, xl_6, xl_7, xl_8, xl_458, xl_459, xl_460, and_false, false_and, tl_some, tl_none, xkl_int, xkl_ref, xkl_dm, xkl_long, true_and, and_true, o_cl, xin_o, lt_ti, le_ti, ito_o, t32_64, o_add1, oz, op0, op1, op2, op3, op4, op5, op6, op7, o8m, o3m, o161m, o461m, o48p, o66p, o72p, o136p, Int32.reduceToInt, Int32.reduceToNatClampNeg, i_10, i_01, le_om1, Int64.reduceToInt, ↓reduceIte, ite_n, ite_p, xu_hit, xu_miss, op11, not_true_eq_false, not_false_eq_true, decide_true, decide_false, bIt0, bIf0, and_self, Int.reduceLE, Int.reduceLT, Int32.reduceAdd, Nat.reduceLeDiff, Nat.reduceLT, Nat.reduceAdd, Nat.reduceMul, Nat.reduceEqDiff, Nat.add_zero, Nat.zero_add, h1, h5, hj, hb, z']
theorem t_blanks {p : Nat} (hp : p ≤ n) (h : TX a n B I) : XM E (d + 1) 37 [.ref a, .int (o p)] I J Q = Q (some (.int (o (skp B n p)))) I J := by
  simp (disch := first | omega | (simp only [nar_0, nar_1, nar_b, and_self, Nat.reduceLeDiff, Nat.reduceLT, Int32.reduceToInt]; done) | fail) only [mText_blanksEnd, eText_blanksEnd_0, eText_blanksEnd_1, eText_blanksEnd_3, eText_blanksEnd_4, eText_blanksEnd_7, eText_blanksEnd_10, eText_blanksEnd_11, eText_blanksEnd_12, eText_blanksEnd_15, eText_blanksEnd_18, eText_blanksEnd_21, eText_blanksEnd_24, eText_blanksEnd_25, va_rf_some, xl_0, xl_1, xl_2, xl_3, xl_4, xl_5, xl_6, xl_7, xl_8, xl_458, xl_459, xl_460, and_false, false_and, tl_some, tl_none, xkl_int, xkl_ref, xkl_dm, xkl_long, true_and, and_true, o_cl, xin_o, lt_ti, le_ti, ito_o, t32_64, o_add1, oz, op0, op1, op2, op3, op4, op5, op6, op7, o8m, o3m, o161m, o461m, o48p, o66p, o72p, o136p, Int32.reduceToInt, Int32.reduceToNatClampNeg, i_10, i_01, le_om1, Int64.reduceToInt, ↓reduceIte, ite_n, ite_p, xu_hit, xu_miss, op11, not_true_eq_false, not_false_eq_true, decide_true, decide_false, bIt0, bIf0, and_self, Int.reduceLE, Int.reduceLT, Int32.reduceAdd, Nat.reduceLeDiff, Nat.reduceLT, Nat.reduceAdd, Nat.reduceMul, Nat.reduceEqDiff, Nat.add_zero, Nat.zero_add]
  exact tbl_loop h (n - p) p (by omega)
theorem tel_loop {p0 : Nat} (h : TX a n B I) : ∀ (m p : Nat), p + m = n → X E (d + 1) 38 12 [.ref a, .int (o p0), .int (o p)] [] I J Q = Q (some (.int (o (runW (isL B) m p)))) I J
  | 0, p, hp => by
    obtain ⟨h1, h2, h3, h4, h5, h6, h7⟩ := h
    have e : p = n := by omega
    subst e
    have hj : (p : Int) ≤ (p : Int) := by omega
    rw [eText_tokenEnd_12]
    simp (disch := first | omega | (simp only [nar_0, nar_1, nar_b, and_self, Nat.reduceLeDiff, Nat.reduceLT, Int32.reduceToInt]; done) | fail) only [mText_tokenEnd, eText_tokenEnd_0, eText_tokenEnd_1, eText_tokenEnd_2, eText_tokenEnd_3, eText_tokenEnd_4, eText_tokenEnd_5, eText_tokenEnd_6, eText_tokenEnd_9, eText_tokenEnd_13, eText_tokenEnd_14, eText_tokenEnd_17, eText_tokenEnd_20, eText_tokenEnd_21, eText_tokenEnd_22, eText_tokenEnd_25, eText_tokenEnd_28, eText_tokenEnd_31, eText_tokenEnd_34, eText_tokenEnd_35, eText_tokenEnd_36, eText_tokenEnd_39, eText_tokenEnd_43, eText_tokenEnd_44, eText_tokenEnd_47, eText_tokenEnd_50, eText_tokenEnd_51, eText_tokenEnd_52, eText_tokenEnd_55, eText_tokenEnd_58, eText_tokenEnd_61, eText_tokenEnd_64, eText_tokenEnd_65, va_rf_some, xl_0, xl_1, xl_2, xl_3, xl_4, xl_5, xl_6, xl_7, xl_8, xl_458, xl_459, xl_460, and_false, false_and, tl_some, tl_none, xkl_int, xkl_ref, xkl_dm, xkl_long, true_and, and_true, o_cl, xin_o, lt_ti, le_ti, ito_o, t32_64, o_add1, oz, op0, op1, op2, op3, op4, op5, op6, op7, o8m, o3m, o161m, o461m, o48p, o66p, o72p, o136p, Int32.reduceToInt, Int32.reduceToNatClampNeg, i_10, i_01, le_om1, Int64.reduceToInt, ↓reduceIte, ite_n, ite_p, xu_hit, xu_miss, op11, not_true_eq_false, not_false_eq_true, decide_true, decide_false, bIt0, bIf0, and_self, Int.reduceLE, Int.reduceLT, Int32.reduceAdd, Nat.reduceLeDiff, Nat.reduceLT, Nat.reduceAdd, Nat.reduceMul, Nat.reduceEqDiff, Nat.add_zero, Nat.zero_add, h1, h5, hj, runW]
  | m + 1, p, hp => by
    have ih := tel_loop (p0 := p0) h m (p + 1) (by omega)
    have hb := fun E d J Q => t_isLetter (E := E) (d := d) (J := J) (Q := Q) (by omega : p < n) h
    obtain ⟨h1, h2, h3, h4, h5, h6, h7⟩ := h
    have hj : ¬ (n : Int) ≤ (p : Int) := by omega
    unfold runW
    by_cases z : isL B p = true
    · rw [if_pos z]
      rw [eText_tokenEnd_12]
      simp (disch := first | omega | (simp only [nar_0, nar_1, nar_b, and_self, Nat.reduceLeDiff, Nat.reduceLT, Int32.reduceToInt]; done) | fail) only [mText_tokenEnd, eText_tokenEnd_0, eText_tokenEnd_1, eText_tokenEnd_2, eText_tokenEnd_3, eText_tokenEnd_4, eText_tokenEnd_5, eText_tokenEnd_6, eText_tokenEnd_9, eText_tokenEnd_13, eText_tokenEnd_14, eText_tokenEnd_17, eText_tokenEnd_20, eText_tokenEnd_21, eText_tokenEnd_22, eText_tokenEnd_25, eText_tokenEnd_28, eText_tokenEnd_31, eText_tokenEnd_34, eText_tokenEnd_35, eText_tokenEnd_36, eText_tokenEnd_39, eText_tokenEnd_43, eText_tokenEnd_44, eText_tokenEnd_47, eText_tokenEnd_50, eText_tokenEnd_51, eText_tokenEnd_52, eText_tokenEnd_55, eText_tokenEnd_58, eText_tokenEnd_61, eText_tokenEnd_64, eText_tokenEnd_65, va_rf_some, xl_0, xl_1, xl_2, xl_3, xl_4, xl_5, xl_6, xl_7, xl_8, xl_458, xl_459, xl_460, and_false, false_and, tl_some, tl_none, xkl_int, xkl_ref, xkl_dm, xkl_long, true_and, and_true, o_cl, xin_o, lt_ti, le_ti, ito_o, t32_64, o_add1, oz, op0, op1, op2, op3, op4, op5, op6, op7, o8m, o3m, o161m, o461m, o48p, o66p, o72p, o136p, Int32.reduceToInt, Int32.reduceToNatClampNeg, i_10, i_01, le_om1, Int64.reduceToInt, ↓reduceIte, ite_n, ite_p, xu_hit, xu_miss, op11, not_true_eq_false, not_false_eq_true, decide_true, decide_false, bIt0, bIf0, and_self, Int.reduceLE, Int.reduceLT, Int32.reduceAdd, Nat.reduceLeDiff, Nat.reduceLT, Nat.reduceAdd, Nat.reduceMul, Nat.reduceEqDiff, Nat.add_zero, Nat.zero_add, h1, h5, hj, hb, z]
      exact ih
    · have z' : isL B p = false := by simpa using z
      rw [if_neg z]
      rw [eText_tokenEnd_12]
      simp (disch := first | omega | (simp only [nar_0, nar_1, nar_b, and_self, Nat.reduceLeDiff, Nat.reduceLT, Int32.reduceToInt]; done) | fail) only [mText_tokenEnd, eText_tokenEnd_0, eText_tokenEnd_1, eText_tokenEnd_2, eText_tokenEnd_3, eText_tokenEnd_4, eText_tokenEnd_5, eText_tokenEnd_6, eText_tokenEnd_9, eText_tokenEnd_13, eText_tokenEnd_14, eText_tokenEnd_17, eText_tokenEnd_20, eText_tokenEnd_21, eText_tokenEnd_22, eText_tokenEnd_25, eText_tokenEnd_28, eText_tokenEnd_31, eText_tokenEnd_34, eText_tokenEnd_35, eText_tokenEnd_36, eText_tokenEnd_39, eText_tokenEnd_43, eText_tokenEnd_44, eText_tokenEnd_47, eText_tokenEnd_50, eText_tokenEnd_51, eText_tokenEnd_52, eText_tokenEnd_55, eText_tokenEnd_58, eText_tokenEnd_61, eText_tokenEnd_64, eText_tokenEnd_65, va_rf_some, xl_0, xl_1, xl_2, xl_3, xl_4, xl_5, xl_6, xl_7, xl_8, xl_458, xl_459, xl_460, and_false, false_and, tl_some, tl_none, xkl_int, xkl_ref, xkl_dm, xkl_long, true_and, and_true, o_cl, xin_o, lt_ti, le_ti, ito_o, t32_64, o_add1, oz, op0, op1, op2, op3, op4, op5, op6, op7, o8m, o3m, o161m, o461m, o48p, o66p, o72p, o136p, Int32.reduceToInt, Int32.reduceToNatClampNeg, i_10, i_01, le_om1, Int64.reduceToInt, ↓reduceIte, ite_n, ite_p, xu_hit, xu_miss, op11, not_true_eq_false, not_false_eq_true, decide_true, decide_false, bIt0, bIf0, and_self, Int.reduceLE, Int.reduceLT, Int32.reduceAdd, Nat.reduceLeDiff, Nat.reduceLT, Nat.reduceAdd, Nat.reduceMul, Nat.reduceEqDiff, Nat.add_zero, Nat.zero_add, h1, h5, hj, hb, z']
theorem tef_loop {p0 : Nat} (h : TX a n B I) : ∀ (m p : Nat), p + m = n → X E (d + 1) 38 42 [.ref a, .int (o p0), .int (o p)] [] I J Q = Q (some (.int (o (runW (isF B) m p)))) I J
  | 0, p, hp => by
    obtain ⟨h1, h2, h3, h4, h5, h6, h7⟩ := h
    have e : p = n := by omega
    subst e
    have hj : (p : Int) ≤ (p : Int) := by omega
    rw [eText_tokenEnd_42]
    simp (disch := first | omega | (simp only [nar_0, nar_1, nar_b, and_self, Nat.reduceLeDiff, Nat.reduceLT, Int32.reduceToInt]; done) | fail) only [mText_tokenEnd, eText_tokenEnd_0, eText_tokenEnd_1, eText_tokenEnd_2, eText_tokenEnd_3, eText_tokenEnd_4, eText_tokenEnd_5, eText_tokenEnd_6, eText_tokenEnd_9, eText_tokenEnd_13, eText_tokenEnd_14, eText_tokenEnd_17, eText_tokenEnd_20, eText_tokenEnd_21, eText_tokenEnd_22, eText_tokenEnd_25, eText_tokenEnd_28, eText_tokenEnd_31, eText_tokenEnd_34, eText_tokenEnd_35, eText_tokenEnd_36, eText_tokenEnd_39, eText_tokenEnd_43, eText_tokenEnd_44, eText_tokenEnd_47, eText_tokenEnd_50, eText_tokenEnd_51, eText_tokenEnd_52, eText_tokenEnd_55, eText_tokenEnd_58, eText_tokenEnd_61, eText_tokenEnd_64, eText_tokenEnd_65, va_rf_some, xl_0, xl_1, xl_2, xl_3, xl_4, xl_5, xl_6, xl_7, xl_8, xl_458, xl_459, xl_460, and_false, false_and, tl_some, tl_none, xkl_int, xkl_ref, xkl_dm, xkl_long, true_and, and_true, o_cl, xin_o, lt_ti, le_ti, ito_o, t32_64, o_add1, oz, op0, op1, op2, op3, op4, op5, op6, op7, o8m, o3m, o161m, o461m, o48p, o66p, o72p, o136p, Int32.reduceToInt, Int32.reduceToNatClampNeg, i_10, i_01, le_om1, Int64.reduceToInt, ↓reduceIte, ite_n, ite_p, xu_hit, xu_miss, op11, not_true_eq_false, not_false_eq_true, decide_true, decide_false, bIt0, bIf0, and_self, Int.reduceLE, Int.reduceLT, Int32.reduceAdd, Nat.reduceLeDiff, Nat.reduceLT, Nat.reduceAdd, Nat.reduceMul, Nat.reduceEqDiff, Nat.add_zero, Nat.zero_add, h1, h5, hj, runW]
  | m + 1, p, hp => by
    have ih := tef_loop (p0 := p0) h m (p + 1) (by omega)
    have hb := fun E d J Q => t_isFigure (E := E) (d := d) (J := J) (Q := Q) (by omega : p < n) h
    obtain ⟨h1, h2, h3, h4, h5, h6, h7⟩ := h
    have hj : ¬ (n : Int) ≤ (p : Int) := by omega
    unfold runW
    by_cases z : isF B p = true
    · rw [if_pos z]
      rw [eText_tokenEnd_42]
      simp (disch := first | omega | (simp only [nar_0, nar_1, nar_b, and_self, Nat.reduceLeDiff, Nat.reduceLT, Int32.reduceToInt]; done) | fail) only [mText_tokenEnd, eText_tokenEnd_0, eText_tokenEnd_1, eText_tokenEnd_2, eText_tokenEnd_3, eText_tokenEnd_4, eText_tokenEnd_5, eText_tokenEnd_6, eText_tokenEnd_9, eText_tokenEnd_13, eText_tokenEnd_14, eText_tokenEnd_17, eText_tokenEnd_20, eText_tokenEnd_21, eText_tokenEnd_22, eText_tokenEnd_25, eText_tokenEnd_28, eText_tokenEnd_31, eText_tokenEnd_34, eText_tokenEnd_35, eText_tokenEnd_36, eText_tokenEnd_39, eText_tokenEnd_43, eText_tokenEnd_44, eText_tokenEnd_47, eText_tokenEnd_50, eText_tokenEnd_51, eText_tokenEnd_52, eText_tokenEnd_55, eText_tokenEnd_58, eText_tokenEnd_61, eText_tokenEnd_64, eText_tokenEnd_65, va_rf_some, xl_0, xl_1, xl_2, xl_3, xl_4, xl_5, xl_6, xl_7, xl_8, xl_458, xl_459, xl_460, and_false, false_and, tl_some, tl_none, xkl_int, xkl_ref, xkl_dm, xkl_long, true_and, and_true, o_cl, xin_o, lt_ti, le_ti, ito_o, t32_64, o_add1, oz, op0, op1, op2, op3, op4, op5, op6, op7, o8m, o3m, o161m, o461m, o48p, o66p, o72p, o136p, Int32.reduceToInt, Int32.reduceToNatClampNeg, i_10, i_01, le_om1, Int64.reduceToInt, ↓reduceIte, ite_n, ite_p, xu_hit, xu_miss, op11, not_true_eq_false, not_false_eq_true, decide_true, decide_false, bIt0, bIf0, and_self, Int.reduceLE, Int.reduceLT, Int32.reduceAdd, Nat.reduceLeDiff, Nat.reduceLT, Nat.reduceAdd, Nat.reduceMul, Nat.reduceEqDiff, Nat.add_zero, Nat.zero_add, h1, h5, hj, hb, z]
      exact ih
    · have z' : isF B p = false := by simpa using z
      rw [if_neg z]
      rw [eText_tokenEnd_42]
      simp (disch := first | omega | (simp only [nar_0, nar_1, nar_b, and_self, Nat.reduceLeDiff, Nat.reduceLT, Int32.reduceToInt]; done) | fail) only [mText_tokenEnd, eText_tokenEnd_0, eText_tokenEnd_1, eText_tokenEnd_2, eText_tokenEnd_3, eText_tokenEnd_4, eText_tokenEnd_5, eText_tokenEnd_6, eText_tokenEnd_9, eText_tokenEnd_13, eText_tokenEnd_14, eText_tokenEnd_17, eText_tokenEnd_20, eText_tokenEnd_21, eText_tokenEnd_22, eText_tokenEnd_25, eText_tokenEnd_28, eText_tokenEnd_31, eText_tokenEnd_34, eText_tokenEnd_35, eText_tokenEnd_36, eText_tokenEnd_39, eText_tokenEnd_43, eText_tokenEnd_44, eText_tokenEnd_47, eText_tokenEnd_50, eText_tokenEnd_51, eText_tokenEnd_52, eText_tokenEnd_55, eText_tokenEnd_58, eText_tokenEnd_61, eText_tokenEnd_64, eText_tokenEnd_65, va_rf_some, xl_0, xl_1, xl_2, xl_3, xl_4, xl_5, xl_6, xl_7, xl_8, xl_458, xl_459, xl_460, and_false, false_and, tl_some, tl_none, xkl_int, xkl_ref, xkl_dm, xkl_long, true_and, and_true, o_cl, xin_o, lt_ti, le_ti, ito_o, t32_64, o_add1, oz, op0, op1, op2, op3, op4, op5, op6, op7, o8m, o3m, o161m, o461m, o48p, o66p, o72p, o136p, Int32.reduceToInt, Int32.reduceToNatClampNeg, i_10, i_01, le_om1, Int64.reduceToInt, ↓reduceIte, ite_n, ite_p, xu_hit, xu_miss, op11, not_true_eq_false, not_false_eq_true, decide_true, decide_false, bIt0, bIf0, and_self, Int.reduceLE, Int.reduceLT, Int32.reduceAdd, Nat.reduceLeDiff, Nat.reduceLT, Nat.reduceAdd, Nat.reduceMul, Nat.reduceEqDiff, Nat.add_zero, Nat.zero_add, h1, h5, hj, hb, z']
theorem t_token {p : Nat} (hp : p < n) (h : TX a n B I) : XM E (d + 1) 38 [.ref a, .int (o p)] I J Q = Q (some (.int (o (tkE B n p)))) I J := by
  have hl := fun E d J Q => t_isLetter (E := E) (d := d) (J := J) (Q := Q) hp h
  have hf := fun E d J Q => t_isFigure (E := E) (d := d) (J := J) (Q := Q) hp h
  have l1 := tel_loop (E := E) (d := d) (J := J) (Q := Q) (p0 := p) h (n - (p + 1)) (p + 1) (by omega)
  have l2 := tef_loop (E := E) (d := d) (J := J) (Q := Q) (p0 := p) h (n - (p + 1)) (p + 1) (by omega)
  obtain ⟨h1, h2, h3, h4, h5, h6, h7⟩ := h
  unfold tkE
  by_cases z : isL B p = true
  · rw [if_pos z]
    simp (disch := first | omega | (simp only [nar_0, nar_1, nar_b, and_self, Nat.reduceLeDiff, Nat.reduceLT, Int32.reduceToInt]; done) | fail) only [mText_tokenEnd, eText_tokenEnd_0, eText_tokenEnd_1, eText_tokenEnd_2, eText_tokenEnd_3, eText_tokenEnd_4, eText_tokenEnd_5, eText_tokenEnd_6, eText_tokenEnd_9, eText_tokenEnd_13, eText_tokenEnd_14, eText_tokenEnd_17, eText_tokenEnd_20, eText_tokenEnd_21, eText_tokenEnd_22, eText_tokenEnd_25, eText_tokenEnd_28, eText_tokenEnd_31, eText_tokenEnd_34, eText_tokenEnd_35, eText_tokenEnd_36, eText_tokenEnd_39, eText_tokenEnd_43, eText_tokenEnd_44, eText_tokenEnd_47, eText_tokenEnd_50, eText_tokenEnd_51, eText_tokenEnd_52, eText_tokenEnd_55, eText_tokenEnd_58, eText_tokenEnd_61, eText_tokenEnd_64, eText_tokenEnd_65, va_rf_some, xl_0, xl_1, xl_2, xl_3, xl_4, xl_5, xl_6, xl_7, xl_8, xl_458, xl_459, xl_460, and_false, false_and, tl_some, tl_none, xkl_int, xkl_ref, xkl_dm, xkl_long, true_and, and_true, o_cl, xin_o, lt_ti, le_ti, ito_o, t32_64, o_add1, oz, op0, op1, op2, op3, op4, op5, op6, op7, o8m, o3m, o161m, o461m, o48p, o66p, o72p, o136p, Int32.reduceToInt, Int32.reduceToNatClampNeg, i_10, i_01, le_om1, Int64.reduceToInt, ↓reduceIte, ite_n, ite_p, xu_hit, xu_miss, op11, not_true_eq_false, not_false_eq_true, decide_true, decide_false, bIt0, bIf0, and_self, Int.reduceLE, Int.reduceLT, Int32.reduceAdd, Nat.reduceLeDiff, Nat.reduceLT, Nat.reduceAdd, Nat.reduceMul, Nat.reduceEqDiff, Nat.add_zero, Nat.zero_add, h1, hl, z]
    exact l1
  · have z' : isL B p = false := by simpa using z
    rw [if_neg z]
    by_cases y : isF B p = true
    · rw [if_pos y]
      simp (disch := first | omega | (simp only [nar_0, nar_1, nar_b, and_self, Nat.reduceLeDiff, Nat.reduceLT, Int32.reduceToInt]; done) | fail) only [mText_tokenEnd, eText_tokenEnd_0, eText_tokenEnd_1, eText_tokenEnd_2, eText_tokenEnd_3, eText_tokenEnd_4, eText_tokenEnd_5, eText_tokenEnd_6, eText_tokenEnd_9, eText_tokenEnd_13, eText_tokenEnd_14, eText_tokenEnd_17, eText_tokenEnd_20, eText_tokenEnd_21, eText_tokenEnd_22, eText_tokenEnd_25, eText_tokenEnd_28, eText_tokenEnd_31, eText_tokenEnd_34, eText_tokenEnd_35, eText_tokenEnd_36, eText_tokenEnd_39, eText_tokenEnd_43, eText_tokenEnd_44, eText_tokenEnd_47, eText_tokenEnd_50, eText_tokenEnd_51, eText_tokenEnd_52, eText_tokenEnd_55, eText_tokenEnd_58, eText_tokenEnd_61, eText_tokenEnd_64, eText_tokenEnd_65, va_rf_some, xl_0, xl_1, xl_2, xl_3, xl_4, xl_5, xl_6, xl_7, xl_8, xl_458, xl_459, xl_460, and_false, false_and, tl_some, tl_none, xkl_int, xkl_ref, xkl_dm, xkl_long, true_and, and_true, o_cl, xin_o, lt_ti, le_ti, ito_o, t32_64, o_add1, oz, op0, op1, op2, op3, op4, op5, op6, op7, o8m, o3m, o161m, o461m, o48p, o66p, o72p, o136p, Int32.reduceToInt, Int32.reduceToNatClampNeg, i_10, i_01, le_om1, Int64.reduceToInt, ↓reduceIte, ite_n, ite_p, xu_hit, xu_miss, op11, not_true_eq_false, not_false_eq_true, decide_true, decide_false, bIt0, bIf0, and_self, Int.reduceLE, Int.reduceLT, Int32.reduceAdd, Nat.reduceLeDiff, Nat.reduceLT, Nat.reduceAdd, Nat.reduceMul, Nat.reduceEqDiff, Nat.add_zero, Nat.zero_add, h1, hl, z', hf, y]
      exact l2
    · have y' : isF B p = false := by simpa using y
      rw [if_neg y]
      simp (disch := first | omega | (simp only [nar_0, nar_1, nar_b, and_self, Nat.reduceLeDiff, Nat.reduceLT, Int32.reduceToInt]; done) | fail) only [mText_tokenEnd, eText_tokenEnd_0, eText_tokenEnd_1, eText_tokenEnd_2, eText_tokenEnd_3, eText_tokenEnd_4, eText_tokenEnd_5, eText_tokenEnd_6, eText_tokenEnd_9, eText_tokenEnd_13, eText_tokenEnd_14, eText_tokenEnd_17, eText_tokenEnd_20, eText_tokenEnd_21, eText_tokenEnd_22, eText_tokenEnd_25, eText_tokenEnd_28, eText_tokenEnd_31, eText_tokenEnd_34, eText_tokenEnd_35, eText_tokenEnd_36, eText_tokenEnd_39, eText_tokenEnd_43, eText_tokenEnd_44, eText_tokenEnd_47, eText_tokenEnd_50, eText_tokenEnd_51, eText_tokenEnd_52, eText_tokenEnd_55, eText_tokenEnd_58, eText_tokenEnd_61, eText_tokenEnd_64, eText_tokenEnd_65, va_rf_some, xl_0, xl_1, xl_2, xl_3, xl_4, xl_5, xl_6, xl_7, xl_8, xl_458, xl_459, xl_460, and_false, false_and, tl_some, tl_none, xkl_int, xkl_ref, xkl_dm, xkl_long, true_and, and_true, o_cl, xin_o, lt_ti, le_ti, ito_o, t32_64, o_add1, oz, op0, op1, op2, op3, op4, op5, op6, op7, o8m, o3m, o161m, o461m, o48p, o66p, o72p, o136p, Int32.reduceToInt, Int32.reduceToNatClampNeg, i_10, i_01, le_om1, Int64.reduceToInt, ↓reduceIte, ite_n, ite_p, xu_hit, xu_miss, op11, not_true_eq_false, not_false_eq_true, decide_true, decide_false, bIt0, bIf0, and_self, Int.reduceLE, Int.reduceLT, Int32.reduceAdd, Nat.reduceLeDiff, Nat.reduceLT, Nat.reduceAdd, Nat.reduceMul, Nat.reduceEqDiff, Nat.add_zero, Nat.zero_add, h1, hl, z', hf, y']
theorem tsp_loop {p e w : Nat} (hw : w < 5) (he : p + lenW w ≤ n) (h : TX a n B I) : ∀ (m i : Nat), i + m = lenW w → X E (d + 4) 39 15 [.ref a, .int (o p), .int (o e), .ref (xStr + w), .int (o i)] [] I J Q = Q (some (.int (bI (decide (∀ k, k < lenW w → i ≤ k → B (p + k) = chW w k))))) I J
  | 0, i, hi => by
    obtain ⟨z1, z2, z3⟩ := z_r hw
    have hl := lenW_le hw
    have hj : ((lenW w : Nat) : Int) ≤ (i : Int) := by omega
    have e1 : decide (∀ k, k < lenW w → i ≤ k → B (p + k) = chW w k) = true := by rw [decide_eq_true_eq]; intro k h1 h2; omega
    rw [e1]
    rw [eText_spells_15]
    simp (disch := first | omega | (simp only [nar_0, nar_1, nar_b, and_self, Nat.reduceLeDiff, Nat.reduceLT, Int32.reduceToInt]; done) | fail) only [mText_spells, eText_spells_0, eText_spells_1, eText_spells_2, eText_spells_3, eText_spells_4, eText_spells_7, eText_spells_10, eText_spells_11, eText_spells_12, eText_spells_13, eText_spells_17, eText_spells_18, eText_spells_21, eText_spells_24, eText_spells_25, eText_spells_28, eText_spells_29, eText_spells_31, eText_spells_32, eText_spells_33, eText_spells_34, eText_spells_36, eText_spells_39, eText_spells_42, eText_spells_43, eText_spells_44, eText_spells_47, eText_spells_50, eText_spells_51, va_rf_some, xl_0, xl_1, xl_2, xl_3, xl_4, xl_5, xl_6, xl_7, xl_8, xl_458, xl_459, xl_460, and_false, false_and, tl_some, tl_none, xkl_int, xkl_ref, xkl_dm, xkl_long, true_and, and_true, o_cl, xin_o, lt_ti, le_ti, ito_o, t32_64, o_add1, oz, op0, op1, op2, op3, op4, op5, op6, op7, o8m, o3m, o161m, o461m, o48p, o66p, o72p, o136p, Int32.reduceToInt, Int32.reduceToNatClampNeg, i_10, i_01, le_om1, Int64.reduceToInt, ↓reduceIte, ite_n, ite_p, xu_hit, xu_miss, op11, not_true_eq_false, not_false_eq_true, decide_true, decide_false, bIt0, bIf0, and_self, Int.reduceLE, Int.reduceLT, Int32.reduceAdd, Nat.reduceLeDiff, Nat.reduceLT, Nat.reduceAdd, Nat.reduceMul, Nat.reduceEqDiff, Nat.add_zero, Nat.zero_add, s_len hw, hj]
    rfl
  | m + 1, i, hi => by
    have ih := tsp_loop (e := e) hw he h m (i + 1) (by omega)
    obtain ⟨z1, z2, z3⟩ := z_r hw
    have hl := lenW_le hw
    obtain ⟨h1, h2, h3, h4, h5, h6, h7⟩ := h
    have hj : ¬ ((lenW w : Nat) : Int) ≤ (i : Int) := by omega
    have k5 : p + i < 160 := by omega
    have b := h7 (p + i) (by omega)
    by_cases z : B (p + i) = chW w i
    · have e1 : decide (∀ k, k < lenW w → i ≤ k → B (p + k) = chW w k) = decide (∀ k, k < lenW w → i + 1 ≤ k → B (p + k) = chW w k) := by
        refine decide_eq_decide.mpr ⟨fun q k h1 h2 => q k h1 (by omega), fun q k h1 h2 => ?_⟩
        by_cases e : k = i
        · rw [e]; exact z
        · exact q k h1 (by omega)
      rw [e1]
      rw [eText_spells_15]
      simp (disch := first | omega | (simp only [nar_0, nar_1, nar_b, and_self, Nat.reduceLeDiff, Nat.reduceLT, Int32.reduceToInt]; done) | fail) only [mText_spells, eText_spells_0, eText_spells_1, eText_spells_2, eText_spells_3, eText_spells_4, eText_spells_7, eText_spells_10, eText_spells_11, eText_spells_12, eText_spells_13, eText_spells_17, eText_spells_18, eText_spells_21, eText_spells_24, eText_spells_25, eText_spells_28, eText_spells_29, eText_spells_31, eText_spells_32, eText_spells_33, eText_spells_34, eText_spells_36, eText_spells_39, eText_spells_42, eText_spells_43, eText_spells_44, eText_spells_47, eText_spells_50, eText_spells_51, va_rf_some, xl_0, xl_1, xl_2, xl_3, xl_4, xl_5, xl_6, xl_7, xl_8, xl_458, xl_459, xl_460, and_false, false_and, tl_some, tl_none, xkl_int, xkl_ref, xkl_dm, xkl_long, true_and, and_true, o_cl, xin_o, lt_ti, le_ti, ito_o, t32_64, o_add1, oz, op0, op1, op2, op3, op4, op5, op6, op7, o8m, o3m, o161m, o461m, o48p, o66p, o72p, o136p, Int32.reduceToInt, Int32.reduceToNatClampNeg, i_10, i_01, le_om1, Int64.reduceToInt, ↓reduceIte, ite_n, ite_p, xu_hit, xu_miss, op11, not_true_eq_false, not_false_eq_true, decide_true, decide_false, bIt0, bIf0, and_self, Int.reduceLE, Int.reduceLT, Int32.reduceAdd, Nat.reduceLeDiff, Nat.reduceLT, Nat.reduceAdd, Nat.reduceMul, Nat.reduceEqDiff, Nat.add_zero, Nat.zero_add, s_len hw, s_chr hw (by omega : i < lenW w), hj, h1, h2, h3, h4, o_add, k5, b, z]
      exact ih
    · have e1 : decide (∀ k, k < lenW w → i ≤ k → B (p + k) = chW w k) = false := by
        rw [decide_eq_false_iff_not]
        exact fun q => z (q i (by omega) (by omega))
      rw [e1]
      rw [eText_spells_15]
      simp (disch := first | omega | (simp only [nar_0, nar_1, nar_b, and_self, Nat.reduceLeDiff, Nat.reduceLT, Int32.reduceToInt]; done) | fail) only [mText_spells, eText_spells_0, eText_spells_1, eText_spells_2, eText_spells_3, eText_spells_4, eText_spells_7, eText_spells_10, eText_spells_11, eText_spells_12, eText_spells_13, eText_spells_17, eText_spells_18, eText_spells_21, eText_spells_24, eText_spells_25, eText_spells_28, eText_spells_29, eText_spells_31, eText_spells_32, eText_spells_33, eText_spells_34, eText_spells_36, eText_spells_39, eText_spells_42, eText_spells_43, eText_spells_44, eText_spells_47, eText_spells_50, eText_spells_51, va_rf_some, xl_0, xl_1, xl_2, xl_3, xl_4, xl_5, xl_6, xl_7, xl_8, xl_458, xl_459, xl_460, and_false, false_and, tl_some, tl_none, xkl_int, xkl_ref, xkl_dm, xkl_long, true_and, and_true, o_cl, xin_o, lt_ti, le_ti, ito_o, t32_64, o_add1, oz, op0, op1, op2, op3, op4, op5, op6, op7, o8m, o3m, o161m, o461m, o48p, o66p, o72p, o136p, Int32.reduceToInt, Int32.reduceToNatClampNeg, i_10, i_01, le_om1, Int64.reduceToInt, ↓reduceIte, ite_n, ite_p, xu_hit, xu_miss, op11, not_true_eq_false, not_false_eq_true, decide_true, decide_false, bIt0, bIf0, and_self, Int.reduceLE, Int.reduceLT, Int32.reduceAdd, Nat.reduceLeDiff, Nat.reduceLT, Nat.reduceAdd, Nat.reduceMul, Nat.reduceEqDiff, Nat.add_zero, Nat.zero_add, s_len hw, s_chr hw (by omega : i < lenW w), hj, h1, h2, h3, h4, o_add, k5, b, z]
      rfl
theorem t_spells {p e w : Nat} (hw : w < 5) (hpe : p ≤ e) (he : e ≤ n) (h : TX a n B I) : XM E (d + 4) 39 [.ref a, .int (o p), .int (o e), .ref (xStr + w)] I J Q = Q (some (.int (bI (splF B p e w)))) I J := by
  obtain ⟨z1, z2, z3⟩ := z_r hw
  have hl := lenW_le hw
  have h6 := h.2.2.2.2.2.1
  have s1 : o e - o p = o (e - p) := o_sub hpe
  by_cases z : e - p = lenW w
  · have hlp := tsp_loop (E := E) (d := d) (J := J) (Q := Q) (p := p) (e := e) hw (by omega) h (lenW w) 0 (by omega)
    have e1 : splF B p e w = decide (∀ k, k < lenW w → 0 ≤ k → B (p + k) = chW w k) := by
      unfold splF
      exact decide_eq_decide.mpr ⟨fun q k h2 _ => q.2 k h2, fun q => ⟨z, fun k h2 => q k h2 (by omega)⟩⟩
    have z4 : o (e - p) = o (lenW w) := by rw [z]
    rw [e1]
    simp (disch := first | omega | (simp only [nar_0, nar_1, nar_b, and_self, Nat.reduceLeDiff, Nat.reduceLT, Int32.reduceToInt]; done) | fail) only [mText_spells, eText_spells_0, eText_spells_1, eText_spells_2, eText_spells_3, eText_spells_4, eText_spells_7, eText_spells_10, eText_spells_11, eText_spells_12, eText_spells_13, eText_spells_17, eText_spells_18, eText_spells_21, eText_spells_24, eText_spells_25, eText_spells_28, eText_spells_29, eText_spells_31, eText_spells_32, eText_spells_33, eText_spells_34, eText_spells_36, eText_spells_39, eText_spells_42, eText_spells_43, eText_spells_44, eText_spells_47, eText_spells_50, eText_spells_51, va_rf_some, xl_0, xl_1, xl_2, xl_3, xl_4, xl_5, xl_6, xl_7, xl_8, xl_458, xl_459, xl_460, and_false, false_and, tl_some, tl_none, xkl_int, xkl_ref, xkl_dm, xkl_long, true_and, and_true, o_cl, xin_o, lt_ti, le_ti, ito_o, t32_64, o_add1, oz, op0, op1, op2, op3, op4, op5, op6, op7, o8m, o3m, o161m, o461m, o48p, o66p, o72p, o136p, Int32.reduceToInt, Int32.reduceToNatClampNeg, i_10, i_01, le_om1, Int64.reduceToInt, ↓reduceIte, ite_n, ite_p, xu_hit, xu_miss, op11, not_true_eq_false, not_false_eq_true, decide_true, decide_false, bIt0, bIf0, and_self, Int.reduceLE, Int.reduceLT, Int32.reduceAdd, Nat.reduceLeDiff, Nat.reduceLT, Nat.reduceAdd, Nat.reduceMul, Nat.reduceEqDiff, Nat.add_zero, Nat.zero_add, s_len hw, s1, z4]
    exact hlp
  · have e1 : splF B p e w = false := by
      unfold splF
      rw [decide_eq_false_iff_not]
      exact fun q => z q.1
    have z4 : ¬ o (e - p) = o (lenW w) := by rw [o_eq (by omega) (by omega)]; exact z
    rw [e1]
    simp (disch := first | omega | (simp only [nar_0, nar_1, nar_b, and_self, Nat.reduceLeDiff, Nat.reduceLT, Int32.reduceToInt]; done) | fail) only [mText_spells, eText_spells_0, eText_spells_1, eText_spells_2, eText_spells_3, eText_spells_4, eText_spells_7, eText_spells_10, eText_spells_11, eText_spells_12, eText_spells_13, eText_spells_17, eText_spells_18, eText_spells_21, eText_spells_24, eText_spells_25, eText_spells_28, eText_spells_29, eText_spells_31, eText_spells_32, eText_spells_33, eText_spells_34, eText_spells_36, eText_spells_39, eText_spells_42, eText_spells_43, eText_spells_44, eText_spells_47, eText_spells_50, eText_spells_51, va_rf_some, xl_0, xl_1, xl_2, xl_3, xl_4, xl_5, xl_6, xl_7, xl_8, xl_458, xl_459, xl_460, and_false, false_and, tl_some, tl_none, xkl_int, xkl_ref, xkl_dm, xkl_long, true_and, and_true, o_cl, xin_o, lt_ti, le_ti, ito_o, t32_64, o_add1, oz, op0, op1, op2, op3, op4, op5, op6, op7, o8m, o3m, o161m, o461m, o48p, o66p, o72p, o136p, Int32.reduceToInt, Int32.reduceToNatClampNeg, i_10, i_01, le_om1, Int64.reduceToInt, ↓reduceIte, ite_n, ite_p, xu_hit, xu_miss, op11, not_true_eq_false, not_false_eq_true, decide_true, decide_false, bIt0, bIf0, and_self, Int.reduceLE, Int.reduceLT, Int32.reduceAdd, Nat.reduceLeDiff, Nat.reduceLT, Nat.reduceAdd, Nat.reduceMul, Nat.reduceEqDiff, Nat.add_zero, Nat.zero_add, s_len hw, s1, z4]
    rfl
theorem tnum_loop {p e : Nat} (he : e ≤ n) (h : TX a n B I) : ∀ (m j : Nat), p + j + m = e → X E d 40 22 [.ref a, .int (o p), .int (o e), .int (numV B p j), .int (o (p + j))] [] I J Q = Q (some (.int (numV B p (j + m)))) I J
  | 0, j, hj => by
    obtain ⟨h1, h2, h3, h4, h5, h6, h7⟩ := h
    have hq : (e : Int) ≤ ((p + j : Nat) : Int) := by omega
    rw [eText_number_22]
    simp (disch := first | omega | (simp only [nar_0, nar_1, nar_b, and_self, Nat.reduceLeDiff, Nat.reduceLT, Int32.reduceToInt]; done) | fail) only [mText_number, eText_number_0, eText_number_1, eText_number_2, eText_number_5, eText_number_8, eText_number_9, eText_number_10, eText_number_11, eText_number_12, eText_number_15, eText_number_16, eText_number_17, eText_number_18, eText_number_19, eText_number_20, eText_number_24, eText_number_25, eText_number_28, eText_number_30, eText_number_31, eText_number_32, eText_number_33, eText_number_36, eText_number_38, eText_number_39, eText_number_40, eText_number_42, eText_number_43, eText_number_44, eText_number_47, eText_number_50, eText_number_51, va_rf_some, xl_0, xl_1, xl_2, xl_3, xl_4, xl_5, xl_6, xl_7, xl_8, xl_458, xl_459, xl_460, and_false, false_and, tl_some, tl_none, xkl_int, xkl_ref, xkl_dm, xkl_long, true_and, and_true, o_cl, xin_o, lt_ti, le_ti, ito_o, t32_64, o_add1, oz, op0, op1, op2, op3, op4, op5, op6, op7, o8m, o3m, o161m, o461m, o48p, o66p, o72p, o136p, Int32.reduceToInt, Int32.reduceToNatClampNeg, i_10, i_01, le_om1, Int64.reduceToInt, ↓reduceIte, ite_n, ite_p, xu_hit, xu_miss, op11, not_true_eq_false, not_false_eq_true, decide_true, decide_false, bIt0, bIf0, and_self, Int.reduceLE, Int.reduceLT, Int32.reduceAdd, Nat.reduceLeDiff, Nat.reduceLT, Nat.reduceAdd, Nat.reduceMul, Nat.reduceEqDiff, Nat.add_zero, Nat.zero_add, hq]
  | m + 1, j, hj => by
    have ih := tnum_loop (p := p) (e := e) he h m (j + 1) (by omega)
    obtain ⟨h1, h2, h3, h4, h5, h6, h7⟩ := h
    have hq : ¬ (e : Int) ≤ ((p + j : Nat) : Int) := by omega
    have k5 : p + j < 160 := by omega
    have b := h7 (p + j) (by omega)
    have en : numV B p (j + 1) = 10 * numV B p j + B (p + j) - 48 := rfl
    rw [eText_number_22]
    simp (disch := first | omega | (simp only [nar_0, nar_1, nar_b, and_self, Nat.reduceLeDiff, Nat.reduceLT, Int32.reduceToInt]; done) | fail) only [mText_number, eText_number_0, eText_number_1, eText_number_2, eText_number_5, eText_number_8, eText_number_9, eText_number_10, eText_number_11, eText_number_12, eText_number_15, eText_number_16, eText_number_17, eText_number_18, eText_number_19, eText_number_20, eText_number_24, eText_number_25, eText_number_28, eText_number_30, eText_number_31, eText_number_32, eText_number_33, eText_number_36, eText_number_38, eText_number_39, eText_number_40, eText_number_42, eText_number_43, eText_number_44, eText_number_47, eText_number_50, eText_number_51, va_rf_some, xl_0, xl_1, xl_2, xl_3, xl_4, xl_5, xl_6, xl_7, xl_8, xl_458, xl_459, xl_460, and_false, false_and, tl_some, tl_none, xkl_int, xkl_ref, xkl_dm, xkl_long, true_and, and_true, o_cl, xin_o, lt_ti, le_ti, ito_o, t32_64, o_add1, oz, op0, op1, op2, op3, op4, op5, op6, op7, o8m, o3m, o161m, o461m, o48p, o66p, o72p, o136p, Int32.reduceToInt, Int32.reduceToNatClampNeg, i_10, i_01, le_om1, Int64.reduceToInt, ↓reduceIte, ite_n, ite_p, xu_hit, xu_miss, op11, not_true_eq_false, not_false_eq_true, decide_true, decide_false, bIt0, bIf0, and_self, Int.reduceLE, Int.reduceLT, Int32.reduceAdd, Nat.reduceLeDiff, Nat.reduceLT, Nat.reduceAdd, Nat.reduceMul, Nat.reduceEqDiff, Nat.add_zero, Nat.zero_add, hq, h1, h2, h3, h4, k5, b]
    rw [← en, show j + (m + 1) = j + 1 + m by omega]
    exact ih
theorem t_number {p e : Nat} (hpe : p < e) (he : e ≤ n) (h : TX a n B I) : XM E (d + 1) 40 [.ref a, .int (o p), .int (o e)] I J Q = Q (some (.int (numF B p e))) I J := by
  have hf := fun E d J Q => t_isFigure (E := E) (d := d) (J := J) (Q := Q) (by omega : p < n) h
  have hlp := tnum_loop (E := E) (d := d + 1) (J := J) (Q := Q) (p := p) he h (e - p) 0 (by omega)
  rw [Nat.zero_add] at hlp
  have h6 := h.2.2.2.2.2.1
  have h1 := h.1
  have s1 : o e - o p = o (e - p) := o_sub (by omega)
  unfold numF
  by_cases y : isF B p = true
  · rw [if_pos y]
    by_cases z : e - p ≤ 2
    · have z' : ((e - p : Nat) : Int) ≤ 2 := by omega
      rw [if_pos z]
      simp (disch := first | omega | (simp only [nar_0, nar_1, nar_b, and_self, Nat.reduceLeDiff, Nat.reduceLT, Int32.reduceToInt]; done) | fail) only [mText_number, eText_number_0, eText_number_1, eText_number_2, eText_number_5, eText_number_8, eText_number_9, eText_number_10, eText_number_11, eText_number_12, eText_number_15, eText_number_16, eText_number_17, eText_number_18, eText_number_19, eText_number_20, eText_number_24, eText_number_25, eText_number_28, eText_number_30, eText_number_31, eText_number_32, eText_number_33, eText_number_36, eText_number_38, eText_number_39, eText_number_40, eText_number_42, eText_number_43, eText_number_44, eText_number_47, eText_number_50, eText_number_51, va_rf_some, xl_0, xl_1, xl_2, xl_3, xl_4, xl_5, xl_6, xl_7, xl_8, xl_458, xl_459, xl_460, and_false, false_and, tl_some, tl_none, xkl_int, xkl_ref, xkl_dm, xkl_long, true_and, and_true, o_cl, xin_o, lt_ti, le_ti, ito_o, t32_64, o_add1, oz, op0, op1, op2, op3, op4, op5, op6, op7, o8m, o3m, o161m, o461m, o48p, o66p, o72p, o136p, Int32.reduceToInt, Int32.reduceToNatClampNeg, i_10, i_01, le_om1, Int64.reduceToInt, ↓reduceIte, ite_n, ite_p, xu_hit, xu_miss, op11, not_true_eq_false, not_false_eq_true, decide_true, decide_false, bIt0, bIf0, and_self, Int.reduceLE, Int.reduceLT, Int32.reduceAdd, Nat.reduceLeDiff, Nat.reduceLT, Nat.reduceAdd, Nat.reduceMul, Nat.reduceEqDiff, Nat.add_zero, Nat.zero_add, h1, hf, y, s1, z']
      exact hlp
    · have z' : ¬ ((e - p : Nat) : Int) ≤ 2 := by omega
      rw [if_neg z]
      simp (disch := first | omega | (simp only [nar_0, nar_1, nar_b, and_self, Nat.reduceLeDiff, Nat.reduceLT, Int32.reduceToInt]; done) | fail) only [mText_number, eText_number_0, eText_number_1, eText_number_2, eText_number_5, eText_number_8, eText_number_9, eText_number_10, eText_number_11, eText_number_12, eText_number_15, eText_number_16, eText_number_17, eText_number_18, eText_number_19, eText_number_20, eText_number_24, eText_number_25, eText_number_28, eText_number_30, eText_number_31, eText_number_32, eText_number_33, eText_number_36, eText_number_38, eText_number_39, eText_number_40, eText_number_42, eText_number_43, eText_number_44, eText_number_47, eText_number_50, eText_number_51, va_rf_some, xl_0, xl_1, xl_2, xl_3, xl_4, xl_5, xl_6, xl_7, xl_8, xl_458, xl_459, xl_460, and_false, false_and, tl_some, tl_none, xkl_int, xkl_ref, xkl_dm, xkl_long, true_and, and_true, o_cl, xin_o, lt_ti, le_ti, ito_o, t32_64, o_add1, oz, op0, op1, op2, op3, op4, op5, op6, op7, o8m, o3m, o161m, o461m, o48p, o66p, o72p, o136p, Int32.reduceToInt, Int32.reduceToNatClampNeg, i_10, i_01, le_om1, Int64.reduceToInt, ↓reduceIte, ite_n, ite_p, xu_hit, xu_miss, op11, not_true_eq_false, not_false_eq_true, decide_true, decide_false, bIt0, bIf0, and_self, Int.reduceLE, Int.reduceLT, Int32.reduceAdd, Nat.reduceLeDiff, Nat.reduceLT, Nat.reduceAdd, Nat.reduceMul, Nat.reduceEqDiff, Nat.add_zero, Nat.zero_add, h1, hf, y, s1, z']
  · have y' : isF B p = false := by simpa using y
    rw [if_neg y]
    simp (disch := first | omega | (simp only [nar_0, nar_1, nar_b, and_self, Nat.reduceLeDiff, Nat.reduceLT, Int32.reduceToInt]; done) | fail) only [mText_number, eText_number_0, eText_number_1, eText_number_2, eText_number_5, eText_number_8, eText_number_9, eText_number_10, eText_number_11, eText_number_12, eText_number_15, eText_number_16, eText_number_17, eText_number_18, eText_number_19, eText_number_20, eText_number_24, eText_number_25, eText_number_28, eText_number_30, eText_number_31, eText_number_32, eText_number_33, eText_number_36, eText_number_38, eText_number_39, eText_number_40, eText_number_42, eText_number_43, eText_number_44, eText_number_47, eText_number_50, eText_number_51, va_rf_some, xl_0, xl_1, xl_2, xl_3, xl_4, xl_5, xl_6, xl_7, xl_8, xl_458, xl_459, xl_460, and_false, false_and, tl_some, tl_none, xkl_int, xkl_ref, xkl_dm, xkl_long, true_and, and_true, o_cl, xin_o, lt_ti, le_ti, ito_o, t32_64, o_add1, oz, op0, op1, op2, op3, op4, op5, op6, op7, o8m, o3m, o161m, o461m, o48p, o66p, o72p, o136p, Int32.reduceToInt, Int32.reduceToNatClampNeg, i_10, i_01, le_om1, Int64.reduceToInt, ↓reduceIte, ite_n, ite_p, xu_hit, xu_miss, op11, not_true_eq_false, not_false_eq_true, decide_true, decide_false, bIt0, bIf0, and_self, Int.reduceLE, Int.reduceLT, Int32.reduceAdd, Nat.reduceLeDiff, Nat.reduceLT, Nat.reduceAdd, Nat.reduceMul, Nat.reduceEqDiff, Nat.add_zero, Nat.zero_add, h1, hf, y']
end
