/-! LONGS AS NUMBERS; THE FRACTION IN LOWEST TERMS -/
def ol (n : Nat) : Int64 := Int64.ofNat n
theorem ol_ti {n : Nat} (h : n < 9223372036854775808) : (ol n).toInt = n := Int64.toInt_ofNat_of_lt (by omega)
theorem ol_mul (a b : Nat) : ol a * ol b = ol (a * b) := (Int64.ofNat_mul a b).symm
theorem ol_sub {a b : Nat} (h : b ≤ a) : ol a - ol b = ol (a - b) := (Int64.ofNat_sub a b h).symm
theorem ol_div {a b : Nat} (ha : a < 9223372036854775808) (hb : b < 9223372036854775808) : ol a / ol b = ol (a / b) := (Int64.ofNat_div (by omega) (by omega)).symm
theorem ol_mod {a b : Nat} (ha : a < 9223372036854775808) (hb : b < 9223372036854775808) : ol a - ol a / ol b * ol b = ol (a % b) := by
  have h := Nat.div_add_mod a b
  rw [Nat.mul_comm] at h
  rw [ol_div ha hb, ol_mul, ol_sub (by omega)]
  congr 1
  omega
theorem ol_0 : (0 : Int64) = ol 0 := rfl
theorem ol_1 : (1 : Int64) = ol 1 := rfl
theorem ol_inj {a b : Nat} (ha : a < 9223372036854775808) (hb : b < 9223372036854775808) : (ol a = ol b) = (a = b) := by
  rw [eq_tl, ol_ti ha, ol_ti hb]
  exact propext (by omega)
theorem ol_e0 {a : Nat} (ha : a < 9223372036854775808) : (ol a = 0) = (a = 0) := by
  rw [ol_0]
  exact ol_inj ha (by omega)
theorem o_ol {n : Nat} (h : n < 2147483648) : (o n).toInt64 = ol n := by
  rw [eq_tl, t32_64, o_toInt h, ol_ti (by omega)]
theorem ol_lt {a b : Nat} (ha : a < 9223372036854775808) (hb : b < 9223372036854775808) : (ol a < ol b) = (a < b) := by
  rw [lt_tl, ol_ti ha, ol_ti hb]
  exact propext (by omega)
theorem ol_le {a b : Nat} (ha : a < 9223372036854775808) (hb : b < 9223372036854775808) : (ol a ≤ ol b) = (a ≤ b) := by
  rw [le_tl, ol_ti ha, ol_ti hb]
  exact propext (by omega)
theorem xuJ_hit {J : Nat → Nat → Int64} {a k b j : Nat} {x : Int64} (h : b = a ∧ j = k) : xuJ J a k x b j = x := if_pos h
theorem xuJ_miss {J : Nat → Nat → Int64} {a k b j : Nat} {x : Int64} (h : ¬ (b = a ∧ j = k)) : xuJ J a k x b j = J b j := if_neg h
theorem gcd_st (x y : Nat) : Nat.gcd y (x % y) = Nat.gcd x y := by
  rw [Nat.gcd_comm x y, Nat.gcd_rec y x, Nat.gcd_comm]
section
variable {E : XE} {d : Nat} {I : Iv} {J : Jv} {Q : XQt}
theorem cg_end {a b w9 w10 : Value} {x y i : Nat} (hy : y = 0) (hi : i < 1000) : X E d 2 9 [a, xdm, b, xdm, .long (ol x), xdm, .long (ol y), xdm, .int (o i), w9, w10] [] I J Q = Q (some (.long (ol x))) I J := by
  subst hy
  have z : ¬ (1000 : Int) ≤ (i : Int) := by omega
  have z2 : (ol 0 = 0) = True := by rw [ol_e0 (by omega)]; simp
  rw [eFraction_commonOf_9]
  simp (disch := first | omega | (simp only [nar_0, nar_1, nar_b, and_self, Nat.reduceLeDiff, Nat.reduceLT, Int32.reduceToInt]; done) | fail) only [mFraction_commonOf, eFraction_commonOf_0, eFraction_commonOf_1, eFraction_commonOf_3, eFraction_commonOf_4, eFraction_commonOf_6, eFraction_commonOf_7, eFraction_commonOf_11, eFraction_commonOf_14, eFraction_commonOf_17, eFraction_commonOf_19, eFraction_commonOf_20, eFraction_commonOf_21, eFraction_commonOf_24, eFraction_commonOf_26, eFraction_commonOf_28, eFraction_commonOf_29, eFraction_commonOf_31, eFraction_commonOf_33, eFraction_commonOf_35, eFraction_commonOf_37, eFraction_commonOf_39, eFraction_commonOf_42, eFraction_commonOf_45, eFraction_commonOf_47, va_rf_some, xl_0, xl_1, xl_2, xl_3, xl_4, xl_5, xl_6, xl_7, xl_8, xl_458, xl_459, xl_460, and_false, false_and, tl_some, tl_none, xkl_int, xkl_ref, xkl_dm, xkl_long, true_and, and_true, o_cl, xin_o, lt_ti, le_ti, ito_o, t32_64, o_add1, oz, op0, op1, op2, op3, op4, op5, op6, op7, o8m, o3m, o161m, o461m, o48p, o66p, o72p, o136p, Int32.reduceToInt, Int32.reduceToNatClampNeg, i_10, i_01, le_om1, Int64.reduceToInt, ↓reduceIte, ite_n, ite_p, xu_hit, xu_miss, op11, not_true_eq_false, not_false_eq_true, decide_true, decide_false, bIt0, bIf0, and_self, Int.reduceLE, Int.reduceLT, Int32.reduceAdd, Nat.reduceLeDiff, Nat.reduceLT, Nat.reduceAdd, Nat.reduceMul, Nat.reduceEqDiff, Nat.add_zero, Nat.zero_add, z, lg_cmp_eq, z2]
theorem cg_step {a b w9 w10 : Value} {x y i : Nat} (hy : ¬ y = 0) (hy2 : y < 9223372036854775808) (hx2 : x < 9223372036854775808) (hi : i < 1000) : X E d 2 9 [a, xdm, b, xdm, .long (ol x), xdm, .long (ol y), xdm, .int (o i), w9, w10] [] I J Q = X E d 2 9 [a, xdm, b, xdm, .long (ol y), xdm, .long (ol (x % y)), xdm, .int (o (i + 1)), .long (ol (x % y)), xdm] [] I J Q := by
  have z : ¬ (1000 : Int) ≤ (i : Int) := by omega
  have z2 : ¬ ol y = 0 := by rw [ol_e0 hy2]; exact hy
  rw [eFraction_commonOf_9]
  simp (disch := first | omega | (simp only [nar_0, nar_1, nar_b, and_self, Nat.reduceLeDiff, Nat.reduceLT, Int32.reduceToInt]; done) | fail) only [mFraction_commonOf, eFraction_commonOf_0, eFraction_commonOf_1, eFraction_commonOf_3, eFraction_commonOf_4, eFraction_commonOf_6, eFraction_commonOf_7, eFraction_commonOf_11, eFraction_commonOf_14, eFraction_commonOf_17, eFraction_commonOf_19, eFraction_commonOf_20, eFraction_commonOf_21, eFraction_commonOf_24, eFraction_commonOf_26, eFraction_commonOf_28, eFraction_commonOf_29, eFraction_commonOf_31, eFraction_commonOf_33, eFraction_commonOf_35, eFraction_commonOf_37, eFraction_commonOf_39, eFraction_commonOf_42, eFraction_commonOf_45, eFraction_commonOf_47, va_rf_some, xl_0, xl_1, xl_2, xl_3, xl_4, xl_5, xl_6, xl_7, xl_8, xl_458, xl_459, xl_460, and_false, false_and, tl_some, tl_none, xkl_int, xkl_ref, xkl_dm, xkl_long, true_and, and_true, o_cl, xin_o, lt_ti, le_ti, ito_o, t32_64, o_add1, oz, op0, op1, op2, op3, op4, op5, op6, op7, o8m, o3m, o161m, o461m, o48p, o66p, o72p, o136p, Int32.reduceToInt, Int32.reduceToNatClampNeg, i_10, i_01, le_om1, Int64.reduceToInt, ↓reduceIte, ite_n, ite_p, xu_hit, xu_miss, op11, not_true_eq_false, not_false_eq_true, decide_true, decide_false, bIt0, bIf0, and_self, Int.reduceLE, Int.reduceLT, Int32.reduceAdd, Nat.reduceLeDiff, Nat.reduceLT, Nat.reduceAdd, Nat.reduceMul, Nat.reduceEqDiff, Nat.add_zero, Nat.zero_add, z, lg_cmp_eq, z2, ol_mod hx2 hy2]
theorem cg_loop {a b : Value} : ∀ (j x y i : Nat) (w9 w10 : Value), y < 2 ^ j → j ≤ 40 → x < 9223372036854775808 → i + 2 * j < 1000 → X E d 2 9 [a, xdm, b, xdm, .long (ol x), xdm, .long (ol y), xdm, .int (o i), w9, w10] [] I J Q = Q (some (.long (ol (Nat.gcd x y)))) I J
  | 0, x, y, i, w9, w10, hy, hj, hx, hi => by
    have e : y = 0 := by omega
    rw [cg_end e (by omega), e, Nat.gcd_zero_right]
  | j + 1, x, y, i, w9, w10, hy, hj, hx, hi => by
    have hp : 2 ^ (j + 1) ≤ 2 ^ 40 := Nat.pow_le_pow_right (by omega) hj
    have hp2 : 2 ^ (j + 1) = 2 * 2 ^ j := by rw [Nat.pow_succ, Nat.mul_comm]
    by_cases e : y = 0
    · rw [cg_end e (by omega), e, Nat.gcd_zero_right]
    · have hr : x % y < y := Nat.mod_lt _ (by omega)
      rw [cg_step e (by omega) hx (by omega), ← gcd_st x y]
      generalize x % y = r at *
      by_cases e2 : r = 0
      · rw [cg_end e2 (by omega), e2, Nat.gcd_zero_right]
      · have h1 : y % r < r := Nat.mod_lt _ (by omega)
        have h2 := Nat.div_add_mod y r
        have h3 : 1 ≤ y / r := Nat.div_pos (by omega) (by omega)
        have h4 : r * 1 ≤ r * (y / r) := Nat.mul_le_mul_left r h3
        rw [cg_step e2 (by omega) (by omega) (by omega), cg_loop j r (y % r) (i + 1 + 1) _ _ (by omega) (by omega) (by omega) (by omega), gcd_st]
theorem c_common {x y : Nat} (hx : x < 1000000000000) (hy : y < 1000000000000) : XM E d 2 [.long (ol x), .long (ol y)] I J Q = Q (some (.long (ol (Nat.gcd x y)))) I J := by
  have h := cg_loop (E := E) (d := d) (I := I) (J := J) (Q := Q) (a := .long (ol x)) (b := .long (ol y)) 40 x y 0 xdm xdm (by omega) (by omega) (by omega) (by omega)
  simp (disch := first | omega | (simp only [nar_0, nar_1, nar_b, and_self, Nat.reduceLeDiff, Nat.reduceLT, Int32.reduceToInt]; done) | fail) only [mFraction_commonOf, eFraction_commonOf_0, eFraction_commonOf_1, eFraction_commonOf_3, eFraction_commonOf_4, eFraction_commonOf_6, eFraction_commonOf_7, eFraction_commonOf_11, eFraction_commonOf_14, eFraction_commonOf_17, eFraction_commonOf_19, eFraction_commonOf_20, eFraction_commonOf_21, eFraction_commonOf_24, eFraction_commonOf_26, eFraction_commonOf_28, eFraction_commonOf_29, eFraction_commonOf_31, eFraction_commonOf_33, eFraction_commonOf_35, eFraction_commonOf_37, eFraction_commonOf_39, eFraction_commonOf_42, eFraction_commonOf_45, eFraction_commonOf_47, va_rf_some, xl_0, xl_1, xl_2, xl_3, xl_4, xl_5, xl_6, xl_7, xl_8, xl_458, xl_459, xl_460, and_false, false_and, tl_some, tl_none, xkl_int, xkl_ref, xkl_dm, xkl_long, true_and, and_true, o_cl, xin_o, lt_ti, le_ti, ito_o, t32_64, o_add1, oz, op0, op1, op2, op3, op4, op5, op6, op7, o8m, o3m, o161m, o461m, o48p, o66p, o72p, o136p, Int32.reduceToInt, Int32.reduceToNatClampNeg, i_10, i_01, le_om1, Int64.reduceToInt, ↓reduceIte, ite_n, ite_p, xu_hit, xu_miss, op11, not_true_eq_false, not_false_eq_true, decide_true, decide_false, bIt0, bIf0, and_self, Int.reduceLE, Int.reduceLT, Int32.reduceAdd, Nat.reduceLeDiff, Nat.reduceLT, Nat.reduceAdd, Nat.reduceMul, Nat.reduceEqDiff, Nat.add_zero, Nat.zero_add]
  exact h
theorem c_set {x y : Nat} (hx : x < 1000000000000) (hy : y < 1000000000000) (hy0 : 0 < y) : XM E (d + 1) 1 [.ref 156, .long (ol x), .long (ol y)] I J Q = Q none I (xuJ (xuJ J 156 0 (ol (x / Nat.gcd x y))) 156 1 (ol (y / Nat.gcd x y))) := by
  have g1 : 0 < Nat.gcd x y := Nat.gcd_pos_of_pos_right x hy0
  have g2 : Nat.gcd x y ≤ y := Nat.gcd_le_right x hy0
  have hc := fun E d I J Q => c_common (E := E) (d := d) (I := I) (J := J) (Q := Q) hx hy
  have d1 := ol_div (a := x) (b := Nat.gcd x y) (by omega) (by omega)
  have d2 := ol_div (a := y) (b := Nat.gcd x y) (by omega) (by omega)
  have z : ¬ ol (Nat.gcd x y) = 0 := by rw [ol_e0 (by omega)]; omega
  by_cases h : Nat.gcd x y = 1
  · have z1 : ¬ ol (Nat.gcd x y) < 1 := by rw [ol_1, ol_lt (by omega) (by omega)]; omega
    have z2 : ¬ (1 : Int64) < ol (Nat.gcd x y) := by rw [ol_1, ol_lt (by omega) (by omega)]; omega
    have e1 : (1 : Int64) = ol (Nat.gcd x y) := by rw [h]; rfl
    simp (disch := first | omega | (simp only [nar_0, nar_1, nar_b, and_self, Nat.reduceLeDiff, Nat.reduceLT, Int32.reduceToInt]; done) | fail) only [mFraction_set, eFraction_set_0, eFraction_set_1, eFraction_set_2, eFraction_set_3, eFraction_set_6, eFraction_set_9, eFraction_set_11, eFraction_set_12, eFraction_set_13, eFraction_set_15, eFraction_set_16, eFraction_set_19, eFraction_set_20, eFraction_set_21, eFraction_set_23, eFraction_set_24, eFraction_set_27, va_rf_some, xl_0, xl_1, xl_2, xl_3, xl_4, xl_5, xl_6, xl_7, xl_8, xl_458, xl_459, xl_460, and_false, false_and, tl_some, tl_none, xkl_int, xkl_ref, xkl_dm, xkl_long, true_and, and_true, o_cl, xin_o, lt_ti, le_ti, ito_o, t32_64, o_add1, oz, op0, op1, op2, op3, op4, op5, op6, op7, o8m, o3m, o161m, o461m, o48p, o66p, o72p, o136p, Int32.reduceToInt, Int32.reduceToNatClampNeg, i_10, i_01, le_om1, Int64.reduceToInt, ↓reduceIte, ite_n, ite_p, xu_hit, xu_miss, op11, not_true_eq_false, not_false_eq_true, decide_true, decide_false, bIt0, bIf0, and_self, Int.reduceLE, Int.reduceLT, Int32.reduceAdd, Nat.reduceLeDiff, Nat.reduceLT, Nat.reduceAdd, Nat.reduceMul, Nat.reduceEqDiff, Nat.add_zero, Nat.zero_add, hc]
    rw [e1]
    simp (disch := first | omega | (simp only [nar_0, nar_1, nar_b, and_self, Nat.reduceLeDiff, Nat.reduceLT, Int32.reduceToInt, KD_156, LN_156]; done) | fail) only [mFraction_set, eFraction_set_0, eFraction_set_1, eFraction_set_2, eFraction_set_3, eFraction_set_6, eFraction_set_9, eFraction_set_11, eFraction_set_12, eFraction_set_13, eFraction_set_15, eFraction_set_16, eFraction_set_19, eFraction_set_20, eFraction_set_21, eFraction_set_23, eFraction_set_24, eFraction_set_27, mMath_max_f86c9, eMath_max_f86c9_0, eMath_max_f86c9_1, eMath_max_f86c9_2, eMath_max_f86c9_3, eMath_max_f86c9_6, eMath_max_f86c9_7, eMath_max_f86c9_10, eMath_max_f86c9_11, KD_156, LN_156, va_rf_some, xl_0, xl_1, xl_2, xl_3, xl_4, xl_5, xl_6, xl_7, xl_8, xl_458, xl_459, xl_460, and_false, false_and, tl_some, tl_none, xkl_int, xkl_ref, xkl_dm, xkl_long, true_and, and_true, o_cl, xin_o, lt_ti, le_ti, ito_o, t32_64, o_add1, oz, op0, op1, op2, op3, op4, op5, op6, op7, o8m, o3m, o161m, o461m, o48p, o66p, o72p, o136p, Int32.reduceToInt, Int32.reduceToNatClampNeg, i_10, i_01, le_om1, Int64.reduceToInt, ↓reduceIte, ite_n, ite_p, xu_hit, xu_miss, op11, not_true_eq_false, not_false_eq_true, decide_true, decide_false, bIt0, bIf0, and_self, Int.reduceLE, Int.reduceLT, Int32.reduceAdd, Nat.reduceLeDiff, Nat.reduceLT, Nat.reduceAdd, Nat.reduceMul, Nat.reduceEqDiff, Nat.add_zero, Nat.zero_add, ite_self, z, d1, d2]
  · have z2 : (1 : Int64) < ol (Nat.gcd x y) := by rw [ol_1, ol_lt (by omega) (by omega)]; omega
    have g1 : lg_cmp 1 (ol (Nat.gcd x y)) < 0 := by rw [lg_cmp_lt]; exact z2
    rw [lt_ti, show (0 : Int32).toInt = 0 from rfl] at g1
    simp (disch := first | omega | (simp only [nar_0, nar_1, nar_b, and_self, Nat.reduceLeDiff, Nat.reduceLT, Int32.reduceToInt, KD_156, LN_156]; done) | fail) only [mFraction_set, eFraction_set_0, eFraction_set_1, eFraction_set_2, eFraction_set_3, eFraction_set_6, eFraction_set_9, eFraction_set_11, eFraction_set_12, eFraction_set_13, eFraction_set_15, eFraction_set_16, eFraction_set_19, eFraction_set_20, eFraction_set_21, eFraction_set_23, eFraction_set_24, eFraction_set_27, mMath_max_f86c9, eMath_max_f86c9_0, eMath_max_f86c9_1, eMath_max_f86c9_2, eMath_max_f86c9_3, eMath_max_f86c9_6, eMath_max_f86c9_7, eMath_max_f86c9_10, eMath_max_f86c9_11, KD_156, LN_156, va_rf_some, xl_0, xl_1, xl_2, xl_3, xl_4, xl_5, xl_6, xl_7, xl_8, xl_458, xl_459, xl_460, and_false, false_and, tl_some, tl_none, xkl_int, xkl_ref, xkl_dm, xkl_long, true_and, and_true, o_cl, xin_o, lt_ti, le_ti, ito_o, t32_64, o_add1, oz, op0, op1, op2, op3, op4, op5, op6, op7, o8m, o3m, o161m, o461m, o48p, o66p, o72p, o136p, Int32.reduceToInt, Int32.reduceToNatClampNeg, i_10, i_01, le_om1, Int64.reduceToInt, ↓reduceIte, ite_n, ite_p, xu_hit, xu_miss, op11, not_true_eq_false, not_false_eq_true, decide_true, decide_false, bIt0, bIf0, and_self, Int.reduceLE, Int.reduceLT, Int32.reduceAdd, Nat.reduceLeDiff, Nat.reduceLT, Nat.reduceAdd, Nat.reduceMul, Nat.reduceEqDiff, Nat.add_zero, Nat.zero_add, hc, g1, z, d1, d2]
theorem mt_loop {a b : Nat} (ha : a < 1000000000000) (hb : b < 1000000000000) : ∀ (N x y : Nat) (w9 w10 : Value), y ≤ N → x < 1000000000000 → y < 1000000000000 → 0 < Nat.gcd x y → Nat.gcd x y < 1000000000000 → X E d 156 6 [.ref 157, .long (ol a), xdm, .long (ol b), xdm, .long (ol x), xdm, .long (ol y), xdm, w9, w10] [] I J Q = Q none I (xuJ (xuJ J 157 3 (ol (a / Nat.gcd x y))) 157 4 (ol (b / Nat.gcd x y)))
  | N, x, y, w9, w10, hN, hx, hy, hg, hg2 => by
    by_cases e : y = 0
    · subst e
      rw [Nat.gcd_zero_right] at hg ⊢
      have z : ¬ ol x = 0 := by rw [ol_e0 (by omega)]; omega
      have z2 : (ol 0 = 0) = True := by rw [ol_e0 (by omega)]; simp
      have d1 := ol_div (a := a) (b := x) (by omega) (by omega)
      have d2 := ol_div (a := b) (b := x) (by omega) (by omega)
      rw [eM_tell_6]
      simp (disch := first | omega | (simp only [nar_0, nar_1, nar_b, and_self, Nat.reduceLeDiff, Nat.reduceLT, Int32.reduceToInt, KD_157, LN_157, P0_157_0, P0_157_1, P0_157_2, P0_157_12, P0_157_16, P0_157_17, P0_157_18, P0_157_19, P0_157_20, P0_157_21, P0_157_22, P0_157_24, P0_157_25, P0_157_29, P0_157_30, P0_157_31, P0_157_32]; done) | fail) only [mM_tell, eM_tell_0, eM_tell_1, eM_tell_3, eM_tell_4, eM_tell_8, eM_tell_9, eM_tell_10, eM_tell_13, eM_tell_15, eM_tell_17, eM_tell_18, eM_tell_20, eM_tell_22, eM_tell_24, eM_tell_26, eM_tell_28, eM_tell_31, eM_tell_32, eM_tell_33, eM_tell_35, eM_tell_36, eM_tell_39, eM_tell_40, eM_tell_41, eM_tell_43, eM_tell_44, eM_tell_47, KD_157, LN_157, P0_157_0, P0_157_1, P0_157_2, P0_157_12, P0_157_16, P0_157_17, P0_157_18, P0_157_19, P0_157_20, P0_157_21, P0_157_22, P0_157_24, P0_157_25, P0_157_29, P0_157_30, P0_157_31, P0_157_32, va_rf_some, xl_0, xl_1, xl_2, xl_3, xl_4, xl_5, xl_6, xl_7, xl_8, xl_458, xl_459, xl_460, and_false, false_and, tl_some, tl_none, xkl_int, xkl_ref, xkl_dm, xkl_long, true_and, and_true, o_cl, xin_o, lt_ti, le_ti, ito_o, t32_64, o_add1, oz, op0, op1, op2, op3, op4, op5, op6, op7, o8m, o3m, o161m, o461m, o48p, o66p, o72p, o136p, Int32.reduceToInt, Int32.reduceToNatClampNeg, i_10, i_01, le_om1, Int64.reduceToInt, ↓reduceIte, ite_n, ite_p, xu_hit, xu_miss, op11, not_true_eq_false, not_false_eq_true, decide_true, decide_false, bIt0, bIf0, and_self, Int.reduceLE, Int.reduceLT, Int32.reduceAdd, Nat.reduceLeDiff, Nat.reduceLT, Nat.reduceAdd, Nat.reduceMul, Nat.reduceEqDiff, Nat.add_zero, Nat.zero_add, lg_cmp_eq, z2, z, d1, d2]
    · match N, hN with
      | 0, hN => exact absurd (by omega) e
      | N + 1, hN =>
        have hr : x % y < y := Nat.mod_lt _ (by omega)
        have z : ¬ ol y = 0 := by rw [ol_e0 (by omega)]; exact e
        have hm := ol_mod (a := x) (b := y) (by omega) (by omega)
        have ih := mt_loop ha hb N y (x % y) (.long (ol (x % y))) xdm (by omega) (by omega) (by omega) (by rw [gcd_st]; exact hg) (by rw [gcd_st]; exact hg2)
        rw [gcd_st] at ih
        rw [eM_tell_6]
        simp (disch := first | omega | (simp only [nar_0, nar_1, nar_b, and_self, Nat.reduceLeDiff, Nat.reduceLT, Int32.reduceToInt, KD_157, LN_157, P0_157_0, P0_157_1, P0_157_2, P0_157_12, P0_157_16, P0_157_17, P0_157_18, P0_157_19, P0_157_20, P0_157_21, P0_157_22, P0_157_24, P0_157_25, P0_157_29, P0_157_30, P0_157_31, P0_157_32]; done) | fail) only [mM_tell, eM_tell_0, eM_tell_1, eM_tell_3, eM_tell_4, eM_tell_8, eM_tell_9, eM_tell_10, eM_tell_13, eM_tell_15, eM_tell_17, eM_tell_18, eM_tell_20, eM_tell_22, eM_tell_24, eM_tell_26, eM_tell_28, eM_tell_31, eM_tell_32, eM_tell_33, eM_tell_35, eM_tell_36, eM_tell_39, eM_tell_40, eM_tell_41, eM_tell_43, eM_tell_44, eM_tell_47, KD_157, LN_157, P0_157_0, P0_157_1, P0_157_2, P0_157_12, P0_157_16, P0_157_17, P0_157_18, P0_157_19, P0_157_20, P0_157_21, P0_157_22, P0_157_24, P0_157_25, P0_157_29, P0_157_30, P0_157_31, P0_157_32, va_rf_some, xl_0, xl_1, xl_2, xl_3, xl_4, xl_5, xl_6, xl_7, xl_8, xl_458, xl_459, xl_460, and_false, false_and, tl_some, tl_none, xkl_int, xkl_ref, xkl_dm, xkl_long, true_and, and_true, o_cl, xin_o, lt_ti, le_ti, ito_o, t32_64, o_add1, oz, op0, op1, op2, op3, op4, op5, op6, op7, o8m, o3m, o161m, o461m, o48p, o66p, o72p, o136p, Int32.reduceToInt, Int32.reduceToNatClampNeg, i_10, i_01, le_om1, Int64.reduceToInt, ↓reduceIte, ite_n, ite_p, xu_hit, xu_miss, op11, not_true_eq_false, not_false_eq_true, decide_true, decide_false, bIt0, bIf0, and_self, Int.reduceLE, Int.reduceLT, Int32.reduceAdd, Nat.reduceLeDiff, Nat.reduceLT, Nat.reduceAdd, Nat.reduceMul, Nat.reduceEqDiff, Nat.add_zero, Nat.zero_add, lg_cmp_eq, z, hm]
        exact ih
theorem m_tell {x y : Nat} (hx : x < 1000000000000) (hy : y < 1000000000000) (hy0 : 0 < y) : XM E d 156 [.ref 157, .long (ol x), .long (ol y)] I J Q = Q none I (xuJ (xuJ J 157 3 (ol (x / Nat.gcd x y))) 157 4 (ol (y / Nat.gcd x y))) := by
  have g1 : 0 < Nat.gcd x y := Nat.gcd_pos_of_pos_right x hy0
  have g2 : Nat.gcd x y ≤ y := Nat.gcd_le_right x hy0
  have h := mt_loop (E := E) (d := d) (I := I) (J := J) (Q := Q) hx hy y x y xdm xdm (by omega) hx hy g1 (by omega)
  simp (disch := first | omega | (simp only [nar_0, nar_1, nar_b, and_self, Nat.reduceLeDiff, Nat.reduceLT, Int32.reduceToInt, KD_157, LN_157, P0_157_0, P0_157_1, P0_157_2, P0_157_12, P0_157_16, P0_157_17, P0_157_18, P0_157_19, P0_157_20, P0_157_21, P0_157_22, P0_157_24, P0_157_25, P0_157_29, P0_157_30, P0_157_31, P0_157_32]; done) | fail) only [mM_tell, eM_tell_0, eM_tell_1, eM_tell_3, eM_tell_4, eM_tell_8, eM_tell_9, eM_tell_10, eM_tell_13, eM_tell_15, eM_tell_17, eM_tell_18, eM_tell_20, eM_tell_22, eM_tell_24, eM_tell_26, eM_tell_28, eM_tell_31, eM_tell_32, eM_tell_33, eM_tell_35, eM_tell_36, eM_tell_39, eM_tell_40, eM_tell_41, eM_tell_43, eM_tell_44, eM_tell_47, KD_157, LN_157, P0_157_0, P0_157_1, P0_157_2, P0_157_12, P0_157_16, P0_157_17, P0_157_18, P0_157_19, P0_157_20, P0_157_21, P0_157_22, P0_157_24, P0_157_25, P0_157_29, P0_157_30, P0_157_31, P0_157_32, va_rf_some, xl_0, xl_1, xl_2, xl_3, xl_4, xl_5, xl_6, xl_7, xl_8, xl_458, xl_459, xl_460, and_false, false_and, tl_some, tl_none, xkl_int, xkl_ref, xkl_dm, xkl_long, true_and, and_true, o_cl, xin_o, lt_ti, le_ti, ito_o, t32_64, o_add1, oz, op0, op1, op2, op3, op4, op5, op6, op7, o8m, o3m, o161m, o461m, o48p, o66p, o72p, o136p, Int32.reduceToInt, Int32.reduceToNatClampNeg, i_10, i_01, le_om1, Int64.reduceToInt, ↓reduceIte, ite_n, ite_p, xu_hit, xu_miss, op11, not_true_eq_false, not_false_eq_true, decide_true, decide_false, bIt0, bIf0, and_self, Int.reduceLE, Int.reduceLT, Int32.reduceAdd, Nat.reduceLeDiff, Nat.reduceLT, Nat.reduceAdd, Nat.reduceMul, Nat.reduceEqDiff, Nat.add_zero, Nat.zero_add]
  exact h
end
