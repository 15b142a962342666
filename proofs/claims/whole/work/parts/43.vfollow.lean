/-! VOYAGES: changes done many times; steps followed; begun; copied -/
section
variable {E : XE} {d : Nat} {I : Iv} {J : Jv} {Q : XQt} {G : Gv} {v : Nat}
theorem vtimes_loop {k n : Nat} (hk : k < 1000) (hn : n < 2147483648) (hv : VY v) (hF : RF G I) (hG : OkS G) : ∀ (m j : Nat) (S : Sv), j + m = n → X E (d + 2) 56 2 [.ref v, .int (o k), .int (o n), .int (o j)] [] (wr v S I) J Q = Q none (wr v (doTimesF G k m S) I) J
  | 0, j, S, h => by
    have e : j = n := by omega
    subst e
    have hj : (j : Int) ≤ (j : Int) := by omega
    rw [eVoyage_doTimes_2]
    simp (disch := first | omega | (simp only [nar_0, nar_1, nar_b, and_self, Nat.reduceLeDiff, Nat.reduceLT, Int32.reduceToInt]; done) | fail) only [mVoyage_doTimes, eVoyage_doTimes_0, eVoyage_doTimes_1, eVoyage_doTimes_3, eVoyage_doTimes_4, eVoyage_doTimes_7, eVoyage_doTimes_8, eVoyage_doTimes_11, eVoyage_doTimes_14, eVoyage_doTimes_15, eVoyage_doTimes_16, eVoyage_doTimes_19, eVoyage_doTimes_22, eVoyage_doTimes_23, eVoyage_doTimes_24, eVoyage_doTimes_27, eVoyage_doTimes_28, eVoyage_doTimes_29, eVoyage_doTimes_30, eVoyage_doTimes_33, eVoyage_doTimes_34, eVoyage_doTimes_37, eVoyage_doTimes_38, eVoyage_doTimes_41, eVoyage_doTimes_44, eVoyage_doTimes_45, eVoyage_doTimes_46, eVoyage_doTimes_49, eVoyage_doTimes_50, eVoyage_doTimes_51, eVoyage_doTimes_54, eVoyage_doTimes_57, eVoyage_doTimes_60, va_rf_some, xl_0, xl_1, xl_2, xl_3, xl_4, xl_5, xl_6, xl_7, xl_8, xl_458, xl_459, xl_460, and_false, false_and, tl_some, tl_none, xkl_int, xkl_ref, xkl_dm, xkl_long, true_and, and_true, o_cl, xin_o, lt_ti, le_ti, ito_o, t32_64, o_add1, oz, op0, op1, op2, op3, op4, op5, op6, op7, o8m, o3m, o161m, o461m, o48p, o66p, o72p, o136p, Int32.reduceToInt, Int32.reduceToNatClampNeg, i_10, i_01, le_om1, Int64.reduceToInt, ↓reduceIte, ite_n, ite_p, xu_hit, xu_miss, op11, not_true_eq_false, not_false_eq_true, decide_true, decide_false, bIt0, bIf0, and_self, Int.reduceLE, Int.reduceLT, Int32.reduceAdd, Nat.reduceLeDiff, Nat.reduceLT, Nat.reduceAdd, Nat.reduceMul, Nat.reduceEqDiff, Nat.add_zero, Nat.zero_add, hj, doTimesF]
  | m + 1, j, S, h => by
    have ih := fun S => vtimes_loop hk hn hv hF hG m (j + 1) S (by omega)
    have hca := fun E d J Q S => v_canDo (E := E) (d := d) (J := J) (Q := Q) (S := S) hk hv hF hG
    have hdo := fun E d J Q S h1 => v_doOnce (E := E) (d := d) (J := J) (Q := Q) (S := S) (k := k) h1 hv hF hG
    have hwt := fun E d J Q S => v_weight (E := E) (d := d) (J := J) (Q := Q) (S := S) hv hF hG
    obtain ⟨v0, v1, -, -, -, -, -, vv⟩ := hv
    obtain ⟨r2, r10, r18, rL, rT, rN, rC, rX⟩ := hF
    have n0 : I 28 0 = G 66 := rN 0 (by omega)
    have hj : ¬ (n : Int) ≤ (j : Int) := by omega
    unfold doTimesF
    by_cases h0 : S 0 8 = 0
    · rw [if_pos h0]
      by_cases h1 : canF G k S = true
      · rw [if_pos h1]
        have h2 : k < gc G := by
          unfold canF at h1
          rw [decide_eq_true_eq] at h1
          exact h1.1
        have hdo' := fun E d J Q S => hdo E d J Q S h2
        generalize hS1 : doF G k S = S1
        by_cases h3 : (G 66).toInt < (wtF G S1 (gt G)).toInt
        · have h4 : ¬ (wtF G S1 (gt G)).toInt ≤ (G 66).toInt := by omega
          rw [if_pos h3]
          rw [eVoyage_doTimes_2]
          simp (disch := first | omega | (simp only [nar_0, nar_1, nar_b, and_self, Nat.reduceLeDiff, Nat.reduceLT, Int32.reduceToInt, KD_1, LN_1, P0_1_0, P0_1_1, P0_1_2, P0_1_3, P0_1_4, KD_28, LN_28]; done) | fail) only [mVoyage_doTimes, eVoyage_doTimes_0, eVoyage_doTimes_1, eVoyage_doTimes_3, eVoyage_doTimes_4, eVoyage_doTimes_7, eVoyage_doTimes_8, eVoyage_doTimes_11, eVoyage_doTimes_14, eVoyage_doTimes_15, eVoyage_doTimes_16, eVoyage_doTimes_19, eVoyage_doTimes_22, eVoyage_doTimes_23, eVoyage_doTimes_24, eVoyage_doTimes_27, eVoyage_doTimes_28, eVoyage_doTimes_29, eVoyage_doTimes_30, eVoyage_doTimes_33, eVoyage_doTimes_34, eVoyage_doTimes_37, eVoyage_doTimes_38, eVoyage_doTimes_41, eVoyage_doTimes_44, eVoyage_doTimes_45, eVoyage_doTimes_46, eVoyage_doTimes_49, eVoyage_doTimes_50, eVoyage_doTimes_51, eVoyage_doTimes_54, eVoyage_doTimes_57, eVoyage_doTimes_60, KD_1, LN_1, P0_1_0, P0_1_1, P0_1_2, P0_1_3, P0_1_4, KD_28, LN_28, va_rf_some, xl_0, xl_1, xl_2, xl_3, xl_4, xl_5, xl_6, xl_7, xl_8, xl_458, xl_459, xl_460, and_false, false_and, tl_some, tl_none, xkl_int, xkl_ref, xkl_dm, xkl_long, true_and, and_true, o_cl, xin_o, lt_ti, le_ti, ito_o, t32_64, o_add1, oz, op0, op1, op2, op3, op4, op5, op6, op7, o8m, o3m, o161m, o461m, o48p, o66p, o72p, o136p, Int32.reduceToInt, Int32.reduceToNatClampNeg, i_10, i_01, le_om1, Int64.reduceToInt, ↓reduceIte, ite_n, ite_p, xu_hit, xu_miss, op11, not_true_eq_false, not_false_eq_true, decide_true, decide_false, bIt0, bIf0, and_self, Int.reduceLE, Int.reduceLT, Int32.reduceAdd, Nat.reduceLeDiff, Nat.reduceLT, Nat.reduceAdd, Nat.reduceMul, Nat.reduceEqDiff, Nat.add_zero, Nat.zero_add, v0, v1, hj, wr_0, wr_lt, xu_wr0, h0, hca, h1, hdo', hS1, hwt, n0, h4]
          exact ih _
        · have h4 : (wtF G S1 (gt G)).toInt ≤ (G 66).toInt := by omega
          rw [if_neg h3]
          rw [eVoyage_doTimes_2]
          simp (disch := first | omega | (simp only [nar_0, nar_1, nar_b, and_self, Nat.reduceLeDiff, Nat.reduceLT, Int32.reduceToInt, KD_1, LN_1, P0_1_0, P0_1_1, P0_1_2, P0_1_3, P0_1_4, KD_28, LN_28]; done) | fail) only [mVoyage_doTimes, eVoyage_doTimes_0, eVoyage_doTimes_1, eVoyage_doTimes_3, eVoyage_doTimes_4, eVoyage_doTimes_7, eVoyage_doTimes_8, eVoyage_doTimes_11, eVoyage_doTimes_14, eVoyage_doTimes_15, eVoyage_doTimes_16, eVoyage_doTimes_19, eVoyage_doTimes_22, eVoyage_doTimes_23, eVoyage_doTimes_24, eVoyage_doTimes_27, eVoyage_doTimes_28, eVoyage_doTimes_29, eVoyage_doTimes_30, eVoyage_doTimes_33, eVoyage_doTimes_34, eVoyage_doTimes_37, eVoyage_doTimes_38, eVoyage_doTimes_41, eVoyage_doTimes_44, eVoyage_doTimes_45, eVoyage_doTimes_46, eVoyage_doTimes_49, eVoyage_doTimes_50, eVoyage_doTimes_51, eVoyage_doTimes_54, eVoyage_doTimes_57, eVoyage_doTimes_60, KD_1, LN_1, P0_1_0, P0_1_1, P0_1_2, P0_1_3, P0_1_4, KD_28, LN_28, va_rf_some, xl_0, xl_1, xl_2, xl_3, xl_4, xl_5, xl_6, xl_7, xl_8, xl_458, xl_459, xl_460, and_false, false_and, tl_some, tl_none, xkl_int, xkl_ref, xkl_dm, xkl_long, true_and, and_true, o_cl, xin_o, lt_ti, le_ti, ito_o, t32_64, o_add1, oz, op0, op1, op2, op3, op4, op5, op6, op7, o8m, o3m, o161m, o461m, o48p, o66p, o72p, o136p, Int32.reduceToInt, Int32.reduceToNatClampNeg, i_10, i_01, le_om1, Int64.reduceToInt, ↓reduceIte, ite_n, ite_p, xu_hit, xu_miss, op11, not_true_eq_false, not_false_eq_true, decide_true, decide_false, bIt0, bIf0, and_self, Int.reduceLE, Int.reduceLT, Int32.reduceAdd, Nat.reduceLeDiff, Nat.reduceLT, Nat.reduceAdd, Nat.reduceMul, Nat.reduceEqDiff, Nat.add_zero, Nat.zero_add, v0, v1, hj, wr_0, wr_lt, xu_wr0, h0, hca, h1, hdo', hS1, hwt, n0, h4]
          exact ih _
      · have h1' : canF G k S = false := by simpa using h1
        rw [if_neg h1]
        rw [eVoyage_doTimes_2]
        simp (disch := first | omega | (simp only [nar_0, nar_1, nar_b, and_self, Nat.reduceLeDiff, Nat.reduceLT, Int32.reduceToInt, KD_1, LN_1, P0_1_0, P0_1_1, P0_1_2, P0_1_3, P0_1_4, KD_28, LN_28]; done) | fail) only [mVoyage_doTimes, eVoyage_doTimes_0, eVoyage_doTimes_1, eVoyage_doTimes_3, eVoyage_doTimes_4, eVoyage_doTimes_7, eVoyage_doTimes_8, eVoyage_doTimes_11, eVoyage_doTimes_14, eVoyage_doTimes_15, eVoyage_doTimes_16, eVoyage_doTimes_19, eVoyage_doTimes_22, eVoyage_doTimes_23, eVoyage_doTimes_24, eVoyage_doTimes_27, eVoyage_doTimes_28, eVoyage_doTimes_29, eVoyage_doTimes_30, eVoyage_doTimes_33, eVoyage_doTimes_34, eVoyage_doTimes_37, eVoyage_doTimes_38, eVoyage_doTimes_41, eVoyage_doTimes_44, eVoyage_doTimes_45, eVoyage_doTimes_46, eVoyage_doTimes_49, eVoyage_doTimes_50, eVoyage_doTimes_51, eVoyage_doTimes_54, eVoyage_doTimes_57, eVoyage_doTimes_60, KD_1, LN_1, P0_1_0, P0_1_1, P0_1_2, P0_1_3, P0_1_4, KD_28, LN_28, va_rf_some, xl_0, xl_1, xl_2, xl_3, xl_4, xl_5, xl_6, xl_7, xl_8, xl_458, xl_459, xl_460, and_false, false_and, tl_some, tl_none, xkl_int, xkl_ref, xkl_dm, xkl_long, true_and, and_true, o_cl, xin_o, lt_ti, le_ti, ito_o, t32_64, o_add1, oz, op0, op1, op2, op3, op4, op5, op6, op7, o8m, o3m, o161m, o461m, o48p, o66p, o72p, o136p, Int32.reduceToInt, Int32.reduceToNatClampNeg, i_10, i_01, le_om1, Int64.reduceToInt, ↓reduceIte, ite_n, ite_p, xu_hit, xu_miss, op11, not_true_eq_false, not_false_eq_true, decide_true, decide_false, bIt0, bIf0, and_self, Int.reduceLE, Int.reduceLT, Int32.reduceAdd, Nat.reduceLeDiff, Nat.reduceLT, Nat.reduceAdd, Nat.reduceMul, Nat.reduceEqDiff, Nat.add_zero, Nat.zero_add, v0, v1, hj, wr_0, wr_lt, xu_wr0, h0, hca, h1']
    · rw [if_neg h0]
      rw [eVoyage_doTimes_2]
      simp (disch := first | omega | (simp only [nar_0, nar_1, nar_b, and_self, Nat.reduceLeDiff, Nat.reduceLT, Int32.reduceToInt]; done) | fail) only [mVoyage_doTimes, eVoyage_doTimes_0, eVoyage_doTimes_1, eVoyage_doTimes_3, eVoyage_doTimes_4, eVoyage_doTimes_7, eVoyage_doTimes_8, eVoyage_doTimes_11, eVoyage_doTimes_14, eVoyage_doTimes_15, eVoyage_doTimes_16, eVoyage_doTimes_19, eVoyage_doTimes_22, eVoyage_doTimes_23, eVoyage_doTimes_24, eVoyage_doTimes_27, eVoyage_doTimes_28, eVoyage_doTimes_29, eVoyage_doTimes_30, eVoyage_doTimes_33, eVoyage_doTimes_34, eVoyage_doTimes_37, eVoyage_doTimes_38, eVoyage_doTimes_41, eVoyage_doTimes_44, eVoyage_doTimes_45, eVoyage_doTimes_46, eVoyage_doTimes_49, eVoyage_doTimes_50, eVoyage_doTimes_51, eVoyage_doTimes_54, eVoyage_doTimes_57, eVoyage_doTimes_60, va_rf_some, xl_0, xl_1, xl_2, xl_3, xl_4, xl_5, xl_6, xl_7, xl_8, xl_458, xl_459, xl_460, and_false, false_and, tl_some, tl_none, xkl_int, xkl_ref, xkl_dm, xkl_long, true_and, and_true, o_cl, xin_o, lt_ti, le_ti, ito_o, t32_64, o_add1, oz, op0, op1, op2, op3, op4, op5, op6, op7, o8m, o3m, o161m, o461m, o48p, o66p, o72p, o136p, Int32.reduceToInt, Int32.reduceToNatClampNeg, i_10, i_01, le_om1, Int64.reduceToInt, ↓reduceIte, ite_n, ite_p, xu_hit, xu_miss, op11, not_true_eq_false, not_false_eq_true, decide_true, decide_false, bIt0, bIf0, and_self, Int.reduceLE, Int.reduceLT, Int32.reduceAdd, Nat.reduceLeDiff, Nat.reduceLT, Nat.reduceAdd, Nat.reduceMul, Nat.reduceEqDiff, Nat.add_zero, Nat.zero_add, v0, v1, hj, wr_0, h0]
theorem v_doTimes {S : Sv} {k n : Nat} (hk : k < 1000) (hn : n < 2147483648) (hv : VY v) (hF : RF G I) (hG : OkS G) : XM E (d + 2) 56 [.ref v, .int (o k), .int (o n)] (wr v S I) J Q = Q none (wr v (doTimesF G k n S) I) J := by
  simp (disch := first | omega | (simp only [nar_0, nar_1, nar_b, and_self, Nat.reduceLeDiff, Nat.reduceLT, Int32.reduceToInt]; done) | fail) only [mVoyage_doTimes, eVoyage_doTimes_0, eVoyage_doTimes_1, eVoyage_doTimes_3, eVoyage_doTimes_4, eVoyage_doTimes_7, eVoyage_doTimes_8, eVoyage_doTimes_11, eVoyage_doTimes_14, eVoyage_doTimes_15, eVoyage_doTimes_16, eVoyage_doTimes_19, eVoyage_doTimes_22, eVoyage_doTimes_23, eVoyage_doTimes_24, eVoyage_doTimes_27, eVoyage_doTimes_28, eVoyage_doTimes_29, eVoyage_doTimes_30, eVoyage_doTimes_33, eVoyage_doTimes_34, eVoyage_doTimes_37, eVoyage_doTimes_38, eVoyage_doTimes_41, eVoyage_doTimes_44, eVoyage_doTimes_45, eVoyage_doTimes_46, eVoyage_doTimes_49, eVoyage_doTimes_50, eVoyage_doTimes_51, eVoyage_doTimes_54, eVoyage_doTimes_57, eVoyage_doTimes_60, va_rf_some, xl_0, xl_1, xl_2, xl_3, xl_4, xl_5, xl_6, xl_7, xl_8, xl_458, xl_459, xl_460, and_false, false_and, tl_some, tl_none, xkl_int, xkl_ref, xkl_dm, xkl_long, true_and, and_true, o_cl, xin_o, lt_ti, le_ti, ito_o, t32_64, o_add1, oz, op0, op1, op2, op3, op4, op5, op6, op7, o8m, o3m, o161m, o461m, o48p, o66p, o72p, o136p, Int32.reduceToInt, Int32.reduceToNatClampNeg, i_10, i_01, le_om1, Int64.reduceToInt, ↓reduceIte, ite_n, ite_p, xu_hit, xu_miss, op11, not_true_eq_false, not_false_eq_true, decide_true, decide_false, bIt0, bIf0, and_self, Int.reduceLE, Int.reduceLT, Int32.reduceAdd, Nat.reduceLeDiff, Nat.reduceLT, Nat.reduceAdd, Nat.reduceMul, Nat.reduceEqDiff, Nat.add_zero, Nat.zero_add]
  exact vtimes_loop hk hn hv hF hG n 0 S (by omega)
theorem vall_loop {k : Nat} (hk : k < 1000) (hv : VY v) (hF : RF G I) (hG : OkS G) : ∀ (m j : Nat) (S : Sv) (b : Bool) (f : Int32) (w : Value), j + m = 99 → X E (d + 2) 57 20 [.ref v, .int (o k), .int (bI b), .int f, .int (o j), w] [] (wr v S I) J Q = Q (some (.int (bI (daL G k m f b S).1))) (wr v (daL G k m f b S).2 I) J
  | 0, j, S, b, f, w, h => by
    have e : j = 99 := by omega
    subst e
    have hj : (99 : Int) ≤ ((99 : Nat) : Int) := by omega
    rw [eVoyage_doAll_20]
    simp (disch := first | omega | (simp only [nar_0, nar_1, nar_b, and_self, Nat.reduceLeDiff, Nat.reduceLT, Int32.reduceToInt]; done) | fail) only [mVoyage_doAll, eVoyage_doAll_0, eVoyage_doAll_1, eVoyage_doAll_2, eVoyage_doAll_3, eVoyage_doAll_6, eVoyage_doAll_9, eVoyage_doAll_10, eVoyage_doAll_11, eVoyage_doAll_12, eVoyage_doAll_15, eVoyage_doAll_16, eVoyage_doAll_17, eVoyage_doAll_18, eVoyage_doAll_22, eVoyage_doAll_24, eVoyage_doAll_27, eVoyage_doAll_28, eVoyage_doAll_29, eVoyage_doAll_32, eVoyage_doAll_35, eVoyage_doAll_36, eVoyage_doAll_37, eVoyage_doAll_40, eVoyage_doAll_42, eVoyage_doAll_44, eVoyage_doAll_45, eVoyage_doAll_48, eVoyage_doAll_51, eVoyage_doAll_52, eVoyage_doAll_54, eVoyage_doAll_55, eVoyage_doAll_56, eVoyage_doAll_57, eVoyage_doAll_58, eVoyage_doAll_61, eVoyage_doAll_62, eVoyage_doAll_63, eVoyage_doAll_66, eVoyage_doAll_69, eVoyage_doAll_70, va_rf_some, xl_0, xl_1, xl_2, xl_3, xl_4, xl_5, xl_6, xl_7, xl_8, xl_458, xl_459, xl_460, and_false, false_and, tl_some, tl_none, xkl_int, xkl_ref, xkl_dm, xkl_long, true_and, and_true, o_cl, xin_o, lt_ti, le_ti, ito_o, t32_64, o_add1, oz, op0, op1, op2, op3, op4, op5, op6, op7, o8m, o3m, o161m, o461m, o48p, o66p, o72p, o136p, Int32.reduceToInt, Int32.reduceToNatClampNeg, i_10, i_01, le_om1, Int64.reduceToInt, ↓reduceIte, ite_n, ite_p, xu_hit, xu_miss, op11, not_true_eq_false, not_false_eq_true, decide_true, decide_false, bIt0, bIf0, and_self, Int.reduceLE, Int.reduceLT, Int32.reduceAdd, Nat.reduceLeDiff, Nat.reduceLT, Nat.reduceAdd, Nat.reduceMul, Nat.reduceEqDiff, Nat.add_zero, Nat.zero_add, hj, daL]
  | m + 1, j, S, b, f, w, h => by
    have ih := fun S b f w => vall_loop hk hv hF hG m (j + 1) S b f w (by omega)
    have hca := fun E d J Q S => v_canDo (E := E) (d := d) (J := J) (Q := Q) (S := S) hk hv hF hG
    have hdo := fun E d J Q S h1 => v_doOnce (E := E) (d := d) (J := J) (Q := Q) (S := S) (k := k) h1 hv hF hG
    have hmo := fun E d J Q S h1 => v_more (E := E) (d := d) (J := J) (Q := Q) (S := S) (k := k) h1 hv hF hG
    obtain ⟨v0, v1, -, -, -, -, -, vv⟩ := hv
    have hj : ¬ (99 : Int) ≤ (j : Int) := by omega
    have xb : ∀ b : Bool, xkl (.int (bI b)) = .int (bI b) := fun _ => rfl
    unfold daL
    by_cases h1 : canF G k S = true
    · rw [if_pos h1]
      have h2 : k < gc G := by
        unfold canF at h1
        rw [decide_eq_true_eq] at h1
        exact h1.1
      have hdo' := fun E d J Q S => hdo E d J Q S h2
      have hmo' := fun E d J Q S => hmo E d J Q S h2
      by_cases h3 : (moreF G k S).toInt ≤ f.toInt
      · rw [if_pos h3]
        rw [eVoyage_doAll_20]
        simp (disch := first | omega | (simp only [nar_0, nar_1, nar_b, and_self, Nat.reduceLeDiff, Nat.reduceLT, Int32.reduceToInt]; done) | fail) only [mVoyage_doAll, eVoyage_doAll_0, eVoyage_doAll_1, eVoyage_doAll_2, eVoyage_doAll_3, eVoyage_doAll_6, eVoyage_doAll_9, eVoyage_doAll_10, eVoyage_doAll_11, eVoyage_doAll_12, eVoyage_doAll_15, eVoyage_doAll_16, eVoyage_doAll_17, eVoyage_doAll_18, eVoyage_doAll_22, eVoyage_doAll_24, eVoyage_doAll_27, eVoyage_doAll_28, eVoyage_doAll_29, eVoyage_doAll_32, eVoyage_doAll_35, eVoyage_doAll_36, eVoyage_doAll_37, eVoyage_doAll_40, eVoyage_doAll_42, eVoyage_doAll_44, eVoyage_doAll_45, eVoyage_doAll_48, eVoyage_doAll_51, eVoyage_doAll_52, eVoyage_doAll_54, eVoyage_doAll_55, eVoyage_doAll_56, eVoyage_doAll_57, eVoyage_doAll_58, eVoyage_doAll_61, eVoyage_doAll_62, eVoyage_doAll_63, eVoyage_doAll_66, eVoyage_doAll_69, eVoyage_doAll_70, va_rf_some, xl_0, xl_1, xl_2, xl_3, xl_4, xl_5, xl_6, xl_7, xl_8, xl_458, xl_459, xl_460, and_false, false_and, tl_some, tl_none, xkl_int, xkl_ref, xkl_dm, xkl_long, true_and, and_true, o_cl, xin_o, lt_ti, le_ti, ito_o, t32_64, o_add1, oz, op0, op1, op2, op3, op4, op5, op6, op7, o8m, o3m, o161m, o461m, o48p, o66p, o72p, o136p, Int32.reduceToInt, Int32.reduceToNatClampNeg, i_10, i_01, le_om1, Int64.reduceToInt, ↓reduceIte, ite_n, ite_p, xu_hit, xu_miss, op11, not_true_eq_false, not_false_eq_true, decide_true, decide_false, bIt0, bIf0, and_self, Int.reduceLE, Int.reduceLT, Int32.reduceAdd, Nat.reduceLeDiff, Nat.reduceLT, Nat.reduceAdd, Nat.reduceMul, Nat.reduceEqDiff, Nat.add_zero, Nat.zero_add, v0, hj, wr_0, xu_wr0, hca, h1, hmo', h3, hdo']
        exact ih _ true _ _
      · rw [if_neg h3]
        rw [eVoyage_doAll_20]
        simp (disch := first | omega | (simp only [nar_0, nar_1, nar_b, and_self, Nat.reduceLeDiff, Nat.reduceLT, Int32.reduceToInt]; done) | fail) only [mVoyage_doAll, eVoyage_doAll_0, eVoyage_doAll_1, eVoyage_doAll_2, eVoyage_doAll_3, eVoyage_doAll_6, eVoyage_doAll_9, eVoyage_doAll_10, eVoyage_doAll_11, eVoyage_doAll_12, eVoyage_doAll_15, eVoyage_doAll_16, eVoyage_doAll_17, eVoyage_doAll_18, eVoyage_doAll_22, eVoyage_doAll_24, eVoyage_doAll_27, eVoyage_doAll_28, eVoyage_doAll_29, eVoyage_doAll_32, eVoyage_doAll_35, eVoyage_doAll_36, eVoyage_doAll_37, eVoyage_doAll_40, eVoyage_doAll_42, eVoyage_doAll_44, eVoyage_doAll_45, eVoyage_doAll_48, eVoyage_doAll_51, eVoyage_doAll_52, eVoyage_doAll_54, eVoyage_doAll_55, eVoyage_doAll_56, eVoyage_doAll_57, eVoyage_doAll_58, eVoyage_doAll_61, eVoyage_doAll_62, eVoyage_doAll_63, eVoyage_doAll_66, eVoyage_doAll_69, eVoyage_doAll_70, va_rf_some, xl_0, xl_1, xl_2, xl_3, xl_4, xl_5, xl_6, xl_7, xl_8, xl_458, xl_459, xl_460, and_false, false_and, tl_some, tl_none, xkl_int, xkl_ref, xkl_dm, xkl_long, true_and, and_true, o_cl, xin_o, lt_ti, le_ti, ito_o, t32_64, o_add1, oz, op0, op1, op2, op3, op4, op5, op6, op7, o8m, o3m, o161m, o461m, o48p, o66p, o72p, o136p, Int32.reduceToInt, Int32.reduceToNatClampNeg, i_10, i_01, le_om1, Int64.reduceToInt, ↓reduceIte, ite_n, ite_p, xu_hit, xu_miss, op11, not_true_eq_false, not_false_eq_true, decide_true, decide_false, bIt0, bIf0, and_self, Int.reduceLE, Int.reduceLT, Int32.reduceAdd, Nat.reduceLeDiff, Nat.reduceLT, Nat.reduceAdd, Nat.reduceMul, Nat.reduceEqDiff, Nat.add_zero, Nat.zero_add, v0, hj, wr_0, xu_wr0, hca, h1, hmo', h3]
    · have h1' : canF G k S = false := by simpa using h1
      rw [if_neg h1]
      rw [eVoyage_doAll_20]
      simp (disch := first | omega | (simp only [nar_0, nar_1, nar_b, and_self, Nat.reduceLeDiff, Nat.reduceLT, Int32.reduceToInt]; done) | fail) only [mVoyage_doAll, eVoyage_doAll_0, eVoyage_doAll_1, eVoyage_doAll_2, eVoyage_doAll_3, eVoyage_doAll_6, eVoyage_doAll_9, eVoyage_doAll_10, eVoyage_doAll_11, eVoyage_doAll_12, eVoyage_doAll_15, eVoyage_doAll_16, eVoyage_doAll_17, eVoyage_doAll_18, eVoyage_doAll_22, eVoyage_doAll_24, eVoyage_doAll_27, eVoyage_doAll_28, eVoyage_doAll_29, eVoyage_doAll_32, eVoyage_doAll_35, eVoyage_doAll_36, eVoyage_doAll_37, eVoyage_doAll_40, eVoyage_doAll_42, eVoyage_doAll_44, eVoyage_doAll_45, eVoyage_doAll_48, eVoyage_doAll_51, eVoyage_doAll_52, eVoyage_doAll_54, eVoyage_doAll_55, eVoyage_doAll_56, eVoyage_doAll_57, eVoyage_doAll_58, eVoyage_doAll_61, eVoyage_doAll_62, eVoyage_doAll_63, eVoyage_doAll_66, eVoyage_doAll_69, eVoyage_doAll_70, va_rf_some, xl_0, xl_1, xl_2, xl_3, xl_4, xl_5, xl_6, xl_7, xl_8, xl_458, xl_459, xl_460, and_false, false_and, tl_some, tl_none, xkl_int, xkl_ref, xkl_dm, xkl_long, true_and, and_true, o_cl, xin_o, lt_ti, le_ti, ito_o, t32_64, o_add1, oz, op0, op1, op2, op3, op4, op5, op6, op7, o8m, o3m, o161m, o461m, o48p, o66p, o72p, o136p, Int32.reduceToInt, Int32.reduceToNatClampNeg, i_10, i_01, le_om1, Int64.reduceToInt, ↓reduceIte, ite_n, ite_p, xu_hit, xu_miss, op11, not_true_eq_false, not_false_eq_true, decide_true, decide_false, bIt0, bIf0, and_self, Int.reduceLE, Int.reduceLT, Int32.reduceAdd, Nat.reduceLeDiff, Nat.reduceLT, Nat.reduceAdd, Nat.reduceMul, Nat.reduceEqDiff, Nat.add_zero, Nat.zero_add, v0, hj, hca, h1']
theorem v_doAll {S : Sv} {k : Nat} (hk : k < 1000) (hv : VY v) (hF : RF G I) (hG : OkS G) : XM E (d + 2) 57 [.ref v, .int (o k)] (wr v S I) J Q = Q (some (.int (bI (daF G k S).1))) (wr v (daF G k S).2 I) J := by
  have hwt := fun E d J Q S => v_weight (E := E) (d := d) (J := J) (Q := Q) (S := S) hv hF hG
  have hlp := fun f => vall_loop (E := E) (d := d) (J := J) (Q := Q) hk hv hF hG 99 0 S false f xdm (by omega)
  obtain ⟨v0, v1, -, -, -, -, -, vv⟩ := hv
  obtain ⟨r2, r10, r18, rL, rT, rN, rC, rX⟩ := hF
  have n0 : I 28 0 = G 66 := rN 0 (by omega)
  simp (disch := first | omega | (simp only [nar_0, nar_1, nar_b, and_self, Nat.reduceLeDiff, Nat.reduceLT, Int32.reduceToInt, KD_1, LN_1, P0_1_0, P0_1_1, P0_1_2, P0_1_3, P0_1_4, KD_28, LN_28]; done) | fail) only [mVoyage_doAll, eVoyage_doAll_0, eVoyage_doAll_1, eVoyage_doAll_2, eVoyage_doAll_3, eVoyage_doAll_6, eVoyage_doAll_9, eVoyage_doAll_10, eVoyage_doAll_11, eVoyage_doAll_12, eVoyage_doAll_15, eVoyage_doAll_16, eVoyage_doAll_17, eVoyage_doAll_18, eVoyage_doAll_22, eVoyage_doAll_24, eVoyage_doAll_27, eVoyage_doAll_28, eVoyage_doAll_29, eVoyage_doAll_32, eVoyage_doAll_35, eVoyage_doAll_36, eVoyage_doAll_37, eVoyage_doAll_40, eVoyage_doAll_42, eVoyage_doAll_44, eVoyage_doAll_45, eVoyage_doAll_48, eVoyage_doAll_51, eVoyage_doAll_52, eVoyage_doAll_54, eVoyage_doAll_55, eVoyage_doAll_56, eVoyage_doAll_57, eVoyage_doAll_58, eVoyage_doAll_61, eVoyage_doAll_62, eVoyage_doAll_63, eVoyage_doAll_66, eVoyage_doAll_69, eVoyage_doAll_70, KD_1, LN_1, P0_1_0, P0_1_1, P0_1_2, P0_1_3, P0_1_4, KD_28, LN_28, va_rf_some, xl_0, xl_1, xl_2, xl_3, xl_4, xl_5, xl_6, xl_7, xl_8, xl_458, xl_459, xl_460, and_false, false_and, tl_some, tl_none, xkl_int, xkl_ref, xkl_dm, xkl_long, true_and, and_true, o_cl, xin_o, lt_ti, le_ti, ito_o, t32_64, o_add1, oz, op0, op1, op2, op3, op4, op5, op6, op7, o8m, o3m, o161m, o461m, o48p, o66p, o72p, o136p, Int32.reduceToInt, Int32.reduceToNatClampNeg, i_10, i_01, le_om1, Int64.reduceToInt, ↓reduceIte, ite_n, ite_p, xu_hit, xu_miss, op11, not_true_eq_false, not_false_eq_true, decide_true, decide_false, bIt0, bIf0, and_self, Int.reduceLE, Int.reduceLT, Int32.reduceAdd, Nat.reduceLeDiff, Nat.reduceLT, Nat.reduceAdd, Nat.reduceMul, Nat.reduceEqDiff, Nat.add_zero, Nat.zero_add, v0, v1, wr_lt, n0, hwt]
  exact hlp _
def stepF (G : Gv) (t c n : Int32) (S : Sv) : Sv := if t = 0 then goUpF G S else if t = 1 then goDownF G S else if t = 2 then passF G n.toNatClampNeg S else doTimesF G c.toNatClampNeg n.toNatClampNeg S
def followF (G : Gv) (K C T : Nat → Int32) : Nat → Nat → Sv → Sv
  | 0, _, S => S
  | m + 1, i, S => if S 0 8 = 0 then followF G K C T m (i + 1) (if stepF G (K i) (C i) (T i) S 0 8 = 0 then xuI (stepF G (K i) (C i) (T i) S) 0 9 (stepF G (K i) (C i) (T i) S 0 9 + 1) else stepF G (K i) (C i) (T i) S) else S
def LdOk (G : Gv) (S : Sv) : Prop := ∃ p, S 0 6 = o p ∧ p < 6 ∧ p < gl G
theorem do_keep {G : Gv} {k : Nat} {S : Sv} {a j : Nat} (h1 : ¬ a = 1) (h3 : ¬ a = 3) (h4 : ¬ a = 4) (h5 : ¬ a = 5) : doF G k S a j = S a j := by
  unfold doF
  simp only []
  split
  · simp (disch := omega) only [xu_hit, xu_miss, ite_n, ite_p, if_true, if_false, and_true, true_and, and_false, false_and, and_self, Nat.reduceEqDiff]
  · split
    · simp (disch := omega) only [xu_hit, xu_miss, ite_n, ite_p, if_true, if_false, and_true, true_and, and_false, false_and, and_self, Nat.reduceEqDiff]
    · simp (disch := omega) only [xu_hit, xu_miss, ite_n, ite_p, if_true, if_false, and_true, true_and, and_false, false_and, and_self, Nat.reduceEqDiff]
theorem doTimes_keep {G : Gv} {k a j : Nat} (h0 : ¬ (a = 0 ∧ j = 8)) (h1 : ¬ a = 1) (h3 : ¬ a = 3) (h4 : ¬ a = 4) (h5 : ¬ a = 5) : ∀ (n : Nat) (S : Sv), doTimesF G k n S a j = S a j
  | 0, S => rfl
  | n + 1, S => by
    unfold doTimesF
    split
    · split
      · rw [doTimes_keep h0 h1 h3 h4 h5 n]
        split
        · rw [xu_06 h0, do_keep h1 h3 h4 h5]
        · rw [do_keep h1 h3 h4 h5]
      · rw [xu_06 h0]
    · rfl
theorem arr_06 {G : Gv} {l : Nat} {S : Sv} : arrF G l S 0 6 = if S 0 8 = 0 then o l else S 0 6 := by
  unfold arrF
  try simp only []
  repeat' split
  all_goals first | rfl | (simp (disch := omega) only [xu_hit, xu_miss, ite_n, ite_p, if_true, if_false, and_true, true_and, and_false, false_and, and_self, Nat.reduceEqDiff])
theorem goUp_ld {G : Gv} {S : Sv} (hG : OkS G) (h : LdOk G S) : LdOk G (goUpF G S) := by
  unfold goUpF
  obtain ⟨⟨e1, g1⟩, -⟩ := hG
  split
  · next hlt =>
    unfold LdOk
    rw [arr_06]
    split
    · exact ⟨_, rfl, by omega, by omega⟩
    · rw [pass_keep (by omega) (by omega) (by omega) (by omega)]
      exact h
  · unfold LdOk
    rw [xu_06 (by omega)]
    exact h
theorem goDown_ld {G : Gv} {S : Sv} (hG : OkS G) (h : LdOk G S) : LdOk G (goDownF G S) := by
  unfold goDownF
  obtain ⟨⟨e1, g1⟩, -⟩ := hG
  split
  · next hlt =>
    unfold LdOk
    rw [arr_06]
    split
    · exact ⟨_, rfl, by omega, by omega⟩
    · rw [pass_keep (by omega) (by omega) (by omega) (by omega)]
      exact h
  · unfold LdOk
    rw [xu_06 (by omega)]
    exact h
theorem step_ld {G : Gv} {t c n : Int32} {S : Sv} (hG : OkS G) (h : LdOk G S) : LdOk G (stepF G t c n S) := by
  unfold stepF
  split
  · exact goUp_ld hG h
  · split
    · exact goDown_ld hG h
    · split
      · unfold LdOk
        rw [pass_keep (by omega) (by omega) (by omega) (by omega)]
        exact h
      · unfold LdOk
        rw [doTimes_keep (by omega) (by omega) (by omega) (by omega) (by omega)]
        exact h
end
