/-! ACTS -/
theorem da_keep {G : Gv} {k a j : Nat} (h1 : ¬ a = 1) (h3 : ¬ a = 3) (h4 : ¬ a = 4) (h5 : ¬ a = 5) : ∀ (n : Nat) (f : Int32) (b : Bool) (S : Sv), (daL G k n f b S).2 a j = S a j
  | 0, f, b, S => rfl
  | n + 1, f, b, S => by
    unfold daL
    split
    · split
      · rw [da_keep h1 h3 h4 h5 n, do_keep h1 h3 h4 h5]
      · rfl
    · rfl
theorem bs_daL {G : Gv} {k : Nat} (hG : OkS G) : ∀ (n b : Nat) (f : Int32) (x : Bool) (S : Sv), Bs b S → b + 20 * n < 3000000 → Bs (b + 20 * n) (daL G k n f x S).2
  | 0, b, f, x, S, h, _ => h
  | n + 1, b, f, x, S, h, hb => by
    unfold daL
    split
    · next hc =>
      split
      · have := bs_daL (k := k) hG n (b + 20) (f - moreF G k S) true _ (bs_do hc h (by omega) hG) (by omega)
        rw [show b + 20 * (n + 1) = b + 20 + 20 * n by omega]
        exact this
      · exact Bs_mono h (by omega)
    · exact Bs_mono h (by omega)
theorem act_ld {G : Gv} {a : Nat} {S : Sv} (hG : OkS G) (h : LdOk G S) : LdOk G (actF G a S).2 := by
  unfold actF
  split
  · exact goUp_ld hG h
  · split
    · exact goDown_ld hG h
    · split
      · show LdOk G (passF G 1 S)
        unfold LdOk
        rw [pass_keep (by omega) (by omega) (by omega) (by omega)]
        exact h
      · unfold LdOk daF
        rw [da_keep (by omega) (by omega) (by omega) (by omega)]
        exact h
theorem act_bs {G : Gv} {a b : Nat} {S : Sv} (hG : OkS G) (hl : LdOk G S) (h : Bs b S) (hb : b < 90000) : Bs (b + 2000) (actF G a S).2 := by
  unfold actF
  split
  · exact Bs_mono (bs_go h (by omega) hl hG).1 (by omega)
  · split
    · exact Bs_mono (bs_go h (by omega) hl hG).2 (by omega)
    · split
      · exact Bs_mono (bs_pass hG 1 b S h (by omega)) (by omega)
      · exact Bs_mono (bs_daL hG 99 b _ _ S h (by omega)) (by omega)
theorem act_08 {G : Gv} {a : Nat} {S : Sv} (h0 : S 0 8 = 0) (h : (actF G a S).1 = true) : (actF G a S).2 0 8 = 0 := by
  unfold actF at h ⊢
  split
  · next z => rw [if_pos z] at h; exact of_decide_eq_true h
  · next z =>
    rw [if_neg z] at h
    split
    · next z => rw [if_pos z] at h; exact of_decide_eq_true h
    · next z =>
      rw [if_neg z] at h
      split
      · next z => rw [if_pos z] at h; exact of_decide_eq_true h
      · next z =>
        unfold daF
        rw [da_keep (by omega) (by omega) (by omega) (by omega)]
        exact h0
section
variable {E : XE} {d : Nat} {I : Iv} {J : Jv} {Q : XQt} {G : Gv}
theorem m_acted {a b : Nat} {S T : Sv} (ha : a < 1000) (hs : Sim b G S T) (hB : Bs b S) (hb : b < 90000) (hl : LdOk G S) (h0 : S 0 8 = 0) (hG : OkS G) (hQ : ∀ T', Sim (b + 2000) G (actF G a S).2 T' → FrT T T' → Q (some (.int (bI (actF G a S).1))) (wr 157 T' I) J) : XM E (d + 5) 159 [.ref 157, .int (o a)] (wr 157 T I) J Q := by
  have fin : ∀ (S' T' : Sv), Sim b G S' T' → ∀ P : Prop, (Q (some (.int (bI (decide (S' 0 8 = 0))))) (wr 157 T' I) J → P) → (Q (some (.int (bI (decide (S' 0 8 = 0))))) (wr 157 T' I) J → P) := fun _ _ _ _ h => h
  have tail : ∀ (S' T' : Sv), Sim b G S' T' → Q (some (.int (bI (decide (S' 0 8 = 0))))) (wr 157 T' I) J → X E (d + 4 + 1) 159 41 [.ref 157, .int (o a)] [] (wr 157 T' I) J Q := by
    intro S' T' hs' hq
    have e : T' 0 15 = S' 0 8 := hs'.2.2.2.2.2.2.1
    by_cases h8 : S' 0 8 = 0
    · rw [h8] at e
      have e2 : decide (S' 0 8 = 0) = true := by rw [decide_eq_true_eq]; exact h8
      rw [e2] at hq
      simp (disch := first | omega | (simp only [nar_0, nar_1, nar_b, and_self, Nat.reduceLeDiff, Nat.reduceLT, Int32.reduceToInt, KD_157, LN_157, P0_157_0, P0_157_1, P0_157_2, P0_157_12, P0_157_16, P0_157_17, P0_157_18, P0_157_19, P0_157_20, P0_157_21, P0_157_22, P0_157_24, P0_157_25, P0_157_29, P0_157_30, P0_157_31, P0_157_32]; done) | fail) only [mM_acted, eM_acted_0, eM_acted_1, eM_acted_2, eM_acted_5, eM_acted_6, eM_acted_7, eM_acted_10, eM_acted_11, eM_acted_14, eM_acted_15, eM_acted_18, eM_acted_21, eM_acted_22, eM_acted_23, eM_acted_26, eM_acted_27, eM_acted_30, eM_acted_33, eM_acted_34, eM_acted_35, eM_acted_36, eM_acted_37, eM_acted_40, eM_acted_41, eM_acted_42, eM_acted_45, eM_acted_48, eM_acted_49, eM_acted_52, eM_acted_53, KD_157, LN_157, P0_157_0, P0_157_1, P0_157_2, P0_157_12, P0_157_16, P0_157_17, P0_157_18, P0_157_19, P0_157_20, P0_157_21, P0_157_22, P0_157_24, P0_157_25, P0_157_29, P0_157_30, P0_157_31, P0_157_32, va_rf_some, xl_0, xl_1, xl_2, xl_3, xl_4, xl_5, xl_6, xl_7, xl_8, xl_458, xl_459, xl_460, and_false, false_and, tl_some, tl_none, xkl_int, xkl_ref, xkl_dm, xkl_long, true_and, and_true, o_cl, xin_o, lt_ti, le_ti, ito_o, t32_64, o_add1, oz, op0, op1, op2, op3, op4, op5, op6, op7, o8m, o3m, o161m, o461m, o48p, o66p, o72p, o136p, Int32.reduceToInt, Int32.reduceToNatClampNeg, i_10, i_01, le_om1, Int64.reduceToInt, ↓reduceIte, ite_n, ite_p, xu_hit, xu_miss, op11, not_true_eq_false, not_false_eq_true, decide_true, decide_false, bIt0, bIf0, and_self, Int.reduceLE, Int.reduceLT, Int32.reduceAdd, Nat.reduceLeDiff, Nat.reduceLT, Nat.reduceAdd, Nat.reduceMul, Nat.reduceEqDiff, Nat.add_zero, Nat.zero_add, wr_0, xu_wr0, am_1, xm_1, am_2, xm_2, am_3, xm_3, am_4, xm_4, am_5, xm_5, am_6, xm_6, am_7, xm_7, am_8, xm_8, am_9, xm_9, am_10, xm_10, am_11, xm_11, am_12, xm_12, am_13, xm_13, am_14, xm_14, am_15, xm_15, am_16, xm_16, am_17, xm_17, e]
      exact hq
    · have e' : ¬ T' 0 15 = 0 := by rw [e]; exact h8
      have e2 : decide (S' 0 8 = 0) = false := by rw [decide_eq_false_iff_not]; exact h8
      rw [e2] at hq
      simp (disch := first | omega | (simp only [nar_0, nar_1, nar_b, and_self, Nat.reduceLeDiff, Nat.reduceLT, Int32.reduceToInt, KD_157, LN_157, P0_157_0, P0_157_1, P0_157_2, P0_157_12, P0_157_16, P0_157_17, P0_157_18, P0_157_19, P0_157_20, P0_157_21, P0_157_22, P0_157_24, P0_157_25, P0_157_29, P0_157_30, P0_157_31, P0_157_32]; done) | fail) only [mM_acted, eM_acted_0, eM_acted_1, eM_acted_2, eM_acted_5, eM_acted_6, eM_acted_7, eM_acted_10, eM_acted_11, eM_acted_14, eM_acted_15, eM_acted_18, eM_acted_21, eM_acted_22, eM_acted_23, eM_acted_26, eM_acted_27, eM_acted_30, eM_acted_33, eM_acted_34, eM_acted_35, eM_acted_36, eM_acted_37, eM_acted_40, eM_acted_41, eM_acted_42, eM_acted_45, eM_acted_48, eM_acted_49, eM_acted_52, eM_acted_53, KD_157, LN_157, P0_157_0, P0_157_1, P0_157_2, P0_157_12, P0_157_16, P0_157_17, P0_157_18, P0_157_19, P0_157_20, P0_157_21, P0_157_22, P0_157_24, P0_157_25, P0_157_29, P0_157_30, P0_157_31, P0_157_32, va_rf_some, xl_0, xl_1, xl_2, xl_3, xl_4, xl_5, xl_6, xl_7, xl_8, xl_458, xl_459, xl_460, and_false, false_and, tl_some, tl_none, xkl_int, xkl_ref, xkl_dm, xkl_long, true_and, and_true, o_cl, xin_o, lt_ti, le_ti, ito_o, t32_64, o_add1, oz, op0, op1, op2, op3, op4, op5, op6, op7, o8m, o3m, o161m, o461m, o48p, o66p, o72p, o136p, Int32.reduceToInt, Int32.reduceToNatClampNeg, i_10, i_01, le_om1, Int64.reduceToInt, ↓reduceIte, ite_n, ite_p, xu_hit, xu_miss, op11, not_true_eq_false, not_false_eq_true, decide_true, decide_false, bIt0, bIf0, and_self, Int.reduceLE, Int.reduceLT, Int32.reduceAdd, Nat.reduceLeDiff, Nat.reduceLT, Nat.reduceAdd, Nat.reduceMul, Nat.reduceEqDiff, Nat.add_zero, Nat.zero_add, wr_0, xu_wr0, am_1, xm_1, am_2, xm_2, am_3, xm_3, am_4, xm_4, am_5, xm_5, am_6, xm_6, am_7, xm_7, am_8, xm_8, am_9, xm_9, am_10, xm_10, am_11, xm_11, am_12, xm_12, am_13, xm_13, am_14, xm_14, am_15, xm_15, am_16, xm_16, am_17, xm_17, e']
      exact hq
  unfold actF at hQ
  by_cases a0 : a = 0
  · subst a0
    rw [if_pos rfl] at hQ
    have z : ¬ (2 : Int) ≤ ((0 : Nat) : Int) := by omega
    simp (disch := first | omega | (simp only [nar_0, nar_1, nar_b, and_self, Nat.reduceLeDiff, Nat.reduceLT, Int32.reduceToInt, KD_157, LN_157, P0_157_0, P0_157_1, P0_157_2, P0_157_12, P0_157_16, P0_157_17, P0_157_18, P0_157_19, P0_157_20, P0_157_21, P0_157_22, P0_157_24, P0_157_25, P0_157_29, P0_157_30, P0_157_31, P0_157_32]; done) | fail) only [mM_acted, eM_acted_0, eM_acted_1, eM_acted_2, eM_acted_5, eM_acted_6, eM_acted_7, eM_acted_10, eM_acted_11, eM_acted_14, eM_acted_15, eM_acted_18, eM_acted_21, eM_acted_22, eM_acted_23, eM_acted_26, eM_acted_27, eM_acted_30, eM_acted_33, eM_acted_34, eM_acted_35, eM_acted_36, eM_acted_37, eM_acted_40, eM_acted_42, eM_acted_45, eM_acted_48, eM_acted_49, eM_acted_52, eM_acted_53, KD_157, LN_157, P0_157_0, P0_157_1, P0_157_2, P0_157_12, P0_157_16, P0_157_17, P0_157_18, P0_157_19, P0_157_20, P0_157_21, P0_157_22, P0_157_24, P0_157_25, P0_157_29, P0_157_30, P0_157_31, P0_157_32, va_rf_some, xl_0, xl_1, xl_2, xl_3, xl_4, xl_5, xl_6, xl_7, xl_8, xl_458, xl_459, xl_460, and_false, false_and, tl_some, tl_none, xkl_int, xkl_ref, xkl_dm, xkl_long, true_and, and_true, o_cl, xin_o, lt_ti, le_ti, ito_o, t32_64, o_add1, oz, op0, op1, op2, op3, op4, op5, op6, op7, o8m, o3m, o161m, o461m, o48p, o66p, o72p, o136p, Int32.reduceToInt, Int32.reduceToNatClampNeg, i_10, i_01, le_om1, Int64.reduceToInt, ↓reduceIte, ite_n, ite_p, xu_hit, xu_miss, op11, not_true_eq_false, not_false_eq_true, decide_true, decide_false, bIt0, bIf0, and_self, Int.reduceLE, Int.reduceLT, Int32.reduceAdd, Nat.reduceLeDiff, Nat.reduceLT, Nat.reduceAdd, Nat.reduceMul, Nat.reduceEqDiff, Nat.add_zero, Nat.zero_add, z, oe_0]
    refine m_goUp hs hB (by omega) hl h0 hG (fun T' hs' hf => ?_)
    simp (disch := first | omega | (simp only [nar_0, nar_1, nar_b, and_self, Nat.reduceLeDiff, Nat.reduceLT, Int32.reduceToInt]; done) | fail) only [mM_acted, eM_acted_0, eM_acted_1, eM_acted_2, eM_acted_5, eM_acted_6, eM_acted_7, eM_acted_10, eM_acted_11, eM_acted_14, eM_acted_15, eM_acted_18, eM_acted_21, eM_acted_22, eM_acted_23, eM_acted_26, eM_acted_27, eM_acted_30, eM_acted_33, eM_acted_34, eM_acted_35, eM_acted_36, eM_acted_37, eM_acted_40, eM_acted_42, eM_acted_45, eM_acted_48, eM_acted_49, eM_acted_52, eM_acted_53, va_rf_some, xl_0, xl_1, xl_2, xl_3, xl_4, xl_5, xl_6, xl_7, xl_8, xl_458, xl_459, xl_460, and_false, false_and, tl_some, tl_none, xkl_int, xkl_ref, xkl_dm, xkl_long, true_and, and_true, o_cl, xin_o, lt_ti, le_ti, ito_o, t32_64, o_add1, oz, op0, op1, op2, op3, op4, op5, op6, op7, o8m, o3m, o161m, o461m, o48p, o66p, o72p, o136p, Int32.reduceToInt, Int32.reduceToNatClampNeg, i_10, i_01, le_om1, Int64.reduceToInt, ↓reduceIte, ite_n, ite_p, xu_hit, xu_miss, op11, not_true_eq_false, not_false_eq_true, decide_true, decide_false, bIt0, bIf0, and_self, Int.reduceLE, Int.reduceLT, Int32.reduceAdd, Nat.reduceLeDiff, Nat.reduceLT, Nat.reduceAdd, Nat.reduceMul, Nat.reduceEqDiff, Nat.add_zero, Nat.zero_add]
    exact tail _ T' hs' (hQ T' (Sim_mono hs' (by omega)) hf)
  · rw [if_neg a0] at hQ
    by_cases a1 : a = 1
    · subst a1
      rw [if_pos rfl] at hQ
      have z : ¬ (2 : Int) ≤ ((1 : Nat) : Int) := by omega
      have z1 : ¬ o 1 = 0 := by decide
      simp (disch := first | omega | (simp only [nar_0, nar_1, nar_b, and_self, Nat.reduceLeDiff, Nat.reduceLT, Int32.reduceToInt, KD_157, LN_157, P0_157_0, P0_157_1, P0_157_2, P0_157_12, P0_157_16, P0_157_17, P0_157_18, P0_157_19, P0_157_20, P0_157_21, P0_157_22, P0_157_24, P0_157_25, P0_157_29, P0_157_30, P0_157_31, P0_157_32]; done) | fail) only [mM_acted, eM_acted_0, eM_acted_1, eM_acted_2, eM_acted_5, eM_acted_6, eM_acted_7, eM_acted_10, eM_acted_11, eM_acted_14, eM_acted_15, eM_acted_18, eM_acted_21, eM_acted_22, eM_acted_23, eM_acted_26, eM_acted_27, eM_acted_30, eM_acted_33, eM_acted_34, eM_acted_35, eM_acted_36, eM_acted_37, eM_acted_40, eM_acted_42, eM_acted_45, eM_acted_48, eM_acted_49, eM_acted_52, eM_acted_53, KD_157, LN_157, P0_157_0, P0_157_1, P0_157_2, P0_157_12, P0_157_16, P0_157_17, P0_157_18, P0_157_19, P0_157_20, P0_157_21, P0_157_22, P0_157_24, P0_157_25, P0_157_29, P0_157_30, P0_157_31, P0_157_32, va_rf_some, xl_0, xl_1, xl_2, xl_3, xl_4, xl_5, xl_6, xl_7, xl_8, xl_458, xl_459, xl_460, and_false, false_and, tl_some, tl_none, xkl_int, xkl_ref, xkl_dm, xkl_long, true_and, and_true, o_cl, xin_o, lt_ti, le_ti, ito_o, t32_64, o_add1, oz, op0, op1, op2, op3, op4, op5, op6, op7, o8m, o3m, o161m, o461m, o48p, o66p, o72p, o136p, Int32.reduceToInt, Int32.reduceToNatClampNeg, i_10, i_01, le_om1, Int64.reduceToInt, ↓reduceIte, ite_n, ite_p, xu_hit, xu_miss, op11, not_true_eq_false, not_false_eq_true, decide_true, decide_false, bIt0, bIf0, and_self, Int.reduceLE, Int.reduceLT, Int32.reduceAdd, Nat.reduceLeDiff, Nat.reduceLT, Nat.reduceAdd, Nat.reduceMul, Nat.reduceEqDiff, Nat.add_zero, Nat.zero_add, z, z1]
      refine m_goDown hs hB (by omega) hl h0 hG (fun T' hs' hf => ?_)
      simp (disch := first | omega | (simp only [nar_0, nar_1, nar_b, and_self, Nat.reduceLeDiff, Nat.reduceLT, Int32.reduceToInt]; done) | fail) only [mM_acted, eM_acted_0, eM_acted_1, eM_acted_2, eM_acted_5, eM_acted_6, eM_acted_7, eM_acted_10, eM_acted_11, eM_acted_14, eM_acted_15, eM_acted_18, eM_acted_21, eM_acted_22, eM_acted_23, eM_acted_26, eM_acted_27, eM_acted_30, eM_acted_33, eM_acted_34, eM_acted_35, eM_acted_36, eM_acted_37, eM_acted_40, eM_acted_42, eM_acted_45, eM_acted_48, eM_acted_49, eM_acted_52, eM_acted_53, va_rf_some, xl_0, xl_1, xl_2, xl_3, xl_4, xl_5, xl_6, xl_7, xl_8, xl_458, xl_459, xl_460, and_false, false_and, tl_some, tl_none, xkl_int, xkl_ref, xkl_dm, xkl_long, true_and, and_true, o_cl, xin_o, lt_ti, le_ti, ito_o, t32_64, o_add1, oz, op0, op1, op2, op3, op4, op5, op6, op7, o8m, o3m, o161m, o461m, o48p, o66p, o72p, o136p, Int32.reduceToInt, Int32.reduceToNatClampNeg, i_10, i_01, le_om1, Int64.reduceToInt, ↓reduceIte, ite_n, ite_p, xu_hit, xu_miss, op11, not_true_eq_false, not_false_eq_true, decide_true, decide_false, bIt0, bIf0, and_self, Int.reduceLE, Int.reduceLT, Int32.reduceAdd, Nat.reduceLeDiff, Nat.reduceLT, Nat.reduceAdd, Nat.reduceMul, Nat.reduceEqDiff, Nat.add_zero, Nat.zero_add]
      exact tail _ T' hs' (hQ T' (Sim_mono hs' (by omega)) hf)
    · rw [if_neg a1] at hQ
      by_cases a2 : a = 2
      · subst a2
        rw [if_pos rfl] at hQ
        have ep : passF G 1 S = pass1F G S := by
          show (if S 0 8 = 0 then passF G 0 (pass1F G S) else S) = _
          rw [if_pos h0]
          rfl
        rw [ep] at hQ
        have z : (2 : Int) ≤ ((2 : Nat) : Int) := by omega
        have z1 : o 2 = 2 := rfl
        simp (disch := first | omega | (simp only [nar_0, nar_1, nar_b, and_self, Nat.reduceLeDiff, Nat.reduceLT, Int32.reduceToInt, KD_157, LN_157, P0_157_0, P0_157_1, P0_157_2, P0_157_12, P0_157_16, P0_157_17, P0_157_18, P0_157_19, P0_157_20, P0_157_21, P0_157_22, P0_157_24, P0_157_25, P0_157_29, P0_157_30, P0_157_31, P0_157_32]; done) | fail) only [mM_acted, eM_acted_0, eM_acted_1, eM_acted_2, eM_acted_5, eM_acted_6, eM_acted_7, eM_acted_10, eM_acted_11, eM_acted_14, eM_acted_15, eM_acted_18, eM_acted_21, eM_acted_22, eM_acted_23, eM_acted_26, eM_acted_27, eM_acted_30, eM_acted_33, eM_acted_34, eM_acted_35, eM_acted_36, eM_acted_37, eM_acted_40, eM_acted_42, eM_acted_45, eM_acted_48, eM_acted_49, eM_acted_52, eM_acted_53, KD_157, LN_157, P0_157_0, P0_157_1, P0_157_2, P0_157_12, P0_157_16, P0_157_17, P0_157_18, P0_157_19, P0_157_20, P0_157_21, P0_157_22, P0_157_24, P0_157_25, P0_157_29, P0_157_30, P0_157_31, P0_157_32, va_rf_some, xl_0, xl_1, xl_2, xl_3, xl_4, xl_5, xl_6, xl_7, xl_8, xl_458, xl_459, xl_460, and_false, false_and, tl_some, tl_none, xkl_int, xkl_ref, xkl_dm, xkl_long, true_and, and_true, o_cl, xin_o, lt_ti, le_ti, ito_o, t32_64, o_add1, oz, op0, op1, op2, op3, op4, op5, op6, op7, o8m, o3m, o161m, o461m, o48p, o66p, o72p, o136p, Int32.reduceToInt, Int32.reduceToNatClampNeg, i_10, i_01, le_om1, Int64.reduceToInt, ↓reduceIte, ite_n, ite_p, xu_hit, xu_miss, op11, not_true_eq_false, not_false_eq_true, decide_true, decide_false, bIt0, bIf0, and_self, Int.reduceLE, Int.reduceLT, Int32.reduceAdd, Nat.reduceLeDiff, Nat.reduceLT, Nat.reduceAdd, Nat.reduceMul, Nat.reduceEqDiff, Nat.add_zero, Nat.zero_add, z, z1]
        refine m_pass hs h0 hG (fun T' hs' hf => ?_)
        simp (disch := first | omega | (simp only [nar_0, nar_1, nar_b, and_self, Nat.reduceLeDiff, Nat.reduceLT, Int32.reduceToInt]; done) | fail) only [mM_acted, eM_acted_0, eM_acted_1, eM_acted_2, eM_acted_5, eM_acted_6, eM_acted_7, eM_acted_10, eM_acted_11, eM_acted_14, eM_acted_15, eM_acted_18, eM_acted_21, eM_acted_22, eM_acted_23, eM_acted_26, eM_acted_27, eM_acted_30, eM_acted_33, eM_acted_34, eM_acted_35, eM_acted_36, eM_acted_37, eM_acted_40, eM_acted_42, eM_acted_45, eM_acted_48, eM_acted_49, eM_acted_52, eM_acted_53, va_rf_some, xl_0, xl_1, xl_2, xl_3, xl_4, xl_5, xl_6, xl_7, xl_8, xl_458, xl_459, xl_460, and_false, false_and, tl_some, tl_none, xkl_int, xkl_ref, xkl_dm, xkl_long, true_and, and_true, o_cl, xin_o, lt_ti, le_ti, ito_o, t32_64, o_add1, oz, op0, op1, op2, op3, op4, op5, op6, op7, o8m, o3m, o161m, o461m, o48p, o66p, o72p, o136p, Int32.reduceToInt, Int32.reduceToNatClampNeg, i_10, i_01, le_om1, Int64.reduceToInt, ↓reduceIte, ite_n, ite_p, xu_hit, xu_miss, op11, not_true_eq_false, not_false_eq_true, decide_true, decide_false, bIt0, bIf0, and_self, Int.reduceLE, Int.reduceLT, Int32.reduceAdd, Nat.reduceLeDiff, Nat.reduceLT, Nat.reduceAdd, Nat.reduceMul, Nat.reduceEqDiff, Nat.add_zero, Nat.zero_add]
        exact tail _ T' hs' (hQ T' (Sim_mono hs' (by omega)) hf)
      · rw [if_neg a2] at hQ
        have z : (2 : Int) ≤ (a : Int) := by omega
        have z1 : ¬ o a = 2 := by rw [show (2 : Int32) = o 2 from rfl, o_eq (by omega) (by omega)]; exact a2
        have z2 : o a - 3 = o (a - 3) := by rw [o_lit3, o_sub (by omega)]
        simp (disch := first | omega | (simp only [nar_0, nar_1, nar_b, and_self, Nat.reduceLeDiff, Nat.reduceLT, Int32.reduceToInt, KD_157, LN_157, P0_157_0, P0_157_1, P0_157_2, P0_157_12, P0_157_16, P0_157_17, P0_157_18, P0_157_19, P0_157_20, P0_157_21, P0_157_22, P0_157_24, P0_157_25, P0_157_29, P0_157_30, P0_157_31, P0_157_32]; done) | fail) only [mM_acted, eM_acted_0, eM_acted_1, eM_acted_2, eM_acted_5, eM_acted_6, eM_acted_7, eM_acted_10, eM_acted_11, eM_acted_14, eM_acted_15, eM_acted_18, eM_acted_21, eM_acted_22, eM_acted_23, eM_acted_26, eM_acted_27, eM_acted_30, eM_acted_33, eM_acted_34, eM_acted_35, eM_acted_36, eM_acted_37, eM_acted_40, eM_acted_42, eM_acted_45, eM_acted_48, eM_acted_49, eM_acted_52, eM_acted_53, KD_157, LN_157, P0_157_0, P0_157_1, P0_157_2, P0_157_12, P0_157_16, P0_157_17, P0_157_18, P0_157_19, P0_157_20, P0_157_21, P0_157_22, P0_157_24, P0_157_25, P0_157_29, P0_157_30, P0_157_31, P0_157_32, va_rf_some, xl_0, xl_1, xl_2, xl_3, xl_4, xl_5, xl_6, xl_7, xl_8, xl_458, xl_459, xl_460, and_false, false_and, tl_some, tl_none, xkl_int, xkl_ref, xkl_dm, xkl_long, true_and, and_true, o_cl, xin_o, lt_ti, le_ti, ito_o, t32_64, o_add1, oz, op0, op1, op2, op3, op4, op5, op6, op7, o8m, o3m, o161m, o461m, o48p, o66p, o72p, o136p, Int32.reduceToInt, Int32.reduceToNatClampNeg, i_10, i_01, le_om1, Int64.reduceToInt, ↓reduceIte, ite_n, ite_p, xu_hit, xu_miss, op11, not_true_eq_false, not_false_eq_true, decide_true, decide_false, bIt0, bIf0, and_self, Int.reduceLE, Int.reduceLT, Int32.reduceAdd, Nat.reduceLeDiff, Nat.reduceLT, Nat.reduceAdd, Nat.reduceMul, Nat.reduceEqDiff, Nat.add_zero, Nat.zero_add, z, z1, z2]
        refine m_didSome (by omega) hs hB hb hG (fun T' hs' hf => ?_)
        simp (disch := first | omega | (simp only [nar_0, nar_1, nar_b, and_self, Nat.reduceLeDiff, Nat.reduceLT, Int32.reduceToInt]; done) | fail) only [mM_acted, eM_acted_0, eM_acted_1, eM_acted_2, eM_acted_5, eM_acted_6, eM_acted_7, eM_acted_10, eM_acted_11, eM_acted_14, eM_acted_15, eM_acted_18, eM_acted_21, eM_acted_22, eM_acted_23, eM_acted_26, eM_acted_27, eM_acted_30, eM_acted_33, eM_acted_34, eM_acted_35, eM_acted_36, eM_acted_37, eM_acted_40, eM_acted_42, eM_acted_45, eM_acted_48, eM_acted_49, eM_acted_52, eM_acted_53, va_rf_some, xl_0, xl_1, xl_2, xl_3, xl_4, xl_5, xl_6, xl_7, xl_8, xl_458, xl_459, xl_460, and_false, false_and, tl_some, tl_none, xkl_int, xkl_ref, xkl_dm, xkl_long, true_and, and_true, o_cl, xin_o, lt_ti, le_ti, ito_o, t32_64, o_add1, oz, op0, op1, op2, op3, op4, op5, op6, op7, o8m, o3m, o161m, o461m, o48p, o66p, o72p, o136p, Int32.reduceToInt, Int32.reduceToNatClampNeg, i_10, i_01, le_om1, Int64.reduceToInt, ↓reduceIte, ite_n, ite_p, xu_hit, xu_miss, op11, not_true_eq_false, not_false_eq_true, decide_true, decide_false, bIt0, bIf0, and_self, Int.reduceLE, Int.reduceLT, Int32.reduceAdd, Nat.reduceLeDiff, Nat.reduceLT, Nat.reduceAdd, Nat.reduceMul, Nat.reduceEqDiff, Nat.add_zero, Nat.zero_add]
        exact hQ T' (Sim_mono hs' (by omega)) hf
end
/-- the voyage behind a row of acts -/
def runA (G : Gv) : List Nat → Sv → Option Sv
  | [], S => some S
  | a :: l, S => if (actF G a S).1 = true then runA G l (actF G a S).2 else none
def S00 (G : Gv) : Sv := departF G (unmoveF (fun _ _ => 0))
def valA (G : Gv) (l : List Nat) : Option Int32 := match runA G l (S00 G) with
  | some S => if S 0 6 = 0 then some (S 1 (G 70).toNatClampNeg) else none
  | none => none
