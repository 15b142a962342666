/-! MAY ONE SEEK -/
def seekB (G : Gv) : Bool := decide (0 < gl G ∧ 0 ≤ (G 70).toInt ∧ (G 70).toInt < gt G)
section
variable {E : XE} {d : Nat} {I : Iv} {J : Jv} {Q : XQt} {G : Gv}
theorem c_canSeek (hF : RF G I) (hG : OkS G) : XM E (d + 1) 91 [.ref 0] I J Q = Q (some (.int (bI (seekB G)))) I J := by
  have hT := fun E d J Q => s_hasT (E := E) (d := d) (I := I) (J := J) (Q := Q) (x := G 70) TB_10
  have n4 : I 28 4 = G 70 := hF.2.2.2.2.2.1 4 (by omega)
  have f2 := hF.1
  have f10 := hF.2.1
  have g1 := hG.1.2
  have g2 := hG.2.1.2
  rw [f10, o_toInt (by omega)] at hT
  unfold seekB
  by_cases z : 0 < gl G
  · have z' : ¬ (gl G : Int) ≤ 0 := by omega
    by_cases y : 0 ≤ (G 70).toInt ∧ (G 70).toInt < gt G
    · rw [decide_eq_true ⟨z, y⟩]
      rw [decide_eq_true y] at hT
      have b1 : bI true = 1 := rfl
      simp (disch := first | omega | (simp only [nar_0, nar_1, nar_b, and_self, Nat.reduceLeDiff, Nat.reduceLT, Int32.reduceToInt, KD_0, LN_0, P0_0_0, P0_0_1, P0_0_2, P0_0_3, P0_0_4, P0_0_5, P0_0_6, P0_0_7, KD_1, LN_1, P0_1_0, P0_1_1, P0_1_2, P0_1_3, P0_1_4, KD_2, LN_2, P0_2_0, KD_10, LN_10, P0_10_0, KD_28, LN_28]; done) | fail) only [mKT_canSeek, eKT_canSeek_0, eKT_canSeek_1, eKT_canSeek_4, eKT_canSeek_7, eKT_canSeek_10, eKT_canSeek_13, eKT_canSeek_14, eKT_canSeek_17, eKT_canSeek_20, eKT_canSeek_21, eKT_canSeek_24, eKT_canSeek_27, eKT_canSeek_28, eKT_canSeek_29, eKT_canSeek_32, eKT_canSeek_35, eKT_canSeek_36, eKT_canSeek_39, eKT_canSeek_40, KD_0, LN_0, P0_0_0, P0_0_1, P0_0_2, P0_0_3, P0_0_4, P0_0_5, P0_0_6, P0_0_7, KD_1, LN_1, P0_1_0, P0_1_1, P0_1_2, P0_1_3, P0_1_4, KD_2, LN_2, P0_2_0, KD_10, LN_10, P0_10_0, KD_28, LN_28, va_rf_some, xl_0, xl_1, xl_2, xl_3, xl_4, xl_5, xl_6, xl_7, xl_8, xl_458, xl_459, xl_460, and_false, false_and, tl_some, tl_none, xkl_int, xkl_ref, xkl_dm, xkl_long, true_and, and_true, o_cl, xin_o, lt_ti, le_ti, ito_o, t32_64, o_add1, oz, op0, op1, op2, op3, op4, op5, op6, op7, o8m, o3m, o161m, o461m, o48p, o66p, o72p, o136p, Int32.reduceToInt, Int32.reduceToNatClampNeg, i_10, i_01, le_om1, Int64.reduceToInt, ↓reduceIte, ite_n, ite_p, xu_hit, xu_miss, op11, not_true_eq_false, not_false_eq_true, decide_true, decide_false, bIt0, bIf0, and_self, Int.reduceLE, Int.reduceLT, Int32.reduceAdd, Nat.reduceLeDiff, Nat.reduceLT, Nat.reduceAdd, Nat.reduceMul, Nat.reduceEqDiff, Nat.add_zero, Nat.zero_add, f2, n4, z', hT, b1]
    · rw [decide_eq_false (fun q => y q.2)]
      rw [decide_eq_false y] at hT
      have b0 : bI false = 0 := rfl
      simp (disch := first | omega | (simp only [nar_0, nar_1, nar_b, and_self, Nat.reduceLeDiff, Nat.reduceLT, Int32.reduceToInt, KD_0, LN_0, P0_0_0, P0_0_1, P0_0_2, P0_0_3, P0_0_4, P0_0_5, P0_0_6, P0_0_7, KD_1, LN_1, P0_1_0, P0_1_1, P0_1_2, P0_1_3, P0_1_4, KD_2, LN_2, P0_2_0, KD_10, LN_10, P0_10_0, KD_28, LN_28]; done) | fail) only [mKT_canSeek, eKT_canSeek_0, eKT_canSeek_1, eKT_canSeek_4, eKT_canSeek_7, eKT_canSeek_10, eKT_canSeek_13, eKT_canSeek_14, eKT_canSeek_17, eKT_canSeek_20, eKT_canSeek_21, eKT_canSeek_24, eKT_canSeek_27, eKT_canSeek_28, eKT_canSeek_29, eKT_canSeek_32, eKT_canSeek_35, eKT_canSeek_36, eKT_canSeek_39, eKT_canSeek_40, KD_0, LN_0, P0_0_0, P0_0_1, P0_0_2, P0_0_3, P0_0_4, P0_0_5, P0_0_6, P0_0_7, KD_1, LN_1, P0_1_0, P0_1_1, P0_1_2, P0_1_3, P0_1_4, KD_2, LN_2, P0_2_0, KD_10, LN_10, P0_10_0, KD_28, LN_28, va_rf_some, xl_0, xl_1, xl_2, xl_3, xl_4, xl_5, xl_6, xl_7, xl_8, xl_458, xl_459, xl_460, and_false, false_and, tl_some, tl_none, xkl_int, xkl_ref, xkl_dm, xkl_long, true_and, and_true, o_cl, xin_o, lt_ti, le_ti, ito_o, t32_64, o_add1, oz, op0, op1, op2, op3, op4, op5, op6, op7, o8m, o3m, o161m, o461m, o48p, o66p, o72p, o136p, Int32.reduceToInt, Int32.reduceToNatClampNeg, i_10, i_01, le_om1, Int64.reduceToInt, ↓reduceIte, ite_n, ite_p, xu_hit, xu_miss, op11, not_true_eq_false, not_false_eq_true, decide_true, decide_false, bIt0, bIf0, and_self, Int.reduceLE, Int.reduceLT, Int32.reduceAdd, Nat.reduceLeDiff, Nat.reduceLT, Nat.reduceAdd, Nat.reduceMul, Nat.reduceEqDiff, Nat.add_zero, Nat.zero_add, f2, n4, z', hT, b0]
  · have z' : (gl G : Int) ≤ 0 := by omega
    rw [decide_eq_false (fun q => z q.1)]
    have b0 : bI false = 0 := rfl
    simp (disch := first | omega | (simp only [nar_0, nar_1, nar_b, and_self, Nat.reduceLeDiff, Nat.reduceLT, Int32.reduceToInt, KD_0, LN_0, P0_0_0, P0_0_1, P0_0_2, P0_0_3, P0_0_4, P0_0_5, P0_0_6, P0_0_7, KD_1, LN_1, P0_1_0, P0_1_1, P0_1_2, P0_1_3, P0_1_4, KD_2, LN_2, P0_2_0, KD_10, LN_10, P0_10_0, KD_28, LN_28]; done) | fail) only [mKT_canSeek, eKT_canSeek_0, eKT_canSeek_1, eKT_canSeek_4, eKT_canSeek_7, eKT_canSeek_10, eKT_canSeek_13, eKT_canSeek_14, eKT_canSeek_17, eKT_canSeek_20, eKT_canSeek_21, eKT_canSeek_24, eKT_canSeek_27, eKT_canSeek_28, eKT_canSeek_29, eKT_canSeek_32, eKT_canSeek_35, eKT_canSeek_36, eKT_canSeek_39, eKT_canSeek_40, KD_0, LN_0, P0_0_0, P0_0_1, P0_0_2, P0_0_3, P0_0_4, P0_0_5, P0_0_6, P0_0_7, KD_1, LN_1, P0_1_0, P0_1_1, P0_1_2, P0_1_3, P0_1_4, KD_2, LN_2, P0_2_0, KD_10, LN_10, P0_10_0, KD_28, LN_28, va_rf_some, xl_0, xl_1, xl_2, xl_3, xl_4, xl_5, xl_6, xl_7, xl_8, xl_458, xl_459, xl_460, and_false, false_and, tl_some, tl_none, xkl_int, xkl_ref, xkl_dm, xkl_long, true_and, and_true, o_cl, xin_o, lt_ti, le_ti, ito_o, t32_64, o_add1, oz, op0, op1, op2, op3, op4, op5, op6, op7, o8m, o3m, o161m, o461m, o48p, o66p, o72p, o136p, Int32.reduceToInt, Int32.reduceToNatClampNeg, i_10, i_01, le_om1, Int64.reduceToInt, ↓reduceIte, ite_n, ite_p, xu_hit, xu_miss, op11, not_true_eq_false, not_false_eq_true, decide_true, decide_false, bIt0, bIf0, and_self, Int.reduceLE, Int.reduceLT, Int32.reduceAdd, Nat.reduceLeDiff, Nat.reduceLT, Nat.reduceAdd, Nat.reduceMul, Nat.reduceEqDiff, Nat.add_zero, Nat.zero_add, f2, z', b0]
theorem m_isHome (hI : I 158 = G) (hG : OkS G) : XM E (d + 2) 163 [.ref 157] I J Q = Q (some (.int (bI (seekB G)))) I J := by
  obtain ⟨⟨e1, g1⟩, ⟨e2, g2⟩, -⟩ := hG
  have hn := fun E d Q => s_number (E := E) (d := d) (I := I) (J := J) (Q := Q) (k := 4) (by omega)
  have hl := fun E d Q => s_landings (E := E) (d := d) (I := I) (J := J) (Q := Q)
  have ht := fun E d Q => s_isThing (E := E) (d := d) (I := I) (J := J) (Q := Q) (x := G 70)
  have et : (o (gt G) - 1).toInt = gt G - 1 := by
    generalize gt G = g at *
    by_cases q : g = 0
    · rw [q]
      rfl
    · rw [o_lit1, o_sub (by omega), o_toInt (by omega)]
      omega
  rw [hI, show 66 + 4 = 70 from rfl, show o 4 = 4 from rfl] at hn
  rw [hI, e1] at hl
  rw [hI, e2, et] at ht
  unfold seekB
  by_cases z : 0 < gl G
  · have z' : ¬ (gl G : Int) ≤ 0 := by omega
    by_cases y : 0 ≤ (G 70).toInt ∧ (G 70).toInt < gt G
    · rw [decide_eq_true ⟨z, y⟩]
      rw [decide_eq_true (by omega)] at ht
      have b1 : bI true = 1 := rfl
      simp (disch := first | omega | (simp only [nar_0, nar_1, nar_b, and_self, Nat.reduceLeDiff, Nat.reduceLT, Int32.reduceToInt, KD_157, LN_157, P0_157_0, P0_157_1, P0_157_2, P0_157_12, P0_157_16, P0_157_17, P0_157_18, P0_157_19, P0_157_20, P0_157_21, P0_157_22, P0_157_24, P0_157_25, P0_157_29, P0_157_30, P0_157_31, P0_157_32, KD_158, LN_158]; done) | fail) only [mM_isHome, eM_isHome_0, eM_isHome_1, eM_isHome_4, eM_isHome_7, eM_isHome_8, eM_isHome_9, eM_isHome_10, eM_isHome_13, eM_isHome_16, eM_isHome_19, eM_isHome_20, eM_isHome_23, eM_isHome_24, KD_157, LN_157, P0_157_0, P0_157_1, P0_157_2, P0_157_12, P0_157_16, P0_157_17, P0_157_18, P0_157_19, P0_157_20, P0_157_21, P0_157_22, P0_157_24, P0_157_25, P0_157_29, P0_157_30, P0_157_31, P0_157_32, KD_158, LN_158, va_rf_some, xl_0, xl_1, xl_2, xl_3, xl_4, xl_5, xl_6, xl_7, xl_8, xl_458, xl_459, xl_460, and_false, false_and, tl_some, tl_none, xkl_int, xkl_ref, xkl_dm, xkl_long, true_and, and_true, o_cl, xin_o, lt_ti, le_ti, ito_o, t32_64, o_add1, oz, op0, op1, op2, op3, op4, op5, op6, op7, o8m, o3m, o161m, o461m, o48p, o66p, o72p, o136p, Int32.reduceToInt, Int32.reduceToNatClampNeg, i_10, i_01, le_om1, Int64.reduceToInt, ↓reduceIte, ite_n, ite_p, xu_hit, xu_miss, op11, not_true_eq_false, not_false_eq_true, decide_true, decide_false, bIt0, bIf0, and_self, Int.reduceLE, Int.reduceLT, Int32.reduceAdd, Nat.reduceLeDiff, Nat.reduceLT, Nat.reduceAdd, Nat.reduceMul, Nat.reduceEqDiff, Nat.add_zero, Nat.zero_add, hn, hl, ht, z', b1]
    · rw [decide_eq_false (fun q => y q.2)]
      rw [decide_eq_false (by omega)] at ht
      have b0 : bI false = 0 := rfl
      simp (disch := first | omega | (simp only [nar_0, nar_1, nar_b, and_self, Nat.reduceLeDiff, Nat.reduceLT, Int32.reduceToInt, KD_157, LN_157, P0_157_0, P0_157_1, P0_157_2, P0_157_12, P0_157_16, P0_157_17, P0_157_18, P0_157_19, P0_157_20, P0_157_21, P0_157_22, P0_157_24, P0_157_25, P0_157_29, P0_157_30, P0_157_31, P0_157_32, KD_158, LN_158]; done) | fail) only [mM_isHome, eM_isHome_0, eM_isHome_1, eM_isHome_4, eM_isHome_7, eM_isHome_8, eM_isHome_9, eM_isHome_10, eM_isHome_13, eM_isHome_16, eM_isHome_19, eM_isHome_20, eM_isHome_23, eM_isHome_24, KD_157, LN_157, P0_157_0, P0_157_1, P0_157_2, P0_157_12, P0_157_16, P0_157_17, P0_157_18, P0_157_19, P0_157_20, P0_157_21, P0_157_22, P0_157_24, P0_157_25, P0_157_29, P0_157_30, P0_157_31, P0_157_32, KD_158, LN_158, va_rf_some, xl_0, xl_1, xl_2, xl_3, xl_4, xl_5, xl_6, xl_7, xl_8, xl_458, xl_459, xl_460, and_false, false_and, tl_some, tl_none, xkl_int, xkl_ref, xkl_dm, xkl_long, true_and, and_true, o_cl, xin_o, lt_ti, le_ti, ito_o, t32_64, o_add1, oz, op0, op1, op2, op3, op4, op5, op6, op7, o8m, o3m, o161m, o461m, o48p, o66p, o72p, o136p, Int32.reduceToInt, Int32.reduceToNatClampNeg, i_10, i_01, le_om1, Int64.reduceToInt, ↓reduceIte, ite_n, ite_p, xu_hit, xu_miss, op11, not_true_eq_false, not_false_eq_true, decide_true, decide_false, bIt0, bIf0, and_self, Int.reduceLE, Int.reduceLT, Int32.reduceAdd, Nat.reduceLeDiff, Nat.reduceLT, Nat.reduceAdd, Nat.reduceMul, Nat.reduceEqDiff, Nat.add_zero, Nat.zero_add, hn, hl, ht, z', b0]
  · have z' : (gl G : Int) ≤ 0 := by omega
    rw [decide_eq_false (fun q => z q.1)]
    have b0 : bI false = 0 := rfl
    simp (disch := first | omega | (simp only [nar_0, nar_1, nar_b, and_self, Nat.reduceLeDiff, Nat.reduceLT, Int32.reduceToInt, KD_157, LN_157, P0_157_0, P0_157_1, P0_157_2, P0_157_12, P0_157_16, P0_157_17, P0_157_18, P0_157_19, P0_157_20, P0_157_21, P0_157_22, P0_157_24, P0_157_25, P0_157_29, P0_157_30, P0_157_31, P0_157_32, KD_158, LN_158]; done) | fail) only [mM_isHome, eM_isHome_0, eM_isHome_1, eM_isHome_4, eM_isHome_7, eM_isHome_8, eM_isHome_9, eM_isHome_10, eM_isHome_13, eM_isHome_16, eM_isHome_19, eM_isHome_20, eM_isHome_23, eM_isHome_24, KD_157, LN_157, P0_157_0, P0_157_1, P0_157_2, P0_157_12, P0_157_16, P0_157_17, P0_157_18, P0_157_19, P0_157_20, P0_157_21, P0_157_22, P0_157_24, P0_157_25, P0_157_29, P0_157_30, P0_157_31, P0_157_32, KD_158, LN_158, va_rf_some, xl_0, xl_1, xl_2, xl_3, xl_4, xl_5, xl_6, xl_7, xl_8, xl_458, xl_459, xl_460, and_false, false_and, tl_some, tl_none, xkl_int, xkl_ref, xkl_dm, xkl_long, true_and, and_true, o_cl, xin_o, lt_ti, le_ti, ito_o, t32_64, o_add1, oz, op0, op1, op2, op3, op4, op5, op6, op7, o8m, o3m, o161m, o461m, o48p, o66p, o72p, o136p, Int32.reduceToInt, Int32.reduceToNatClampNeg, i_10, i_01, le_om1, Int64.reduceToInt, ↓reduceIte, ite_n, ite_p, xu_hit, xu_miss, op11, not_true_eq_false, not_false_eq_true, decide_true, decide_false, bIt0, bIf0, and_self, Int.reduceLE, Int.reduceLT, Int32.reduceAdd, Nat.reduceLeDiff, Nat.reduceLT, Nat.reduceAdd, Nat.reduceMul, Nat.reduceEqDiff, Nat.add_zero, Nat.zero_add, hl, z', b0]
end
