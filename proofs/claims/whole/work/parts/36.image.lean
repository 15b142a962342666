/-! image, from -/
theorem cg_n {G G' : Gv} (h : ∀ k, k < 461 → G' k = G k) : gl G' = gl G ∧ gt G' = gt G ∧ gc G' = gc G ∧ ∀ t, t < 2 → ln G' t = ln G t := by
  unfold gl gt gc ln
  exact ⟨by rw [h _ (by omega)], by rw [h _ (by omega)], by rw [h _ (by omega)], fun t ht => by rw [h _ (by omega)]⟩
theorem Ok_cg {G G' : Gv} (h : ∀ k, k < 461 → G' k = G k) (hG : Ok G) : Ok G' := by
  obtain ⟨c1, c2, c3, c4⟩ := cg_n h
  obtain ⟨⟨e1, g1⟩, ⟨e2, g2⟩, ⟨e3, g3⟩, e4, oL, oT, oN, oC⟩ := hG
  refine ⟨⟨?_, by omega⟩, ⟨?_, by omega⟩, ⟨?_, by omega⟩, fun t ht => ?_, ?_, ?_, ?_, ?_⟩
  · rw [c1, h _ (by omega)]; exact e1
  · rw [c2, h _ (by omega)]; exact e2
  · rw [c3, h _ (by omega)]; exact e3
  · rw [c4 t ht, h _ (by omega)]; exact e4 t ht
  · exact OkL_of oL c1 (by omega) (fun k _ => h k (by omega)) g1
  · exact OkT_of oT c2 (fun k _ _ => h k (by omega)) g2
  · exact OkN_of oN (by omega) (by omega) (fun k _ _ => h k (by omega))
  · exact OkC_of oC c3 (by omega) (by omega) (fun k _ _ => h k (by omega)) g3
theorem RelC_cg {R : Nat} {G G' : Gv} {I : Iv} (h : ∀ k, k < 461 → G' k = G k) (hG : Ok G) (hr : RelC R G I) : RelC R G' I := by
  obtain ⟨c1, c2, c3, c4⟩ := cg_n h
  obtain ⟨⟨e1, g1⟩, ⟨e2, g2⟩, ⟨e3, g3⟩, e4, -⟩ := hG
  obtain ⟨q1, q2, q3, q4, q5, q6, q7, q8⟩ := hr
  refine ⟨?_, ?_, ?_, fun l k hl hk => ?_, fun l k hl hk => ?_, fun k hk => ?_, fun l k hl hk => ?_, fun t ht => ⟨?_, fun i hi => ?_⟩⟩
  · rw [h _ (by omega)]; exact q1
  · rw [h _ (by omega)]; exact q2
  · rw [h _ (by omega)]; exact q3
  · rw [c1] at hl; rw [h _ (by omega)]; exact q4 l k hl hk
  · rw [c2] at hl; rw [h _ (by omega)]; exact q5 l k hl hk
  · rw [h _ (by omega)]; exact q6 k hk
  · rw [c3] at hl; rw [h _ (by omega)]; exact q7 l k hl hk
  · rw [h _ (by omega)]; exact (q8 t ht).1
  · rw [c4 t ht] at hi
    have := (e4 t ht).2
    rw [h _ (by omega)]; exact (q8 t ht).2 i hi
theorem vn_1 : vp_nar .boolean 1 = 1 := by decide
theorem LK_I {l : Nat} (h : l < 2) : P0 34 l = some (35 + 33 * l) ∧ RV (35 + 33 * l) := by
  match l, h with
  | 0, _ => exact ⟨P0_34_0, RV_35⟩
  | 1, _ => exact ⟨P0_34_1, RV_68⟩
  | k + 2, h => exact absurd h (by omega)
section
variable {E : XE} {d : Nat} {J : Nat → Nat → Int64} {Q : XQt}
theorem img_loop {i : Nat} (hi : i < 2) : ∀ (m j : Nat) (I : Iv), j + m = 461 → X E d 175 12 [.ref 157, .int (o i), .int (o j)] [] I J Q = X E d 175 43 [.ref 157, .int (o i), .int (o 461)] [] (fun b k => if b = 159 ∧ 461 * i + j ≤ k ∧ k < 461 * i + 461 then I 158 (k - 461 * i) else I b k) J Q
  | 0, j, I, h => by
    have e : j = 461 := by omega
    subst e
    rw [eM_image_12]
    simp only [eM_image_13, eM_image_16, le_ti, o_toInt (by omega : 461 < 2147483648), Int32.reduceToInt]
    rw [if_pos (by decide)]
    congr 1
    funext b k
    rw [if_neg (by omega)]
  | m + 1, j, I, h => by
    have hj : ¬ (461 : Int) ≤ (j : Int) := by omega
    have hk : 461 * i + j < 922 := by omega
    have hk2 : j < 461 := by omega
    rw [eM_image_12]
    simp (disch := first | omega | (simp only [nar_0, nar_1, nar_b, and_self, Nat.reduceLeDiff, Nat.reduceLT, Int32.reduceToInt, KD_157, LN_157, P0_157_0, P0_157_1, P0_157_2, P0_157_12, P0_157_16, P0_157_17, P0_157_18, P0_157_19, P0_157_20, P0_157_21, P0_157_22, P0_157_24, P0_157_25, P0_157_29, P0_157_30, P0_157_31, P0_157_32, KD_158, LN_158, KD_159, LN_159]; done) | fail) only [mM_image, eM_image_0, eM_image_1, eM_image_4, eM_image_7, eM_image_9, eM_image_10, eM_image_11, eM_image_13, eM_image_16, eM_image_19, eM_image_20, eM_image_23, eM_image_26, eM_image_27, eM_image_28, eM_image_29, eM_image_30, eM_image_31, eM_image_34, eM_image_35, eM_image_36, eM_image_37, eM_image_40, eM_image_44, eM_image_47, eM_image_48, eM_image_49, eM_image_50, eM_image_51, KD_157, LN_157, P0_157_0, P0_157_1, P0_157_2, P0_157_12, P0_157_16, P0_157_17, P0_157_18, P0_157_19, P0_157_20, P0_157_21, P0_157_22, P0_157_24, P0_157_25, P0_157_29, P0_157_30, P0_157_31, P0_157_32, KD_158, LN_158, KD_159, LN_159, va_rf_some, xl_0, xl_1, xl_2, xl_3, xl_4, xl_5, xl_6, xl_7, xl_8, xl_458, xl_459, xl_460, and_false, false_and, tl_some, tl_none, xkl_int, xkl_ref, xkl_dm, xkl_long, true_and, and_true, o_cl, xin_o, lt_ti, le_ti, ito_o, t32_64, o_add1, oz, op0, op1, op2, op3, op4, op5, op6, op7, o8m, o3m, o161m, o461m, o48p, o66p, o72p, o136p, Int32.reduceToInt, Int32.reduceToNatClampNeg, i_10, i_01, le_om1, Int64.reduceToInt, ↓reduceIte, ite_n, ite_p, xu_hit, xu_miss, op11, not_true_eq_false, not_false_eq_true, decide_true, decide_false, bIt0, bIf0, and_self, Int.reduceLE, Int.reduceLT, Int32.reduceAdd, Nat.reduceLeDiff, Nat.reduceLT, Nat.reduceAdd, Nat.reduceMul, Nat.reduceEqDiff, Nat.add_zero, Nat.zero_add, hj, o_add, hk, hk2]
    rw [img_loop hi m (j + 1) _ (by omega)]
    congr 1
    funext b k
    simp only [xuI_ap]
    by_cases h1 : b = 159 ∧ 461 * i + j ≤ k ∧ k < 461 * i + 461
    · by_cases h2 : k = 461 * i + j
      · simp (disch := omega) only [xu_hit, xu_miss, ite_n, ite_p, if_true, if_false, and_true, true_and, and_false, false_and, and_self, Nat.reduceEqDiff]
        rw [h2]
        congr 1
        omega
      · simp (disch := omega) only [xu_hit, xu_miss, ite_n, ite_p, if_true, if_false, and_true, true_and, and_false, false_and, and_self, Nat.reduceEqDiff]
    · simp (disch := omega) only [xu_hit, xu_miss, ite_n, ite_p, if_true, if_false, and_true, true_and, and_false, false_and, and_self, Nat.reduceEqDiff]
theorem from_loop {i : Nat} (hi : i < 2) : ∀ (m j : Nat) (I : Iv), j + m = 461 → X E d 176 24 [.ref 157, .int (o i), .int (o j)] [] I J Q = X E d 176 55 [.ref 157, .int (o i), .int (o 461)] [] (fun b k => if b = 158 ∧ j ≤ k ∧ k < 461 then I 159 (461 * i + k) else I b k) J Q
  | 0, j, I, h => by
    have e : j = 461 := by omega
    subst e
    rw [eM_from_24]
    simp only [eM_from_25, eM_from_28, le_ti, o_toInt (by omega : 461 < 2147483648), Int32.reduceToInt]
    rw [if_pos (by decide)]
    congr 1
    funext b k
    rw [if_neg (by omega)]
  | m + 1, j, I, h => by
    have hj : ¬ (461 : Int) ≤ (j : Int) := by omega
    have hk : 461 * i + j < 922 := by omega
    have hk2 : j < 461 := by omega
    rw [eM_from_24]
    simp (disch := first | omega | (simp only [nar_0, nar_1, nar_b, and_self, Nat.reduceLeDiff, Nat.reduceLT, Int32.reduceToInt, KD_157, LN_157, P0_157_0, P0_157_1, P0_157_2, P0_157_12, P0_157_16, P0_157_17, P0_157_18, P0_157_19, P0_157_20, P0_157_21, P0_157_22, P0_157_24, P0_157_25, P0_157_29, P0_157_30, P0_157_31, P0_157_32, KD_158, LN_158, KD_159, LN_159]; done) | fail) only [mM_from, eM_from_0, eM_from_1, eM_from_4, eM_from_7, eM_from_9, eM_from_10, eM_from_11, eM_from_14, eM_from_15, eM_from_16, eM_from_19, eM_from_21, eM_from_22, eM_from_23, eM_from_25, eM_from_28, eM_from_31, eM_from_32, eM_from_35, eM_from_36, eM_from_37, eM_from_40, eM_from_43, eM_from_44, eM_from_45, eM_from_46, eM_from_47, eM_from_48, eM_from_49, eM_from_52, eM_from_56, KD_157, LN_157, P0_157_0, P0_157_1, P0_157_2, P0_157_12, P0_157_16, P0_157_17, P0_157_18, P0_157_19, P0_157_20, P0_157_21, P0_157_22, P0_157_24, P0_157_25, P0_157_29, P0_157_30, P0_157_31, P0_157_32, KD_158, LN_158, KD_159, LN_159, va_rf_some, xl_0, xl_1, xl_2, xl_3, xl_4, xl_5, xl_6, xl_7, xl_8, xl_458, xl_459, xl_460, and_false, false_and, tl_some, tl_none, xkl_int, xkl_ref, xkl_dm, xkl_long, true_and, and_true, o_cl, xin_o, lt_ti, le_ti, ito_o, t32_64, o_add1, oz, op0, op1, op2, op3, op4, op5, op6, op7, o8m, o3m, o161m, o461m, o48p, o66p, o72p, o136p, Int32.reduceToInt, Int32.reduceToNatClampNeg, i_10, i_01, le_om1, Int64.reduceToInt, ↓reduceIte, ite_n, ite_p, xu_hit, xu_miss, op11, not_true_eq_false, not_false_eq_true, decide_true, decide_false, bIt0, bIf0, and_self, Int.reduceLE, Int.reduceLT, Int32.reduceAdd, Nat.reduceLeDiff, Nat.reduceLT, Nat.reduceAdd, Nat.reduceMul, Nat.reduceEqDiff, Nat.add_zero, Nat.zero_add, hj, o_add, hk, hk2]
    rw [from_loop hi m (j + 1) _ (by omega)]
    congr 1
    funext b k
    simp only [xuI_ap]
    by_cases h1 : b = 158 ∧ j ≤ k ∧ k < 461
    · by_cases h2 : k = j
      · simp (disch := omega) only [xu_hit, xu_miss, ite_n, ite_p, if_true, if_false, and_true, true_and, and_false, false_and, and_self, Nat.reduceEqDiff]
        rw [h2]
      · simp (disch := omega) only [xu_hit, xu_miss, ite_n, ite_p, if_true, if_false, and_true, true_and, and_false, false_and, and_self, Nat.reduceEqDiff]
    · simp (disch := omega) only [xu_hit, xu_miss, ite_n, ite_p, if_true, if_false, and_true, true_and, and_false, false_and, and_self, Nat.reduceEqDiff]
end
section
variable {E : XE} {d : Nat} {I : Nat → Nat → Int32} {J : Nat → Nat → Int64} {Q : Option Value → XQt}
theorem p_image {i : Int32} (h : Inv I J) (hQ : ∀ z I' J', Inv I' J' → Q (some (.int z)) (some (.int z)) I' J') : XM E (d + 5) 96 [.ref 0, .int i] I J (fun r I1 J1 => XM E (d + 5) 175 [.ref 157, .int i] I1 J1 (fun r2 I2 J2 => Q r r2 I2 J2)) := by
  obtain ⟨hR, hG, hJ, hi, hW, hW1, hW2⟩ := id h
  generalize hq : (fun r I1 J1 => XM E (d + 5) 175 [.ref 157, .int i] I1 J1 (fun r2 I2 J2 => Q r r2 I2 J2)) = Qc
  by_cases hA : 0 ≤ i.toInt ∧ i.toInt ≤ 1
  · obtain ⟨n, rfl, hn, hn2⟩ := of_ti (b := 2) hA.1 (by have := hA.2; omega)
    rw [ito_o _ hn2] at hA
    obtain ⟨k1, k2⟩ := LK_I hn
    have k3 := k2.1
    have hWn : Wd (35 + 33 * n) I := by
      match n, hn with
      | 0, _ => exact hW1
      | 1, _ => exact hW2
      | n + 2, h => omega
    simp (disch := first | omega | (simp only [nar_0, nar_1, nar_b, and_self, Nat.reduceLeDiff, Nat.reduceLT, Int32.reduceToInt, KD_0, LN_0, P0_0_0, P0_0_1, P0_0_2, P0_0_3, P0_0_4, P0_0_5, P0_0_6, P0_0_7, KD_1, LN_1, P0_1_0, P0_1_1, P0_1_2, P0_1_3, P0_1_4, KD_34, LN_34, P0_34_0, P0_34_1, KD_101, LN_101]; done) | fail) only [mKT_image, eKT_image_0, eKT_image_1, eKT_image_4, eKT_image_7, eKT_image_9, eKT_image_10, eKT_image_11, eKT_image_14, eKT_image_15, eKT_image_16, eKT_image_17, eKT_image_20, eKT_image_23, eKT_image_24, eKT_image_27, eKT_image_28, eKT_image_29, eKT_image_30, eKT_image_31, KD_0, LN_0, P0_0_0, P0_0_1, P0_0_2, P0_0_3, P0_0_4, P0_0_5, P0_0_6, P0_0_7, KD_1, LN_1, P0_1_0, P0_1_1, P0_1_2, P0_1_3, P0_1_4, KD_34, LN_34, P0_34_0, P0_34_1, KD_101, LN_101, va_rf_some, xl_0, xl_1, xl_2, xl_3, xl_4, xl_5, xl_6, xl_7, xl_8, xl_458, xl_459, xl_460, and_false, false_and, tl_some, tl_none, xkl_int, xkl_ref, xkl_dm, xkl_long, true_and, and_true, o_cl, xin_o, lt_ti, le_ti, ito_o, t32_64, o_add1, oz, op0, op1, op2, op3, op4, op5, op6, op7, o8m, o3m, o161m, o461m, o48p, o66p, o72p, o136p, Int32.reduceToInt, Int32.reduceToNatClampNeg, i_10, i_01, le_om1, Int64.reduceToInt, ↓reduceIte, ite_n, ite_p, xu_hit, xu_miss, op11, not_true_eq_false, not_false_eq_true, decide_true, decide_false, bIt0, bIf0, and_self, Int.reduceLE, Int.reduceLT, Int32.reduceAdd, Nat.reduceLeDiff, Nat.reduceLT, Nat.reduceAdd, Nat.reduceMul, Nat.reduceEqDiff, Nat.add_zero, Nat.zero_add, s_isImage, hA, hn, k1]
    refine c_rcopy k2 RV_1 (by omega) hG hR hWn (fun I1 a1 a2 a3 => ?_)
    simp (disch := first | omega | (simp only [nar_0, nar_1, nar_b, and_self, Nat.reduceLeDiff, Nat.reduceLT, Int32.reduceToInt, KD_0, LN_0, P0_0_0, P0_0_1, P0_0_2, P0_0_3, P0_0_4, P0_0_5, P0_0_6, P0_0_7, KD_1, LN_1, P0_1_0, P0_1_1, P0_1_2, P0_1_3, P0_1_4, KD_34, LN_34, P0_34_0, P0_34_1, KD_101, LN_101]; done) | fail) only [mKT_image, eKT_image_0, eKT_image_1, eKT_image_4, eKT_image_7, eKT_image_9, eKT_image_10, eKT_image_11, eKT_image_14, eKT_image_15, eKT_image_16, eKT_image_17, eKT_image_20, eKT_image_23, eKT_image_24, eKT_image_27, eKT_image_28, eKT_image_29, eKT_image_30, eKT_image_31, KD_0, LN_0, P0_0_0, P0_0_1, P0_0_2, P0_0_3, P0_0_4, P0_0_5, P0_0_6, P0_0_7, KD_1, LN_1, P0_1_0, P0_1_1, P0_1_2, P0_1_3, P0_1_4, KD_34, LN_34, P0_34_0, P0_34_1, KD_101, LN_101, va_rf_some, xl_0, xl_1, xl_2, xl_3, xl_4, xl_5, xl_6, xl_7, xl_8, xl_458, xl_459, xl_460, and_false, false_and, tl_some, tl_none, xkl_int, xkl_ref, xkl_dm, xkl_long, true_and, and_true, o_cl, xin_o, lt_ti, le_ti, ito_o, t32_64, o_add1, oz, op0, op1, op2, op3, op4, op5, op6, op7, o8m, o3m, o161m, o461m, o48p, o66p, o72p, o136p, Int32.reduceToInt, Int32.reduceToNatClampNeg, i_10, i_01, le_om1, Int64.reduceToInt, ↓reduceIte, ite_n, ite_p, xu_hit, xu_miss, op11, not_true_eq_false, not_false_eq_true, decide_true, decide_false, bIt0, bIf0, and_self, Int.reduceLE, Int.reduceLT, Int32.reduceAdd, Nat.reduceLeDiff, Nat.reduceLT, Nat.reduceAdd, Nat.reduceMul, Nat.reduceEqDiff, Nat.add_zero, Nat.zero_add, hn, vn_1]
    subst hq
    have hlp := fun E d J Q => img_loop (E := E) (d := d) (J := J) (Q := Q) hn 461 0 (xuI I1 101 n 1) (by omega)
    simp only [show o 0 = 0 from rfl, Nat.add_zero] at hlp
    simp (disch := first | omega | (simp only [nar_0, nar_1, nar_b, and_self, Nat.reduceLeDiff, Nat.reduceLT, Int32.reduceToInt, KD_157, LN_157, P0_157_0, P0_157_1, P0_157_2, P0_157_12, P0_157_16, P0_157_17, P0_157_18, P0_157_19, P0_157_20, P0_157_21, P0_157_22, P0_157_24, P0_157_25, P0_157_29, P0_157_30, P0_157_31, P0_157_32, KD_160, LN_160]; done) | fail) only [mM_image, eM_image_0, eM_image_1, eM_image_4, eM_image_7, eM_image_9, eM_image_10, eM_image_11, eM_image_13, eM_image_16, eM_image_19, eM_image_20, eM_image_23, eM_image_26, eM_image_27, eM_image_28, eM_image_29, eM_image_30, eM_image_31, eM_image_34, eM_image_35, eM_image_36, eM_image_37, eM_image_40, eM_image_44, eM_image_47, eM_image_48, eM_image_49, eM_image_50, eM_image_51, KD_157, LN_157, P0_157_0, P0_157_1, P0_157_2, P0_157_12, P0_157_16, P0_157_17, P0_157_18, P0_157_19, P0_157_20, P0_157_21, P0_157_22, P0_157_24, P0_157_25, P0_157_29, P0_157_30, P0_157_31, P0_157_32, KD_160, LN_160, va_rf_some, xl_0, xl_1, xl_2, xl_3, xl_4, xl_5, xl_6, xl_7, xl_8, xl_458, xl_459, xl_460, and_false, false_and, tl_some, tl_none, xkl_int, xkl_ref, xkl_dm, xkl_long, true_and, and_true, o_cl, xin_o, lt_ti, le_ti, ito_o, t32_64, o_add1, oz, op0, op1, op2, op3, op4, op5, op6, op7, o8m, o3m, o161m, o461m, o48p, o66p, o72p, o136p, Int32.reduceToInt, Int32.reduceToNatClampNeg, i_10, i_01, le_om1, Int64.reduceToInt, ↓reduceIte, ite_n, ite_p, xu_hit, xu_miss, op11, not_true_eq_false, not_false_eq_true, decide_true, decide_false, bIt0, bIf0, and_self, Int.reduceLE, Int.reduceLT, Int32.reduceAdd, Nat.reduceLeDiff, Nat.reduceLT, Nat.reduceAdd, Nat.reduceMul, Nat.reduceEqDiff, Nat.add_zero, Nat.zero_add, s_misText, hA]
    rw [hlp]
    simp (disch := first | omega | (simp only [nar_0, nar_1, nar_b, and_self, Nat.reduceLeDiff, Nat.reduceLT, Int32.reduceToInt, KD_157, LN_157, P0_157_0, P0_157_1, P0_157_2, P0_157_12, P0_157_16, P0_157_17, P0_157_18, P0_157_19, P0_157_20, P0_157_21, P0_157_22, P0_157_24, P0_157_25, P0_157_29, P0_157_30, P0_157_31, P0_157_32, KD_160, LN_160]; done) | fail) only [mM_image, eM_image_0, eM_image_1, eM_image_4, eM_image_7, eM_image_9, eM_image_10, eM_image_11, eM_image_13, eM_image_16, eM_image_19, eM_image_20, eM_image_23, eM_image_26, eM_image_27, eM_image_28, eM_image_29, eM_image_30, eM_image_31, eM_image_34, eM_image_35, eM_image_36, eM_image_37, eM_image_40, eM_image_43, eM_image_44, eM_image_47, eM_image_48, eM_image_49, eM_image_50, eM_image_51, KD_157, LN_157, P0_157_0, P0_157_1, P0_157_2, P0_157_12, P0_157_16, P0_157_17, P0_157_18, P0_157_19, P0_157_20, P0_157_21, P0_157_22, P0_157_24, P0_157_25, P0_157_29, P0_157_30, P0_157_31, P0_157_32, KD_160, LN_160, va_rf_some, xl_0, xl_1, xl_2, xl_3, xl_4, xl_5, xl_6, xl_7, xl_8, xl_458, xl_459, xl_460, and_false, false_and, tl_some, tl_none, xkl_int, xkl_ref, xkl_dm, xkl_long, true_and, and_true, o_cl, xin_o, lt_ti, le_ti, ito_o, t32_64, o_add1, oz, op0, op1, op2, op3, op4, op5, op6, op7, o8m, o3m, o161m, o461m, o48p, o66p, o72p, o136p, Int32.reduceToInt, Int32.reduceToNatClampNeg, i_10, i_01, le_om1, Int64.reduceToInt, ↓reduceIte, ite_n, ite_p, xu_hit, xu_miss, op11, not_true_eq_false, not_false_eq_true, decide_true, decide_false, bIt0, bIf0, and_self, Int.reduceLE, Int.reduceLT, Int32.reduceAdd, Nat.reduceLeDiff, Nat.reduceLT, Nat.reduceAdd, Nat.reduceMul, Nat.reduceEqDiff, Nat.add_zero, Nat.zero_add, hn, vn_1]
    generalize hI2 : xuI _ 160 n 1 = I2
    have R1 : ∀ a, ¬ a = 160 → ¬ a = 159 → ¬ a = 101 → I2 a = I1 a := by
      intro a z1 z2 z3; rw [← hI2]; funext k; simp (disch := omega) only [xu_hit, xu_miss, ite_n, ite_p, if_true, if_false, and_true, true_and, and_false, false_and, and_self, Nat.reduceEqDiff]
    have R2 : ∀ k, I2 159 k = if 461 * n ≤ k ∧ k < 461 * n + 461 then I 158 (k - 461 * n) else I 159 k := by
      intro k
      rw [← hI2]
      by_cases h1 : 461 * n ≤ k ∧ k < 461 * n + 461
      · simp (disch := omega) only [xu_hit, xu_miss, ite_n, ite_p, if_true, if_false, and_true, true_and, and_false, false_and, and_self, Nat.reduceEqDiff]
        rw [a3 _ (by omega)]
      · simp (disch := omega) only [xu_hit, xu_miss, ite_n, ite_p, if_true, if_false, and_true, true_and, and_false, false_and, and_self, Nat.reduceEqDiff]
        rw [a3 _ (by omega)]
    have R3 : ∀ k, I2 101 k = if k = n then 1 else I 101 k := by
      intro k
      rw [← hI2]
      by_cases h1 : k = n
      · simp (disch := omega) only [xu_hit, xu_miss, ite_n, ite_p, if_true, if_false, and_true, true_and, and_false, false_and, and_self, Nat.reduceEqDiff]
      · simp (disch := omega) only [xu_hit, xu_miss, ite_n, ite_p, if_true, if_false, and_true, true_and, and_false, false_and, and_self, Nat.reduceEqDiff]
        rw [a3 _ (by omega)]
    have R4 : ∀ k, I2 160 k = if k = n then 1 else I 160 k := by
      intro k
      rw [← hI2]
      by_cases h1 : k = n
      · simp (disch := omega) only [xu_hit, xu_miss, ite_n, ite_p, if_true, if_false, and_true, true_and, and_false, false_and, and_self, Nat.reduceEqDiff]
      · simp (disch := omega) only [xu_hit, xu_miss, ite_n, ite_p, if_true, if_false, and_true, true_and, and_false, false_and, and_self, Nat.reduceEqDiff]
        rw [a3 _ (by omega)]
    have e8 : I2 158 = I 158 := by rw [R1 _ (by omega) (by omega) (by omega), a3 _ (by omega)]
    have hRR : ∀ R, 0 < R → ¬ R = 35 + 33 * n → R ≤ 68 → (R = 1 ∨ R = 35 ∨ R = 68) → ∀ a, R < a → a < R + 33 → I2 a = I a := by
      intro R _ h1 _ h2 a z1 z2
      rw [R1 _ (by omega) (by omega) (by omega), a3 _ (by omega)]
    refine hQ _ _ _ ⟨?_, ?_, hJ, fun j hj => ?_, ?_, ?_, ?_⟩
    · rw [e8]
      exact RelC_fr hG (hRR 1 (by omega) (by omega) (by omega) (by omega)) hR
    · rw [e8]; exact hG
    · obtain ⟨b1, b2⟩ := hi j hj
      rw [R3, R4]
      by_cases hjn : j = n
      · subst hjn
        simp (disch := omega) only [xu_hit, xu_miss, ite_n, ite_p, if_true, if_false, and_true, true_and, and_false, false_and, and_self, Nat.reduceEqDiff]
        have hcg : ∀ k, k < 461 → imG I2 j k = I 158 k := by
          intro k hk
          show I2 159 (461 * j + k) = _
          rw [R2]
          simp (disch := omega) only [xu_hit, xu_miss, ite_n, ite_p, if_true, if_false, and_true, true_and, and_false, false_and, and_self, Nat.reduceEqDiff]
          congr 1
          omega
        refine Or.inr ⟨RelC_cg hcg hG (RelC_fr hG (fun a z1 z2 => R1 a (by omega) (by omega) (by omega)) a1), Ok_cg hcg hG⟩
      · simp (disch := omega) only [xu_hit, xu_miss, ite_n, ite_p, if_true, if_false, and_true, true_and, and_false, false_and, and_self, Nat.reduceEqDiff]
        refine ⟨b1, ?_⟩
        rcases b2 with b2 | ⟨b2, b3, b4⟩
        · exact Or.inl b2
        · have hcg : ∀ k, k < 461 → imG I2 j k = imG I j k := by
            intro k hk
            show I2 159 (461 * j + k) = I 159 (461 * j + k)
            rw [R2]
            simp (disch := omega) only [xu_hit, xu_miss, ite_n, ite_p, if_true, if_false, and_true, true_and, and_false, false_and, and_self, Nat.reduceEqDiff]
          refine Or.inr ⟨b2, RelC_cg hcg b4 (RelC_fr b4 (hRR (35 + 33 * j) (by omega) (by omega) (by omega) (by omega)) b3), Ok_cg hcg b4⟩
    · exact Wd_fr (hRR 1 (by omega) (by omega) (by omega) (by omega)) hW
    · by_cases hn0 : n = 0
      · subst hn0
        exact Wd_fr (fun a z1 z2 => R1 a (by omega) (by omega) (by omega)) a2
      · exact Wd_fr (hRR 35 (by omega) (by omega) (by omega) (by omega)) hW1
    · by_cases hn0 : n = 1
      · subst hn0
        exact Wd_fr (fun a z1 z2 => R1 a (by omega) (by omega) (by omega)) a2
      · exact Wd_fr (hRR 68 (by omega) (by omega) (by omega) (by omega)) hW2
  · simp (disch := first | omega | (simp only [nar_0, nar_1, nar_b, and_self, Nat.reduceLeDiff, Nat.reduceLT, Int32.reduceToInt, KD_0, LN_0, P0_0_0, P0_0_1, P0_0_2, P0_0_3, P0_0_4, P0_0_5, P0_0_6, P0_0_7, KD_1, LN_1, P0_1_0, P0_1_1, P0_1_2, P0_1_3, P0_1_4]; done) | fail) only [mKT_image, eKT_image_0, eKT_image_1, eKT_image_4, eKT_image_7, eKT_image_9, eKT_image_10, eKT_image_11, eKT_image_14, eKT_image_15, eKT_image_16, eKT_image_17, eKT_image_20, eKT_image_23, eKT_image_24, eKT_image_27, eKT_image_28, eKT_image_29, eKT_image_30, eKT_image_31, KD_0, LN_0, P0_0_0, P0_0_1, P0_0_2, P0_0_3, P0_0_4, P0_0_5, P0_0_6, P0_0_7, KD_1, LN_1, P0_1_0, P0_1_1, P0_1_2, P0_1_3, P0_1_4, va_rf_some, xl_0, xl_1, xl_2, xl_3, xl_4, xl_5, xl_6, xl_7, xl_8, xl_458, xl_459, xl_460, and_false, false_and, tl_some, tl_none, xkl_int, xkl_ref, xkl_dm, xkl_long, true_and, and_true, o_cl, xin_o, lt_ti, le_ti, ito_o, t32_64, o_add1, oz, op0, op1, op2, op3, op4, op5, op6, op7, o8m, o3m, o161m, o461m, o48p, o66p, o72p, o136p, Int32.reduceToInt, Int32.reduceToNatClampNeg, i_10, i_01, le_om1, Int64.reduceToInt, ↓reduceIte, ite_n, ite_p, xu_hit, xu_miss, op11, not_true_eq_false, not_false_eq_true, decide_true, decide_false, bIt0, bIf0, and_self, Int.reduceLE, Int.reduceLT, Int32.reduceAdd, Nat.reduceLeDiff, Nat.reduceLT, Nat.reduceAdd, Nat.reduceMul, Nat.reduceEqDiff, Nat.add_zero, Nat.zero_add, s_isImage, hA]
    subst hq
    simp (disch := first | omega | (simp only [nar_0, nar_1, nar_b, and_self, Nat.reduceLeDiff, Nat.reduceLT, Int32.reduceToInt, KD_157, LN_157, P0_157_0, P0_157_1, P0_157_2, P0_157_12, P0_157_16, P0_157_17, P0_157_18, P0_157_19, P0_157_20, P0_157_21, P0_157_22, P0_157_24, P0_157_25, P0_157_29, P0_157_30, P0_157_31, P0_157_32]; done) | fail) only [mM_image, eM_image_0, eM_image_1, eM_image_4, eM_image_7, eM_image_9, eM_image_10, eM_image_11, eM_image_13, eM_image_16, eM_image_19, eM_image_20, eM_image_23, eM_image_26, eM_image_27, eM_image_28, eM_image_29, eM_image_30, eM_image_31, eM_image_34, eM_image_35, eM_image_36, eM_image_37, eM_image_40, eM_image_44, eM_image_47, eM_image_48, eM_image_49, eM_image_50, eM_image_51, KD_157, LN_157, P0_157_0, P0_157_1, P0_157_2, P0_157_12, P0_157_16, P0_157_17, P0_157_18, P0_157_19, P0_157_20, P0_157_21, P0_157_22, P0_157_24, P0_157_25, P0_157_29, P0_157_30, P0_157_31, P0_157_32, va_rf_some, xl_0, xl_1, xl_2, xl_3, xl_4, xl_5, xl_6, xl_7, xl_8, xl_458, xl_459, xl_460, and_false, false_and, tl_some, tl_none, xkl_int, xkl_ref, xkl_dm, xkl_long, true_and, and_true, o_cl, xin_o, lt_ti, le_ti, ito_o, t32_64, o_add1, oz, op0, op1, op2, op3, op4, op5, op6, op7, o8m, o3m, o161m, o461m, o48p, o66p, o72p, o136p, Int32.reduceToInt, Int32.reduceToNatClampNeg, i_10, i_01, le_om1, Int64.reduceToInt, ↓reduceIte, ite_n, ite_p, xu_hit, xu_miss, op11, not_true_eq_false, not_false_eq_true, decide_true, decide_false, bIt0, bIf0, and_self, Int.reduceLE, Int.reduceLT, Int32.reduceAdd, Nat.reduceLeDiff, Nat.reduceLT, Nat.reduceAdd, Nat.reduceMul, Nat.reduceEqDiff, Nat.add_zero, Nat.zero_add, s_misText, hA]
    exact hQ _ _ _ h
theorem p_from {i : Int32} (h : Inv I J) (hQ : ∀ z I' J', Inv I' J' → Q (some (.int z)) (some (.int z)) I' J') : XM E (d + 5) 97 [.ref 0, .int i] I J (fun r I1 J1 => XM E (d + 5) 176 [.ref 157, .int i] I1 J1 (fun r2 I2 J2 => Q r r2 I2 J2)) := by
  obtain ⟨hR, hG, hJ, hi, hW, hW1, hW2⟩ := id h
  generalize hq : (fun r I1 J1 => XM E (d + 5) 176 [.ref 157, .int i] I1 J1 (fun r2 I2 J2 => Q r r2 I2 J2)) = Qc
  by_cases hA : 0 ≤ i.toInt ∧ i.toInt ≤ 1
  · obtain ⟨n, rfl, hn, hn2⟩ := of_ti (b := 2) hA.1 (by have := hA.2; omega)
    rw [ito_o _ hn2] at hA
    obtain ⟨k1, k2⟩ := LK_I hn
    obtain ⟨b1, b2⟩ := hi n hn
    rcases b2 with b2 | ⟨b2, b3, b4⟩
    · rw [b2] at b1
      simp (disch := first | omega | (simp only [nar_0, nar_1, nar_b, and_self, Nat.reduceLeDiff, Nat.reduceLT, Int32.reduceToInt, KD_0, LN_0, P0_0_0, P0_0_1, P0_0_2, P0_0_3, P0_0_4, P0_0_5, P0_0_6, P0_0_7, KD_1, LN_1, P0_1_0, P0_1_1, P0_1_2, P0_1_3, P0_1_4, KD_34, LN_34, P0_34_0, P0_34_1, KD_101, LN_101]; done) | fail) only [mKT_from, eKT_from_0, eKT_from_1, eKT_from_4, eKT_from_7, eKT_from_9, eKT_from_10, eKT_from_11, eKT_from_14, eKT_from_15, eKT_from_16, eKT_from_19, eKT_from_21, eKT_from_22, eKT_from_23, eKT_from_26, eKT_from_27, eKT_from_30, eKT_from_31, eKT_from_32, eKT_from_35, eKT_from_36, KD_0, LN_0, P0_0_0, P0_0_1, P0_0_2, P0_0_3, P0_0_4, P0_0_5, P0_0_6, P0_0_7, KD_1, LN_1, P0_1_0, P0_1_1, P0_1_2, P0_1_3, P0_1_4, KD_34, LN_34, P0_34_0, P0_34_1, KD_101, LN_101, va_rf_some, xl_0, xl_1, xl_2, xl_3, xl_4, xl_5, xl_6, xl_7, xl_8, xl_458, xl_459, xl_460, and_false, false_and, tl_some, tl_none, xkl_int, xkl_ref, xkl_dm, xkl_long, true_and, and_true, o_cl, xin_o, lt_ti, le_ti, ito_o, t32_64, o_add1, oz, op0, op1, op2, op3, op4, op5, op6, op7, o8m, o3m, o161m, o461m, o48p, o66p, o72p, o136p, Int32.reduceToInt, Int32.reduceToNatClampNeg, i_10, i_01, le_om1, Int64.reduceToInt, ↓reduceIte, ite_n, ite_p, xu_hit, xu_miss, op11, not_true_eq_false, not_false_eq_true, decide_true, decide_false, bIt0, bIf0, and_self, Int.reduceLE, Int.reduceLT, Int32.reduceAdd, Nat.reduceLeDiff, Nat.reduceLT, Nat.reduceAdd, Nat.reduceMul, Nat.reduceEqDiff, Nat.add_zero, Nat.zero_add, s_isImage, hA, hn, b1]
      subst hq
      simp (disch := first | omega | (simp only [nar_0, nar_1, nar_b, and_self, Nat.reduceLeDiff, Nat.reduceLT, Int32.reduceToInt, KD_157, LN_157, P0_157_0, P0_157_1, P0_157_2, P0_157_12, P0_157_16, P0_157_17, P0_157_18, P0_157_19, P0_157_20, P0_157_21, P0_157_22, P0_157_24, P0_157_25, P0_157_29, P0_157_30, P0_157_31, P0_157_32, KD_160, LN_160]; done) | fail) only [mM_from, eM_from_0, eM_from_1, eM_from_4, eM_from_7, eM_from_9, eM_from_10, eM_from_11, eM_from_14, eM_from_15, eM_from_16, eM_from_19, eM_from_21, eM_from_22, eM_from_23, eM_from_25, eM_from_28, eM_from_31, eM_from_32, eM_from_35, eM_from_36, eM_from_37, eM_from_40, eM_from_43, eM_from_44, eM_from_45, eM_from_46, eM_from_47, eM_from_48, eM_from_49, eM_from_52, eM_from_56, KD_157, LN_157, P0_157_0, P0_157_1, P0_157_2, P0_157_12, P0_157_16, P0_157_17, P0_157_18, P0_157_19, P0_157_20, P0_157_21, P0_157_22, P0_157_24, P0_157_25, P0_157_29, P0_157_30, P0_157_31, P0_157_32, KD_160, LN_160, va_rf_some, xl_0, xl_1, xl_2, xl_3, xl_4, xl_5, xl_6, xl_7, xl_8, xl_458, xl_459, xl_460, and_false, false_and, tl_some, tl_none, xkl_int, xkl_ref, xkl_dm, xkl_long, true_and, and_true, o_cl, xin_o, lt_ti, le_ti, ito_o, t32_64, o_add1, oz, op0, op1, op2, op3, op4, op5, op6, op7, o8m, o3m, o161m, o461m, o48p, o66p, o72p, o136p, Int32.reduceToInt, Int32.reduceToNatClampNeg, i_10, i_01, le_om1, Int64.reduceToInt, ↓reduceIte, ite_n, ite_p, xu_hit, xu_miss, op11, not_true_eq_false, not_false_eq_true, decide_true, decide_false, bIt0, bIf0, and_self, Int.reduceLE, Int.reduceLT, Int32.reduceAdd, Nat.reduceLeDiff, Nat.reduceLT, Nat.reduceAdd, Nat.reduceMul, Nat.reduceEqDiff, Nat.add_zero, Nat.zero_add, s_misText, hA, hn, b2]
      exact hQ _ _ _ h
    · rw [b2] at b1
      simp (disch := first | omega | (simp only [nar_0, nar_1, nar_b, and_self, Nat.reduceLeDiff, Nat.reduceLT, Int32.reduceToInt, KD_0, LN_0, P0_0_0, P0_0_1, P0_0_2, P0_0_3, P0_0_4, P0_0_5, P0_0_6, P0_0_7, KD_1, LN_1, P0_1_0, P0_1_1, P0_1_2, P0_1_3, P0_1_4, KD_34, LN_34, P0_34_0, P0_34_1, KD_101, LN_101]; done) | fail) only [mKT_from, eKT_from_0, eKT_from_1, eKT_from_4, eKT_from_7, eKT_from_9, eKT_from_10, eKT_from_11, eKT_from_14, eKT_from_15, eKT_from_16, eKT_from_19, eKT_from_21, eKT_from_22, eKT_from_23, eKT_from_26, eKT_from_27, eKT_from_30, eKT_from_31, eKT_from_32, eKT_from_35, eKT_from_36, KD_0, LN_0, P0_0_0, P0_0_1, P0_0_2, P0_0_3, P0_0_4, P0_0_5, P0_0_6, P0_0_7, KD_1, LN_1, P0_1_0, P0_1_1, P0_1_2, P0_1_3, P0_1_4, KD_34, LN_34, P0_34_0, P0_34_1, KD_101, LN_101, va_rf_some, xl_0, xl_1, xl_2, xl_3, xl_4, xl_5, xl_6, xl_7, xl_8, xl_458, xl_459, xl_460, and_false, false_and, tl_some, tl_none, xkl_int, xkl_ref, xkl_dm, xkl_long, true_and, and_true, o_cl, xin_o, lt_ti, le_ti, ito_o, t32_64, o_add1, oz, op0, op1, op2, op3, op4, op5, op6, op7, o8m, o3m, o161m, o461m, o48p, o66p, o72p, o136p, Int32.reduceToInt, Int32.reduceToNatClampNeg, i_10, i_01, le_om1, Int64.reduceToInt, ↓reduceIte, ite_n, ite_p, xu_hit, xu_miss, op11, not_true_eq_false, not_false_eq_true, decide_true, decide_false, bIt0, bIf0, and_self, Int.reduceLE, Int.reduceLT, Int32.reduceAdd, Nat.reduceLeDiff, Nat.reduceLT, Nat.reduceAdd, Nat.reduceMul, Nat.reduceEqDiff, Nat.add_zero, Nat.zero_add, s_isImage, hA, hn, b1, k1]
      refine c_rcopy RV_1 k2 (by omega) b4 b3 hW (fun I1 a1 a2 a3 => ?_)
      simp (disch := first | omega | (simp only [nar_0, nar_1, nar_b, and_self, Nat.reduceLeDiff, Nat.reduceLT, Int32.reduceToInt]; done) | fail) only [mKT_from, eKT_from_0, eKT_from_1, eKT_from_4, eKT_from_7, eKT_from_9, eKT_from_10, eKT_from_11, eKT_from_14, eKT_from_15, eKT_from_16, eKT_from_19, eKT_from_21, eKT_from_22, eKT_from_23, eKT_from_26, eKT_from_27, eKT_from_30, eKT_from_31, eKT_from_32, eKT_from_35, eKT_from_36, va_rf_some, xl_0, xl_1, xl_2, xl_3, xl_4, xl_5, xl_6, xl_7, xl_8, xl_458, xl_459, xl_460, and_false, false_and, tl_some, tl_none, xkl_int, xkl_ref, xkl_dm, xkl_long, true_and, and_true, o_cl, xin_o, lt_ti, le_ti, ito_o, t32_64, o_add1, oz, op0, op1, op2, op3, op4, op5, op6, op7, o8m, o3m, o161m, o461m, o48p, o66p, o72p, o136p, Int32.reduceToInt, Int32.reduceToNatClampNeg, i_10, i_01, le_om1, Int64.reduceToInt, ↓reduceIte, ite_n, ite_p, xu_hit, xu_miss, op11, not_true_eq_false, not_false_eq_true, decide_true, decide_false, bIt0, bIf0, and_self, Int.reduceLE, Int.reduceLT, Int32.reduceAdd, Nat.reduceLeDiff, Nat.reduceLT, Nat.reduceAdd, Nat.reduceMul, Nat.reduceEqDiff, Nat.add_zero, Nat.zero_add]
      subst hq
      have hlp := fun E d J Q => from_loop (E := E) (d := d) (J := J) (Q := Q) hn 461 0 I1 (by omega)
      simp only [show o 0 = 0 from rfl, Nat.zero_le, true_and] at hlp
      have b2' : I1 160 n = 1 := by rw [a3 _ (by omega)]; exact b2
      simp (disch := first | omega | (simp only [nar_0, nar_1, nar_b, and_self, Nat.reduceLeDiff, Nat.reduceLT, Int32.reduceToInt, KD_157, LN_157, P0_157_0, P0_157_1, P0_157_2, P0_157_12, P0_157_16, P0_157_17, P0_157_18, P0_157_19, P0_157_20, P0_157_21, P0_157_22, P0_157_24, P0_157_25, P0_157_29, P0_157_30, P0_157_31, P0_157_32, KD_160, LN_160]; done) | fail) only [mM_from, eM_from_0, eM_from_1, eM_from_4, eM_from_7, eM_from_9, eM_from_10, eM_from_11, eM_from_14, eM_from_15, eM_from_16, eM_from_19, eM_from_21, eM_from_22, eM_from_23, eM_from_25, eM_from_28, eM_from_31, eM_from_32, eM_from_35, eM_from_36, eM_from_37, eM_from_40, eM_from_43, eM_from_44, eM_from_45, eM_from_46, eM_from_47, eM_from_48, eM_from_49, eM_from_52, eM_from_56, KD_157, LN_157, P0_157_0, P0_157_1, P0_157_2, P0_157_12, P0_157_16, P0_157_17, P0_157_18, P0_157_19, P0_157_20, P0_157_21, P0_157_22, P0_157_24, P0_157_25, P0_157_29, P0_157_30, P0_157_31, P0_157_32, KD_160, LN_160, va_rf_some, xl_0, xl_1, xl_2, xl_3, xl_4, xl_5, xl_6, xl_7, xl_8, xl_458, xl_459, xl_460, and_false, false_and, tl_some, tl_none, xkl_int, xkl_ref, xkl_dm, xkl_long, true_and, and_true, o_cl, xin_o, lt_ti, le_ti, ito_o, t32_64, o_add1, oz, op0, op1, op2, op3, op4, op5, op6, op7, o8m, o3m, o161m, o461m, o48p, o66p, o72p, o136p, Int32.reduceToInt, Int32.reduceToNatClampNeg, i_10, i_01, le_om1, Int64.reduceToInt, ↓reduceIte, ite_n, ite_p, xu_hit, xu_miss, op11, not_true_eq_false, not_false_eq_true, decide_true, decide_false, bIt0, bIf0, and_self, Int.reduceLE, Int.reduceLT, Int32.reduceAdd, Nat.reduceLeDiff, Nat.reduceLT, Nat.reduceAdd, Nat.reduceMul, Nat.reduceEqDiff, Nat.add_zero, Nat.zero_add, s_misText, hA, hn, b2']
      rw [hlp]
      simp (disch := first | omega | (simp only [nar_0, nar_1, nar_b, and_self, Nat.reduceLeDiff, Nat.reduceLT, Int32.reduceToInt]; done) | fail) only [mM_from, eM_from_0, eM_from_1, eM_from_4, eM_from_7, eM_from_9, eM_from_10, eM_from_11, eM_from_14, eM_from_15, eM_from_16, eM_from_19, eM_from_21, eM_from_22, eM_from_23, eM_from_25, eM_from_28, eM_from_31, eM_from_32, eM_from_35, eM_from_36, eM_from_37, eM_from_40, eM_from_43, eM_from_44, eM_from_45, eM_from_46, eM_from_47, eM_from_48, eM_from_49, eM_from_52, eM_from_55, eM_from_56, va_rf_some, xl_0, xl_1, xl_2, xl_3, xl_4, xl_5, xl_6, xl_7, xl_8, xl_458, xl_459, xl_460, and_false, false_and, tl_some, tl_none, xkl_int, xkl_ref, xkl_dm, xkl_long, true_and, and_true, o_cl, xin_o, lt_ti, le_ti, ito_o, t32_64, o_add1, oz, op0, op1, op2, op3, op4, op5, op6, op7, o8m, o3m, o161m, o461m, o48p, o66p, o72p, o136p, Int32.reduceToInt, Int32.reduceToNatClampNeg, i_10, i_01, le_om1, Int64.reduceToInt, ↓reduceIte, ite_n, ite_p, xu_hit, xu_miss, op11, not_true_eq_false, not_false_eq_true, decide_true, decide_false, bIt0, bIf0, and_self, Int.reduceLE, Int.reduceLT, Int32.reduceAdd, Nat.reduceLeDiff, Nat.reduceLT, Nat.reduceAdd, Nat.reduceMul, Nat.reduceEqDiff, Nat.add_zero, Nat.zero_add]
      generalize hI2 : (fun b k => if b = 158 ∧ k < 461 then I1 159 (461 * n + k) else I1 b k) = I2
      have R1 : ∀ a, ¬ a = 158 → I2 a = I1 a := by
        intro a z1; rw [← hI2]; funext k; simp (disch := omega) only [xu_hit, xu_miss, ite_n, ite_p, if_true, if_false, and_true, true_and, and_false, false_and, and_self, Nat.reduceEqDiff]
      have hcg : ∀ k, k < 461 → I2 158 k = imG I n k := by
        intro k hk
        rw [← hI2]
        simp (disch := omega) only [xu_hit, xu_miss, ite_n, ite_p, if_true, if_false, and_true, true_and, and_false, false_and, and_self, Nat.reduceEqDiff]
        rw [a3 _ (by omega)]
        rfl
      refine hQ _ _ _ (inv_mut h ?_ ?_ ?_ ?_ hJ)
      · exact RelC_cg hcg b4 (RelC_fr b4 (fun a z1 z2 => R1 a (by omega)) a1)
      · exact Ok_cg hcg b4
      · exact Wd_fr (fun a z1 z2 => R1 a (by omega)) a2
      · intro a ha
        rw [R1 _ (by omega), a3 _ (by omega)]
  · simp (disch := first | omega | (simp only [nar_0, nar_1, nar_b, and_self, Nat.reduceLeDiff, Nat.reduceLT, Int32.reduceToInt, KD_0, LN_0, P0_0_0, P0_0_1, P0_0_2, P0_0_3, P0_0_4, P0_0_5, P0_0_6, P0_0_7, KD_1, LN_1, P0_1_0, P0_1_1, P0_1_2, P0_1_3, P0_1_4]; done) | fail) only [mKT_from, eKT_from_0, eKT_from_1, eKT_from_4, eKT_from_7, eKT_from_9, eKT_from_10, eKT_from_11, eKT_from_14, eKT_from_15, eKT_from_16, eKT_from_19, eKT_from_21, eKT_from_22, eKT_from_23, eKT_from_26, eKT_from_27, eKT_from_30, eKT_from_31, eKT_from_32, eKT_from_35, eKT_from_36, KD_0, LN_0, P0_0_0, P0_0_1, P0_0_2, P0_0_3, P0_0_4, P0_0_5, P0_0_6, P0_0_7, KD_1, LN_1, P0_1_0, P0_1_1, P0_1_2, P0_1_3, P0_1_4, va_rf_some, xl_0, xl_1, xl_2, xl_3, xl_4, xl_5, xl_6, xl_7, xl_8, xl_458, xl_459, xl_460, and_false, false_and, tl_some, tl_none, xkl_int, xkl_ref, xkl_dm, xkl_long, true_and, and_true, o_cl, xin_o, lt_ti, le_ti, ito_o, t32_64, o_add1, oz, op0, op1, op2, op3, op4, op5, op6, op7, o8m, o3m, o161m, o461m, o48p, o66p, o72p, o136p, Int32.reduceToInt, Int32.reduceToNatClampNeg, i_10, i_01, le_om1, Int64.reduceToInt, ↓reduceIte, ite_n, ite_p, xu_hit, xu_miss, op11, not_true_eq_false, not_false_eq_true, decide_true, decide_false, bIt0, bIf0, and_self, Int.reduceLE, Int.reduceLT, Int32.reduceAdd, Nat.reduceLeDiff, Nat.reduceLT, Nat.reduceAdd, Nat.reduceMul, Nat.reduceEqDiff, Nat.add_zero, Nat.zero_add, s_isImage, hA]
    subst hq
    simp (disch := first | omega | (simp only [nar_0, nar_1, nar_b, and_self, Nat.reduceLeDiff, Nat.reduceLT, Int32.reduceToInt, KD_157, LN_157, P0_157_0, P0_157_1, P0_157_2, P0_157_12, P0_157_16, P0_157_17, P0_157_18, P0_157_19, P0_157_20, P0_157_21, P0_157_22, P0_157_24, P0_157_25, P0_157_29, P0_157_30, P0_157_31, P0_157_32]; done) | fail) only [mM_from, eM_from_0, eM_from_1, eM_from_4, eM_from_7, eM_from_9, eM_from_10, eM_from_11, eM_from_14, eM_from_15, eM_from_16, eM_from_19, eM_from_21, eM_from_22, eM_from_23, eM_from_25, eM_from_28, eM_from_31, eM_from_32, eM_from_35, eM_from_36, eM_from_37, eM_from_40, eM_from_43, eM_from_44, eM_from_45, eM_from_46, eM_from_47, eM_from_48, eM_from_49, eM_from_52, eM_from_56, KD_157, LN_157, P0_157_0, P0_157_1, P0_157_2, P0_157_12, P0_157_16, P0_157_17, P0_157_18, P0_157_19, P0_157_20, P0_157_21, P0_157_22, P0_157_24, P0_157_25, P0_157_29, P0_157_30, P0_157_31, P0_157_32, va_rf_some, xl_0, xl_1, xl_2, xl_3, xl_4, xl_5, xl_6, xl_7, xl_8, xl_458, xl_459, xl_460, and_false, false_and, tl_some, tl_none, xkl_int, xkl_ref, xkl_dm, xkl_long, true_and, and_true, o_cl, xin_o, lt_ti, le_ti, ito_o, t32_64, o_add1, oz, op0, op1, op2, op3, op4, op5, op6, op7, o8m, o3m, o161m, o461m, o48p, o66p, o72p, o136p, Int32.reduceToInt, Int32.reduceToNatClampNeg, i_10, i_01, le_om1, Int64.reduceToInt, ↓reduceIte, ite_n, ite_p, xu_hit, xu_miss, op11, not_true_eq_false, not_false_eq_true, decide_true, decide_false, bIt0, bIf0, and_self, Int.reduceLE, Int.reduceLT, Int32.reduceAdd, Nat.reduceLeDiff, Nat.reduceLT, Nat.reduceAdd, Nat.reduceMul, Nat.reduceEqDiff, Nat.add_zero, Nat.zero_add, s_misText, hA]
    exact hQ _ _ _ h
end
