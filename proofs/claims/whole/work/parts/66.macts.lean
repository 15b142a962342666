/-! THE MODEL'S ACTS -/
theorem wt_xu {G : Gv} {S : Sv} {j : Nat} {v : Int32} : ∀ n : Nat, wtF G (xuI S 1 j v) n = if j < n then wtF G S n + (v - S 1 j) * G (48 + 3 * j) else wtF G S n
  | 0 => rfl
  | n + 1 => by
    unfold wtF
    rw [wt_xu n]
    by_cases h1 : j < n
    · rw [if_pos h1, if_pos (by omega), xu_06 (by omega)]
      grind
    · rw [if_neg h1]
      by_cases h2 : j = n
      · subst h2
        rw [if_pos (by omega), xu_self]
        grind
      · rw [if_neg (by omega), xu_06 (by omega)]
theorem do_loads {G : Gv} {k : Nat} {S : Sv} (j : Nat) : doF G k S 1 j = xuI (xuI S 1 (G (72 + 8 * k + 1)).toNatClampNeg (S 1 (G (72 + 8 * k + 1)).toNatClampNeg - (G (72 + 8 * k + 2) + S 3 k))) 1 (G (72 + 8 * k + 3)).toNatClampNeg ((xuI S 1 (G (72 + 8 * k + 1)).toNatClampNeg (S 1 (G (72 + 8 * k + 1)).toNatClampNeg - (G (72 + 8 * k + 2) + S 3 k))) 1 (G (72 + 8 * k + 3)).toNatClampNeg + G (72 + 8 * k + 4)) 1 j := by
  unfold doF
  try simp only []
  split
  · rw [xu_06 (by omega)]
  · split
    · rw [xu_06 (by omega), xu_06 (by omega), xu_06 (by omega), xu_06 (by omega)]
    · rw [xu_06 (by omega), xu_06 (by omega)]
theorem wt_do {G : Gv} {k : Nat} {S : Sv} (hk : k < gc G) (hG : OkS G) : wtF G (doF G k S) (gt G) = wtF G S (gt G) + moreF G k S := by
  obtain ⟨x6, y6, g6, k8, hxy⟩ := ch_ix hk hG
  rw [wtF_cg (gt G) (fun j _ => do_loads j), wt_xu, if_pos y6, wt_xu, if_pos x6, xu_06 (by omega)]
  unfold moreF
  generalize wtF G S (gt G) = W
  generalize S 1 (G (72 + 8 * k + 1)).toNatClampNeg = lx
  generalize S 1 (G (72 + 8 * k + 3)).toNatClampNeg = ly
  generalize G (48 + 3 * (G (72 + 8 * k + 1)).toNatClampNeg) = wx
  generalize G (48 + 3 * (G (72 + 8 * k + 3)).toNatClampNeg) = wy
  generalize G (72 + 8 * k + 2) + S 3 k = p
  generalize G (72 + 8 * k + 4) = q
  grind
theorem wt_bd {b : Nat} {G : Gv} {S : Sv} (h : Bs b S) (hb : b < 1000000) (hG : OkS G) : ∀ n : Nat, n ≤ gt G → 0 ≤ (wtF G S n).toInt ∧ (wtF G S n).toInt ≤ n * (b * 20)
  | 0, _ => by
    show 0 ≤ (0 : Int32).toInt ∧ (0 : Int32).toInt ≤ ((0 : Nat) : Int) * (b * 20)
    rw [ti_0]
    omega
  | n + 1, hn => by
    obtain ⟨⟨e1, g1⟩, ⟨e2, g2⟩, ⟨e3, g3⟩, e4, oL, oT, oN, oC⟩ := id hG
    obtain ⟨i1, i2⟩ := wt_bd h hb hG n (by omega)
    have h1 := h.1 n (by omega)
    have h2 := (oT n (by omega)).1
    unfold bw at h2
    have p1 : (S 1 n).toInt * (G (48 + 3 * n)).toInt ≤ (b : Int) * 20 := Int.mul_le_mul h1.2 h2.2 (by omega) (by omega)
    have p0 : 0 ≤ (S 1 n).toInt * (G (48 + 3 * n)).toInt := Int.mul_nonneg h1.1 (by omega)
    have em : (S 1 n * G (48 + 3 * n)).toInt = (S 1 n).toInt * (G (48 + 3 * n)).toInt := ti_mul (by omega)
    have q1 : (n : Int) * (b * 20) ≤ 6 * (b * 20) := Int.mul_le_mul_of_nonneg_right (by omega) (by omega)
    have q2 : ((n + 1 : Nat) : Int) * (b * 20) = (n : Int) * (b * 20) + b * 20 := by
      rw [Int.natCast_succ, Int.add_mul, Int.one_mul]
    unfold wtF
    rw [ti_add (by rw [em]; omega), em, q2]
    omega
theorem more_ok {b k : Nat} {G : Gv} {S : Sv} (hk : k < gc G) (h : Bs b S) (hb : b < 100000) (hG : OkS G) : ((wtF G S (gt G) - (G (72 + 8 * k + 2) + S 3 k) * G (48 + 3 * (G (72 + 8 * k + 1)).toNatClampNeg) + G (72 + 8 * k + 4) * G (48 + 3 * (G (72 + 8 * k + 3)).toNatClampNeg)).toInt ≤ (G 66).toInt) = ((moreF G k S).toInt ≤ (G 66 - wtF G S (gt G)).toInt) := by
  obtain ⟨x6, y6, g6, k8, hxy⟩ := ch_ix hk hG
  obtain ⟨w1, w2⟩ := wt_bd h (by omega) hG (gt G) (Nat.le_refl _)
  obtain ⟨⟨e1, g1⟩, ⟨e2, g2⟩, ⟨e3, g3⟩, e4, oL, oT, oN, oC⟩ := id hG
  obtain ⟨a1, a2, a3, a4, a5, a6, a7⟩ := oC k hk
  have tx := (oT _ x6).1
  have ty := (oT _ y6).1
  have o1 := oN.1
  unfold bw at a3 a5 tx ty o1
  have hm := h.2.1 k k8
  have w3 : (gt G : Int) * (b * 20) ≤ 6 * (b * 20) := Int.mul_le_mul_of_nonneg_right (by omega) (by omega)
  have eA : (G (72 + 8 * k + 2) + S 3 k).toInt = (G (72 + 8 * k + 2)).toInt + (S 3 k).toInt := ti_add (by omega)
  unfold moreF
  generalize (G (72 + 8 * k + 1)).toNatClampNeg = x at *
  generalize (G (72 + 8 * k + 3)).toNatClampNeg = y at *
  have p1 : (G (72 + 8 * k + 2) + S 3 k).toInt * (G (48 + 3 * x)).toInt ≤ (20 + b : Int) * 20 := Int.mul_le_mul (by omega) tx.2 (by omega) (by omega)
  have p0 : 0 ≤ (G (72 + 8 * k + 2) + S 3 k).toInt * (G (48 + 3 * x)).toInt := Int.mul_nonneg (by omega) (by omega)
  have r1 : (G (72 + 8 * k + 4)).toInt * (G (48 + 3 * y)).toInt ≤ 20 * 20 := Int.mul_le_mul a5.2 ty.2 (by omega) (by omega)
  have r0 : 0 ≤ (G (72 + 8 * k + 4)).toInt * (G (48 + 3 * y)).toInt := Int.mul_nonneg (by omega) (by omega)
  have em1 : ((G (72 + 8 * k + 2) + S 3 k) * G (48 + 3 * x)).toInt = (G (72 + 8 * k + 2) + S 3 k).toInt * (G (48 + 3 * x)).toInt := ti_mul (by omega)
  have em2 : (G (72 + 8 * k + 4) * G (48 + 3 * y)).toInt = (G (72 + 8 * k + 4)).toInt * (G (48 + 3 * y)).toInt := ti_mul (by omega)
  have s1 : (wtF G S (gt G) - (G (72 + 8 * k + 2) + S 3 k) * G (48 + 3 * x)).toInt = (wtF G S (gt G)).toInt - (G (72 + 8 * k + 2) + S 3 k).toInt * (G (48 + 3 * x)).toInt := by rw [ti_sub (by rw [em1]; omega), em1]
  have s2 : (wtF G S (gt G) - (G (72 + 8 * k + 2) + S 3 k) * G (48 + 3 * x) + G (72 + 8 * k + 4) * G (48 + 3 * y)).toInt = (wtF G S (gt G)).toInt - (G (72 + 8 * k + 2) + S 3 k).toInt * (G (48 + 3 * x)).toInt + (G (72 + 8 * k + 4)).toInt * (G (48 + 3 * y)).toInt := by rw [ti_add (by rw [s1, em2]; omega), s1, em2]
  have s3 : (G (72 + 8 * k + 4) * G (48 + 3 * y) - (G (72 + 8 * k + 2) + S 3 k) * G (48 + 3 * x)).toInt = (G (72 + 8 * k + 4)).toInt * (G (48 + 3 * y)).toInt - (G (72 + 8 * k + 2) + S 3 k).toInt * (G (48 + 3 * x)).toInt := by rw [ti_sub (by rw [em1, em2]; omega), em1, em2]
  have s4 : (G 66 - wtF G S (gt G)).toInt = (G 66).toInt - (wtF G S (gt G)).toInt := ti_sub (by omega)
  rw [s2, s3, s4]
  exact propext (by omega)
theorem do_times {G : Gv} {k : Nat} {S : Sv} (hk : k < gc G) (h : 0 ≤ (S 5 k).toInt ∧ (S 5 k).toInt ≤ 99) (hG : OkS G) : (doF G k S 5 k).toInt = (S 5 k).toInt + 1 := by
  have e : doF G k S 5 k = S 5 k + 1 := by
    unfold doF
    try simp only []
    split
    · rw [xu_self, xu_06 (by omega), xu_06 (by omega)]
    · split
      · rw [xu_06 (by omega), xu_06 (by omega), xu_06 (by omega), xu_self, xu_06 (by omega), xu_06 (by omega)]
      · rw [xu_06 (by omega), xu_self, xu_06 (by omega), xu_06 (by omega)]
  rw [e, ti_add (by rw [ti_1]; omega), ti_1]
section
variable {E : XE} {d : Nat} {I : Iv} {J : Jv} {Q : XQt} {G : Gv}
theorem mdid_stop {k j b : Nat} {S T : Sv} {w : Value} (hj9 : j < 1000) (hk : k < 1000) (hG : OkS G) (hs : Sim b G S T) (hc : canF G k S = false) (hQ : Q (some (.int (bI (decide (0 < j))))) (wr 157 T I) J) : X E (d + 2 + 1) 160 4 [.ref 157, .int (o k), .int (o j), .int 1, w] [] (wr 157 T I) J Q := by
  have hca := fun E d Q => m_canDo (E := E) (d := d) (I := I) (J := J) (Q := Q) hk hs hG
  rw [eM_didSome_4]
  by_cases hj : 0 < j
  · have z : ¬ (j : Int) ≤ 0 := by omega
    have z2 : decide (0 < j) = true := by rw [decide_eq_true_eq]; exact hj
    rw [z2] at hQ
    simp (disch := first | omega | (simp only [nar_0, nar_1, nar_b, and_self, Nat.reduceLeDiff, Nat.reduceLT, Int32.reduceToInt, KD_157, LN_157, P0_157_0, P0_157_1, P0_157_2, P0_157_12, P0_157_16, P0_157_17, P0_157_18, P0_157_19, P0_157_20, P0_157_21, P0_157_22, P0_157_24, P0_157_25, P0_157_29, P0_157_30, P0_157_31, P0_157_32]; done) | fail) only [mM_didSome, eM_didSome_0, eM_didSome_1, eM_didSome_2, eM_didSome_3, eM_didSome_5, eM_didSome_8, eM_didSome_9, eM_didSome_10, eM_didSome_13, eM_didSome_14, eM_didSome_15, eM_didSome_18, eM_didSome_19, eM_didSome_22, eM_didSome_23, eM_didSome_24, eM_didSome_25, eM_didSome_28, eM_didSome_29, eM_didSome_32, eM_didSome_33, eM_didSome_34, eM_didSome_35, eM_didSome_36, eM_didSome_37, eM_didSome_38, eM_didSome_39, eM_didSome_42, eM_didSome_43, eM_didSome_46, eM_didSome_47, eM_didSome_48, eM_didSome_49, eM_didSome_50, eM_didSome_51, eM_didSome_54, eM_didSome_55, eM_didSome_56, eM_didSome_57, eM_didSome_58, eM_didSome_61, eM_didSome_62, eM_didSome_65, eM_didSome_66, eM_didSome_67, eM_didSome_69, eM_didSome_71, eM_didSome_72, eM_didSome_73, eM_didSome_76, eM_didSome_79, eM_didSome_80, eM_didSome_83, eM_didSome_84, eM_didSome_85, eM_didSome_86, eM_didSome_89, eM_didSome_90, eM_didSome_91, eM_didSome_94, eM_didSome_97, eM_didSome_100, eM_didSome_101, eM_didSome_104, eM_didSome_105, eM_didSome_108, eM_didSome_109, KD_157, LN_157, P0_157_0, P0_157_1, P0_157_2, P0_157_12, P0_157_16, P0_157_17, P0_157_18, P0_157_19, P0_157_20, P0_157_21, P0_157_22, P0_157_24, P0_157_25, P0_157_29, P0_157_30, P0_157_31, P0_157_32, va_rf_some, xl_0, xl_1, xl_2, xl_3, xl_4, xl_5, xl_6, xl_7, xl_8, xl_458, xl_459, xl_460, and_false, false_and, tl_some, tl_none, xkl_int, xkl_ref, xkl_dm, xkl_long, true_and, and_true, o_cl, xin_o, lt_ti, le_ti, ito_o, t32_64, o_add1, oz, op0, op1, op2, op3, op4, op5, op6, op7, o8m, o3m, o161m, o461m, o48p, o66p, o72p, o136p, Int32.reduceToInt, Int32.reduceToNatClampNeg, i_10, i_01, le_om1, Int64.reduceToInt, ↓reduceIte, ite_n, ite_p, xu_hit, xu_miss, op11, not_true_eq_false, not_false_eq_true, decide_true, decide_false, bIt0, bIf0, and_self, Int.reduceLE, Int.reduceLT, Int32.reduceAdd, Nat.reduceLeDiff, Nat.reduceLT, Nat.reduceAdd, Nat.reduceMul, Nat.reduceEqDiff, Nat.add_zero, Nat.zero_add, wr_0, xu_wr0, am_1, xm_1, am_2, xm_2, am_3, xm_3, am_4, xm_4, am_5, xm_5, am_6, xm_6, am_7, xm_7, am_8, xm_8, am_9, xm_9, am_10, xm_10, am_11, xm_11, am_12, xm_12, am_13, xm_13, am_14, xm_14, am_15, xm_15, am_16, xm_16, am_17, xm_17, hca, hc]
    rw [eM_didSome_4]
    simp (disch := first | omega | (simp only [nar_0, nar_1, nar_b, and_self, Nat.reduceLeDiff, Nat.reduceLT, Int32.reduceToInt]; done) | fail) only [mM_didSome, eM_didSome_0, eM_didSome_1, eM_didSome_2, eM_didSome_3, eM_didSome_5, eM_didSome_8, eM_didSome_9, eM_didSome_10, eM_didSome_13, eM_didSome_14, eM_didSome_15, eM_didSome_18, eM_didSome_19, eM_didSome_22, eM_didSome_23, eM_didSome_24, eM_didSome_25, eM_didSome_28, eM_didSome_29, eM_didSome_32, eM_didSome_33, eM_didSome_34, eM_didSome_35, eM_didSome_36, eM_didSome_37, eM_didSome_38, eM_didSome_39, eM_didSome_42, eM_didSome_43, eM_didSome_46, eM_didSome_47, eM_didSome_48, eM_didSome_49, eM_didSome_50, eM_didSome_51, eM_didSome_54, eM_didSome_55, eM_didSome_56, eM_didSome_57, eM_didSome_58, eM_didSome_61, eM_didSome_62, eM_didSome_65, eM_didSome_66, eM_didSome_67, eM_didSome_69, eM_didSome_71, eM_didSome_72, eM_didSome_73, eM_didSome_76, eM_didSome_79, eM_didSome_80, eM_didSome_83, eM_didSome_84, eM_didSome_85, eM_didSome_86, eM_didSome_89, eM_didSome_90, eM_didSome_91, eM_didSome_94, eM_didSome_97, eM_didSome_100, eM_didSome_101, eM_didSome_104, eM_didSome_105, eM_didSome_108, eM_didSome_109, va_rf_some, xl_0, xl_1, xl_2, xl_3, xl_4, xl_5, xl_6, xl_7, xl_8, xl_458, xl_459, xl_460, and_false, false_and, tl_some, tl_none, xkl_int, xkl_ref, xkl_dm, xkl_long, true_and, and_true, o_cl, xin_o, lt_ti, le_ti, ito_o, t32_64, o_add1, oz, op0, op1, op2, op3, op4, op5, op6, op7, o8m, o3m, o161m, o461m, o48p, o66p, o72p, o136p, Int32.reduceToInt, Int32.reduceToNatClampNeg, i_10, i_01, le_om1, Int64.reduceToInt, ↓reduceIte, ite_n, ite_p, xu_hit, xu_miss, op11, not_true_eq_false, not_false_eq_true, decide_true, decide_false, bIt0, bIf0, and_self, Int.reduceLE, Int.reduceLT, Int32.reduceAdd, Nat.reduceLeDiff, Nat.reduceLT, Nat.reduceAdd, Nat.reduceMul, Nat.reduceEqDiff, Nat.add_zero, Nat.zero_add, z]
    exact hQ
  · have z : (j : Int) ≤ 0 := by omega
    have z2 : decide (0 < j) = false := by rw [decide_eq_false_iff_not]; exact hj
    rw [z2] at hQ
    simp (disch := first | omega | (simp only [nar_0, nar_1, nar_b, and_self, Nat.reduceLeDiff, Nat.reduceLT, Int32.reduceToInt, KD_157, LN_157, P0_157_0, P0_157_1, P0_157_2, P0_157_12, P0_157_16, P0_157_17, P0_157_18, P0_157_19, P0_157_20, P0_157_21, P0_157_22, P0_157_24, P0_157_25, P0_157_29, P0_157_30, P0_157_31, P0_157_32]; done) | fail) only [mM_didSome, eM_didSome_0, eM_didSome_1, eM_didSome_2, eM_didSome_3, eM_didSome_5, eM_didSome_8, eM_didSome_9, eM_didSome_10, eM_didSome_13, eM_didSome_14, eM_didSome_15, eM_didSome_18, eM_didSome_19, eM_didSome_22, eM_didSome_23, eM_didSome_24, eM_didSome_25, eM_didSome_28, eM_didSome_29, eM_didSome_32, eM_didSome_33, eM_didSome_34, eM_didSome_35, eM_didSome_36, eM_didSome_37, eM_didSome_38, eM_didSome_39, eM_didSome_42, eM_didSome_43, eM_didSome_46, eM_didSome_47, eM_didSome_48, eM_didSome_49, eM_didSome_50, eM_didSome_51, eM_didSome_54, eM_didSome_55, eM_didSome_56, eM_didSome_57, eM_didSome_58, eM_didSome_61, eM_didSome_62, eM_didSome_65, eM_didSome_66, eM_didSome_67, eM_didSome_69, eM_didSome_71, eM_didSome_72, eM_didSome_73, eM_didSome_76, eM_didSome_79, eM_didSome_80, eM_didSome_83, eM_didSome_84, eM_didSome_85, eM_didSome_86, eM_didSome_89, eM_didSome_90, eM_didSome_91, eM_didSome_94, eM_didSome_97, eM_didSome_100, eM_didSome_101, eM_didSome_104, eM_didSome_105, eM_didSome_108, eM_didSome_109, KD_157, LN_157, P0_157_0, P0_157_1, P0_157_2, P0_157_12, P0_157_16, P0_157_17, P0_157_18, P0_157_19, P0_157_20, P0_157_21, P0_157_22, P0_157_24, P0_157_25, P0_157_29, P0_157_30, P0_157_31, P0_157_32, va_rf_some, xl_0, xl_1, xl_2, xl_3, xl_4, xl_5, xl_6, xl_7, xl_8, xl_458, xl_459, xl_460, and_false, false_and, tl_some, tl_none, xkl_int, xkl_ref, xkl_dm, xkl_long, true_and, and_true, o_cl, xin_o, lt_ti, le_ti, ito_o, t32_64, o_add1, oz, op0, op1, op2, op3, op4, op5, op6, op7, o8m, o3m, o161m, o461m, o48p, o66p, o72p, o136p, Int32.reduceToInt, Int32.reduceToNatClampNeg, i_10, i_01, le_om1, Int64.reduceToInt, ↓reduceIte, ite_n, ite_p, xu_hit, xu_miss, op11, not_true_eq_false, not_false_eq_true, decide_true, decide_false, bIt0, bIf0, and_self, Int.reduceLE, Int.reduceLT, Int32.reduceAdd, Nat.reduceLeDiff, Nat.reduceLT, Nat.reduceAdd, Nat.reduceMul, Nat.reduceEqDiff, Nat.add_zero, Nat.zero_add, wr_0, xu_wr0, am_1, xm_1, am_2, xm_2, am_3, xm_3, am_4, xm_4, am_5, xm_5, am_6, xm_6, am_7, xm_7, am_8, xm_8, am_9, xm_9, am_10, xm_10, am_11, xm_11, am_12, xm_12, am_13, xm_13, am_14, xm_14, am_15, xm_15, am_16, xm_16, am_17, xm_17, hca, hc]
    rw [eM_didSome_4]
    simp (disch := first | omega | (simp only [nar_0, nar_1, nar_b, and_self, Nat.reduceLeDiff, Nat.reduceLT, Int32.reduceToInt]; done) | fail) only [mM_didSome, eM_didSome_0, eM_didSome_1, eM_didSome_2, eM_didSome_3, eM_didSome_5, eM_didSome_8, eM_didSome_9, eM_didSome_10, eM_didSome_13, eM_didSome_14, eM_didSome_15, eM_didSome_18, eM_didSome_19, eM_didSome_22, eM_didSome_23, eM_didSome_24, eM_didSome_25, eM_didSome_28, eM_didSome_29, eM_didSome_32, eM_didSome_33, eM_didSome_34, eM_didSome_35, eM_didSome_36, eM_didSome_37, eM_didSome_38, eM_didSome_39, eM_didSome_42, eM_didSome_43, eM_didSome_46, eM_didSome_47, eM_didSome_48, eM_didSome_49, eM_didSome_50, eM_didSome_51, eM_didSome_54, eM_didSome_55, eM_didSome_56, eM_didSome_57, eM_didSome_58, eM_didSome_61, eM_didSome_62, eM_didSome_65, eM_didSome_66, eM_didSome_67, eM_didSome_69, eM_didSome_71, eM_didSome_72, eM_didSome_73, eM_didSome_76, eM_didSome_79, eM_didSome_80, eM_didSome_83, eM_didSome_84, eM_didSome_85, eM_didSome_86, eM_didSome_89, eM_didSome_90, eM_didSome_91, eM_didSome_94, eM_didSome_97, eM_didSome_100, eM_didSome_101, eM_didSome_104, eM_didSome_105, eM_didSome_108, eM_didSome_109, va_rf_some, xl_0, xl_1, xl_2, xl_3, xl_4, xl_5, xl_6, xl_7, xl_8, xl_458, xl_459, xl_460, and_false, false_and, tl_some, tl_none, xkl_int, xkl_ref, xkl_dm, xkl_long, true_and, and_true, o_cl, xin_o, lt_ti, le_ti, ito_o, t32_64, o_add1, oz, op0, op1, op2, op3, op4, op5, op6, op7, o8m, o3m, o161m, o461m, o48p, o66p, o72p, o136p, Int32.reduceToInt, Int32.reduceToNatClampNeg, i_10, i_01, le_om1, Int64.reduceToInt, ↓reduceIte, ite_n, ite_p, xu_hit, xu_miss, op11, not_true_eq_false, not_false_eq_true, decide_true, decide_false, bIt0, bIf0, and_self, Int.reduceLE, Int.reduceLT, Int32.reduceAdd, Nat.reduceLeDiff, Nat.reduceLT, Nat.reduceAdd, Nat.reduceMul, Nat.reduceEqDiff, Nat.add_zero, Nat.zero_add, z]
    exact hQ
theorem mdid_loop {k : Nat} (hk : k < 1000) (hG : OkS G) : ∀ (m j b : Nat) (S T : Sv) (w : Value), Sim b G S T → Bs b S → b + 20 * m < 100000 → j + m = 99 → (k < gc G → 99 ≤ (S 5 k).toInt + m) → (∀ T', Sim (b + 20 * m) G (daL G k m (G 66 - wtF G S (gt G)) (decide (0 < j)) S).2 T' → FrT T T' → Q (some (.int (bI (daL G k m (G 66 - wtF G S (gt G)) (decide (0 < j)) S).1))) (wr 157 T' I) J) → X E (d + 3) 160 4 [.ref 157, .int (o k), .int (o j), .int 1, w] [] (wr 157 T I) J Q
  | 0, j, b, S, T, w, hs, hB, hb, hjm, ht, hQ => by
    have hc' : canF G k S = false := by
      rw [← Bool.not_eq_true, can_iff]
      intro q
      have a9 := (hG.2.2.2.2.2.2.2 k q.1).2.2.2.2.2.2.2.2
      unfold bw at a9
      have := ht q.1
      omega
    exact mdid_stop (by omega) hk hG hs hc' (hQ T hs FrT_rfl)
  | m + 1, j, b, S, T, w, hs, hB, hb, hjm, ht, hQ => by
    have hca := fun E d Q => m_canDo (E := E) (d := d) (I := I) (J := J) (Q := Q) hk hs hG
    unfold daL at hQ
    by_cases hc : canF G k S = true
    · have hkc := hc
      rw [can_iff] at hkc
      obtain ⟨c1, c2, c3, c4⟩ := hkc
      have ht' := ht c1
      obtain ⟨x6, y6, g6, k8, hxy⟩ := ch_ix c1 hG
      obtain ⟨h1, h2, h3, -⟩ := id hs
      have m1 := (h3 k c1).1
      have hwt := fun E d Q => m_weight (E := E) (d := d) (I := I) (J := J) (Q := Q) h1 h2 hG
      have hmo := more_ok c1 hB (by omega) hG
      have hx := (hG.2.2.2.2.2.2.2 k c1).2.1
      have hy := (hG.2.2.2.2.2.2.2 k c1).2.2.2.1
      have ex : G (72 + 8 * k + 1) = o (G (72 + 8 * k + 1)).toNatClampNeg := of_cl hx.1
      have ey : G (72 + 8 * k + 3) = o (G (72 + 8 * k + 3)).toNatClampNeg := of_cl hy.1
      generalize hx' : (G (72 + 8 * k + 1)).toNatClampNeg = x at *
      generalize hy' : (G (72 + 8 * k + 3)).toNatClampNeg = y at *
      rw [if_pos hc] at hQ
      rw [eM_didSome_4]
      by_cases z : (moreF G k S).toInt ≤ (G 66 - wtF G S (gt G)).toInt
      · rw [if_pos z] at hQ
        rw [← hmo] at z
        simp (disch := first | omega | (simp only [nar_0, nar_1, nar_b, and_self, Nat.reduceLeDiff, Nat.reduceLT, Int32.reduceToInt, KD_157, LN_157, P0_157_0, P0_157_1, P0_157_2, P0_157_12, P0_157_16, P0_157_17, P0_157_18, P0_157_19, P0_157_20, P0_157_21, P0_157_22, P0_157_24, P0_157_25, P0_157_29, P0_157_30, P0_157_31, P0_157_32, KD_158, LN_158, KD_162, LN_162]; done) | fail) only [mM_didSome, eM_didSome_0, eM_didSome_1, eM_didSome_2, eM_didSome_3, eM_didSome_5, eM_didSome_8, eM_didSome_9, eM_didSome_10, eM_didSome_13, eM_didSome_14, eM_didSome_15, eM_didSome_18, eM_didSome_19, eM_didSome_22, eM_didSome_23, eM_didSome_24, eM_didSome_25, eM_didSome_28, eM_didSome_29, eM_didSome_32, eM_didSome_33, eM_didSome_34, eM_didSome_35, eM_didSome_36, eM_didSome_37, eM_didSome_38, eM_didSome_39, eM_didSome_42, eM_didSome_43, eM_didSome_46, eM_didSome_47, eM_didSome_48, eM_didSome_49, eM_didSome_50, eM_didSome_51, eM_didSome_54, eM_didSome_55, eM_didSome_56, eM_didSome_57, eM_didSome_58, eM_didSome_61, eM_didSome_62, eM_didSome_65, eM_didSome_66, eM_didSome_67, eM_didSome_69, eM_didSome_71, eM_didSome_72, eM_didSome_73, eM_didSome_76, eM_didSome_79, eM_didSome_80, eM_didSome_83, eM_didSome_84, eM_didSome_85, eM_didSome_86, eM_didSome_89, eM_didSome_90, eM_didSome_91, eM_didSome_94, eM_didSome_97, eM_didSome_100, eM_didSome_101, eM_didSome_104, eM_didSome_105, eM_didSome_108, eM_didSome_109, KD_157, LN_157, P0_157_0, P0_157_1, P0_157_2, P0_157_12, P0_157_16, P0_157_17, P0_157_18, P0_157_19, P0_157_20, P0_157_21, P0_157_22, P0_157_24, P0_157_25, P0_157_29, P0_157_30, P0_157_31, P0_157_32, KD_158, LN_158, KD_162, LN_162, va_rf_some, xl_0, xl_1, xl_2, xl_3, xl_4, xl_5, xl_6, xl_7, xl_8, xl_458, xl_459, xl_460, and_false, false_and, tl_some, tl_none, xkl_int, xkl_ref, xkl_dm, xkl_long, true_and, and_true, o_cl, xin_o, lt_ti, le_ti, ito_o, t32_64, o_add1, oz, op0, op1, op2, op3, op4, op5, op6, op7, o8m, o3m, o161m, o461m, o48p, o66p, o72p, o136p, Int32.reduceToInt, Int32.reduceToNatClampNeg, i_10, i_01, le_om1, Int64.reduceToInt, ↓reduceIte, ite_n, ite_p, xu_hit, xu_miss, op11, not_true_eq_false, not_false_eq_true, decide_true, decide_false, bIt0, bIf0, and_self, Int.reduceLE, Int.reduceLT, Int32.reduceAdd, Nat.reduceLeDiff, Nat.reduceLT, Nat.reduceAdd, Nat.reduceMul, Nat.reduceEqDiff, Nat.add_zero, Nat.zero_add, wr_0, xu_wr0, am_1, xm_1, am_2, xm_2, am_3, xm_3, am_4, xm_4, am_5, xm_5, am_6, xm_6, am_7, xm_7, am_8, xm_8, am_9, xm_9, am_10, xm_10, am_11, xm_11, am_12, xm_12, am_13, xm_13, am_14, xm_14, am_15, xm_15, am_16, xm_16, am_17, xm_17, hca, hc, hwt, h1, ofC_1, ofC_2, ofC_3, ofC_4, num_0, m1, k8, ex, ey, ofT_0, z]
        refine m_doOnce hc hs (by omega) hG (fun T1 hs1 hf1 => ?_)
        simp (disch := first | omega | (simp only [nar_0, nar_1, nar_b, and_self, Nat.reduceLeDiff, Nat.reduceLT, Int32.reduceToInt]; done) | fail) only [mM_didSome, eM_didSome_0, eM_didSome_1, eM_didSome_2, eM_didSome_3, eM_didSome_5, eM_didSome_8, eM_didSome_9, eM_didSome_10, eM_didSome_13, eM_didSome_14, eM_didSome_15, eM_didSome_18, eM_didSome_19, eM_didSome_22, eM_didSome_23, eM_didSome_24, eM_didSome_25, eM_didSome_28, eM_didSome_29, eM_didSome_32, eM_didSome_33, eM_didSome_34, eM_didSome_35, eM_didSome_36, eM_didSome_37, eM_didSome_38, eM_didSome_39, eM_didSome_42, eM_didSome_43, eM_didSome_46, eM_didSome_47, eM_didSome_48, eM_didSome_49, eM_didSome_50, eM_didSome_51, eM_didSome_54, eM_didSome_55, eM_didSome_56, eM_didSome_57, eM_didSome_58, eM_didSome_61, eM_didSome_62, eM_didSome_65, eM_didSome_66, eM_didSome_67, eM_didSome_69, eM_didSome_71, eM_didSome_72, eM_didSome_73, eM_didSome_76, eM_didSome_79, eM_didSome_80, eM_didSome_83, eM_didSome_84, eM_didSome_85, eM_didSome_86, eM_didSome_89, eM_didSome_90, eM_didSome_91, eM_didSome_94, eM_didSome_97, eM_didSome_100, eM_didSome_101, eM_didSome_104, eM_didSome_105, eM_didSome_108, eM_didSome_109, va_rf_some, xl_0, xl_1, xl_2, xl_3, xl_4, xl_5, xl_6, xl_7, xl_8, xl_458, xl_459, xl_460, and_false, false_and, tl_some, tl_none, xkl_int, xkl_ref, xkl_dm, xkl_long, true_and, and_true, o_cl, xin_o, lt_ti, le_ti, ito_o, t32_64, o_add1, oz, op0, op1, op2, op3, op4, op5, op6, op7, o8m, o3m, o161m, o461m, o48p, o66p, o72p, o136p, Int32.reduceToInt, Int32.reduceToNatClampNeg, i_10, i_01, le_om1, Int64.reduceToInt, ↓reduceIte, ite_n, ite_p, xu_hit, xu_miss, op11, not_true_eq_false, not_false_eq_true, decide_true, decide_false, bIt0, bIf0, and_self, Int.reduceLE, Int.reduceLT, Int32.reduceAdd, Nat.reduceLeDiff, Nat.reduceLT, Nat.reduceAdd, Nat.reduceMul, Nat.reduceEqDiff, Nat.add_zero, Nat.zero_add]
        refine mdid_loop hk hG m (j + 1) (b + 20) (doF G k S) T1 _ hs1 (bs_do hc hB (by omega) hG) (by omega) (by omega) (fun _ => ?_) (fun T2 hs2 hf2 => ?_)
        · rw [do_times c1 (hB.2.2.1 k k8) hG]
          omega
        · have ef : G 66 - wtF G (doF G k S) (gt G) = G 66 - wtF G S (gt G) - moreF G k S := by rw [wt_do c1 hG]; grind
          have et : decide (0 < j + 1) = true := by rw [decide_eq_true_eq]; omega
          rw [ef, et] at hs2 ⊢
          refine hQ T2 ?_ (FrT_trans hf1 hf2)
          rw [show b + 20 * (m + 1) = b + 20 + 20 * m by omega]
          exact hs2
      · rw [if_neg z] at hQ
        rw [← hmo] at z
        have z0 : ∀ (x y : Int32), ¬ x.toInt ≤ y.toInt → y.toInt < x.toInt := fun _ _ h => by omega
        have z' := z0 _ _ z
        have hfin := hQ T (Sim_mono hs (by omega)) FrT_rfl
        by_cases hj : 0 < j
        · have q1 : ¬ (j : Int) ≤ 0 := by omega
          have q2 : decide (0 < j) = true := by rw [decide_eq_true_eq]; exact hj
          rw [q2] at hfin
          simp (disch := first | omega | (simp only [nar_0, nar_1, nar_b, and_self, Nat.reduceLeDiff, Nat.reduceLT, Int32.reduceToInt, KD_157, LN_157, P0_157_0, P0_157_1, P0_157_2, P0_157_12, P0_157_16, P0_157_17, P0_157_18, P0_157_19, P0_157_20, P0_157_21, P0_157_22, P0_157_24, P0_157_25, P0_157_29, P0_157_30, P0_157_31, P0_157_32, KD_158, LN_158, KD_162, LN_162]; done) | fail) only [mM_didSome, eM_didSome_0, eM_didSome_1, eM_didSome_2, eM_didSome_3, eM_didSome_5, eM_didSome_8, eM_didSome_9, eM_didSome_10, eM_didSome_13, eM_didSome_14, eM_didSome_15, eM_didSome_18, eM_didSome_19, eM_didSome_22, eM_didSome_23, eM_didSome_24, eM_didSome_25, eM_didSome_28, eM_didSome_29, eM_didSome_32, eM_didSome_33, eM_didSome_34, eM_didSome_35, eM_didSome_36, eM_didSome_37, eM_didSome_38, eM_didSome_39, eM_didSome_42, eM_didSome_43, eM_didSome_46, eM_didSome_47, eM_didSome_48, eM_didSome_49, eM_didSome_50, eM_didSome_51, eM_didSome_54, eM_didSome_55, eM_didSome_56, eM_didSome_57, eM_didSome_58, eM_didSome_61, eM_didSome_62, eM_didSome_65, eM_didSome_66, eM_didSome_67, eM_didSome_69, eM_didSome_71, eM_didSome_72, eM_didSome_73, eM_didSome_76, eM_didSome_79, eM_didSome_80, eM_didSome_83, eM_didSome_84, eM_didSome_85, eM_didSome_86, eM_didSome_89, eM_didSome_90, eM_didSome_91, eM_didSome_94, eM_didSome_97, eM_didSome_100, eM_didSome_101, eM_didSome_104, eM_didSome_105, eM_didSome_108, eM_didSome_109, KD_157, LN_157, P0_157_0, P0_157_1, P0_157_2, P0_157_12, P0_157_16, P0_157_17, P0_157_18, P0_157_19, P0_157_20, P0_157_21, P0_157_22, P0_157_24, P0_157_25, P0_157_29, P0_157_30, P0_157_31, P0_157_32, KD_158, LN_158, KD_162, LN_162, va_rf_some, xl_0, xl_1, xl_2, xl_3, xl_4, xl_5, xl_6, xl_7, xl_8, xl_458, xl_459, xl_460, and_false, false_and, tl_some, tl_none, xkl_int, xkl_ref, xkl_dm, xkl_long, true_and, and_true, o_cl, xin_o, lt_ti, le_ti, ito_o, t32_64, o_add1, oz, op0, op1, op2, op3, op4, op5, op6, op7, o8m, o3m, o161m, o461m, o48p, o66p, o72p, o136p, Int32.reduceToInt, Int32.reduceToNatClampNeg, i_10, i_01, le_om1, Int64.reduceToInt, ↓reduceIte, ite_n, ite_p, xu_hit, xu_miss, op11, not_true_eq_false, not_false_eq_true, decide_true, decide_false, bIt0, bIf0, and_self, Int.reduceLE, Int.reduceLT, Int32.reduceAdd, Nat.reduceLeDiff, Nat.reduceLT, Nat.reduceAdd, Nat.reduceMul, Nat.reduceEqDiff, Nat.add_zero, Nat.zero_add, wr_0, xu_wr0, am_1, xm_1, am_2, xm_2, am_3, xm_3, am_4, xm_4, am_5, xm_5, am_6, xm_6, am_7, xm_7, am_8, xm_8, am_9, xm_9, am_10, xm_10, am_11, xm_11, am_12, xm_12, am_13, xm_13, am_14, xm_14, am_15, xm_15, am_16, xm_16, am_17, xm_17, hca, hc, hwt, h1, ofC_1, ofC_2, ofC_3, ofC_4, num_0, m1, k8, ex, ey, ofT_0, z, z']
          rw [eM_didSome_4]
          simp (disch := first | omega | (simp only [nar_0, nar_1, nar_b, and_self, Nat.reduceLeDiff, Nat.reduceLT, Int32.reduceToInt]; done) | fail) only [mM_didSome, eM_didSome_0, eM_didSome_1, eM_didSome_2, eM_didSome_3, eM_didSome_5, eM_didSome_8, eM_didSome_9, eM_didSome_10, eM_didSome_13, eM_didSome_14, eM_didSome_15, eM_didSome_18, eM_didSome_19, eM_didSome_22, eM_didSome_23, eM_didSome_24, eM_didSome_25, eM_didSome_28, eM_didSome_29, eM_didSome_32, eM_didSome_33, eM_didSome_34, eM_didSome_35, eM_didSome_36, eM_didSome_37, eM_didSome_38, eM_didSome_39, eM_didSome_42, eM_didSome_43, eM_didSome_46, eM_didSome_47, eM_didSome_48, eM_didSome_49, eM_didSome_50, eM_didSome_51, eM_didSome_54, eM_didSome_55, eM_didSome_56, eM_didSome_57, eM_didSome_58, eM_didSome_61, eM_didSome_62, eM_didSome_65, eM_didSome_66, eM_didSome_67, eM_didSome_69, eM_didSome_71, eM_didSome_72, eM_didSome_73, eM_didSome_76, eM_didSome_79, eM_didSome_80, eM_didSome_83, eM_didSome_84, eM_didSome_85, eM_didSome_86, eM_didSome_89, eM_didSome_90, eM_didSome_91, eM_didSome_94, eM_didSome_97, eM_didSome_100, eM_didSome_101, eM_didSome_104, eM_didSome_105, eM_didSome_108, eM_didSome_109, va_rf_some, xl_0, xl_1, xl_2, xl_3, xl_4, xl_5, xl_6, xl_7, xl_8, xl_458, xl_459, xl_460, and_false, false_and, tl_some, tl_none, xkl_int, xkl_ref, xkl_dm, xkl_long, true_and, and_true, o_cl, xin_o, lt_ti, le_ti, ito_o, t32_64, o_add1, oz, op0, op1, op2, op3, op4, op5, op6, op7, o8m, o3m, o161m, o461m, o48p, o66p, o72p, o136p, Int32.reduceToInt, Int32.reduceToNatClampNeg, i_10, i_01, le_om1, Int64.reduceToInt, ↓reduceIte, ite_n, ite_p, xu_hit, xu_miss, op11, not_true_eq_false, not_false_eq_true, decide_true, decide_false, bIt0, bIf0, and_self, Int.reduceLE, Int.reduceLT, Int32.reduceAdd, Nat.reduceLeDiff, Nat.reduceLT, Nat.reduceAdd, Nat.reduceMul, Nat.reduceEqDiff, Nat.add_zero, Nat.zero_add, q1]
          exact hfin
        · have q1 : (j : Int) ≤ 0 := by omega
          have q2 : decide (0 < j) = false := by rw [decide_eq_false_iff_not]; exact hj
          rw [q2] at hfin
          simp (disch := first | omega | (simp only [nar_0, nar_1, nar_b, and_self, Nat.reduceLeDiff, Nat.reduceLT, Int32.reduceToInt, KD_157, LN_157, P0_157_0, P0_157_1, P0_157_2, P0_157_12, P0_157_16, P0_157_17, P0_157_18, P0_157_19, P0_157_20, P0_157_21, P0_157_22, P0_157_24, P0_157_25, P0_157_29, P0_157_30, P0_157_31, P0_157_32, KD_158, LN_158, KD_162, LN_162]; done) | fail) only [mM_didSome, eM_didSome_0, eM_didSome_1, eM_didSome_2, eM_didSome_3, eM_didSome_5, eM_didSome_8, eM_didSome_9, eM_didSome_10, eM_didSome_13, eM_didSome_14, eM_didSome_15, eM_didSome_18, eM_didSome_19, eM_didSome_22, eM_didSome_23, eM_didSome_24, eM_didSome_25, eM_didSome_28, eM_didSome_29, eM_didSome_32, eM_didSome_33, eM_didSome_34, eM_didSome_35, eM_didSome_36, eM_didSome_37, eM_didSome_38, eM_didSome_39, eM_didSome_42, eM_didSome_43, eM_didSome_46, eM_didSome_47, eM_didSome_48, eM_didSome_49, eM_didSome_50, eM_didSome_51, eM_didSome_54, eM_didSome_55, eM_didSome_56, eM_didSome_57, eM_didSome_58, eM_didSome_61, eM_didSome_62, eM_didSome_65, eM_didSome_66, eM_didSome_67, eM_didSome_69, eM_didSome_71, eM_didSome_72, eM_didSome_73, eM_didSome_76, eM_didSome_79, eM_didSome_80, eM_didSome_83, eM_didSome_84, eM_didSome_85, eM_didSome_86, eM_didSome_89, eM_didSome_90, eM_didSome_91, eM_didSome_94, eM_didSome_97, eM_didSome_100, eM_didSome_101, eM_didSome_104, eM_didSome_105, eM_didSome_108, eM_didSome_109, KD_157, LN_157, P0_157_0, P0_157_1, P0_157_2, P0_157_12, P0_157_16, P0_157_17, P0_157_18, P0_157_19, P0_157_20, P0_157_21, P0_157_22, P0_157_24, P0_157_25, P0_157_29, P0_157_30, P0_157_31, P0_157_32, KD_158, LN_158, KD_162, LN_162, va_rf_some, xl_0, xl_1, xl_2, xl_3, xl_4, xl_5, xl_6, xl_7, xl_8, xl_458, xl_459, xl_460, and_false, false_and, tl_some, tl_none, xkl_int, xkl_ref, xkl_dm, xkl_long, true_and, and_true, o_cl, xin_o, lt_ti, le_ti, ito_o, t32_64, o_add1, oz, op0, op1, op2, op3, op4, op5, op6, op7, o8m, o3m, o161m, o461m, o48p, o66p, o72p, o136p, Int32.reduceToInt, Int32.reduceToNatClampNeg, i_10, i_01, le_om1, Int64.reduceToInt, ↓reduceIte, ite_n, ite_p, xu_hit, xu_miss, op11, not_true_eq_false, not_false_eq_true, decide_true, decide_false, bIt0, bIf0, and_self, Int.reduceLE, Int.reduceLT, Int32.reduceAdd, Nat.reduceLeDiff, Nat.reduceLT, Nat.reduceAdd, Nat.reduceMul, Nat.reduceEqDiff, Nat.add_zero, Nat.zero_add, wr_0, xu_wr0, am_1, xm_1, am_2, xm_2, am_3, xm_3, am_4, xm_4, am_5, xm_5, am_6, xm_6, am_7, xm_7, am_8, xm_8, am_9, xm_9, am_10, xm_10, am_11, xm_11, am_12, xm_12, am_13, xm_13, am_14, xm_14, am_15, xm_15, am_16, xm_16, am_17, xm_17, hca, hc, hwt, h1, ofC_1, ofC_2, ofC_3, ofC_4, num_0, m1, k8, ex, ey, ofT_0, z, z']
          rw [eM_didSome_4]
          simp (disch := first | omega | (simp only [nar_0, nar_1, nar_b, and_self, Nat.reduceLeDiff, Nat.reduceLT, Int32.reduceToInt]; done) | fail) only [mM_didSome, eM_didSome_0, eM_didSome_1, eM_didSome_2, eM_didSome_3, eM_didSome_5, eM_didSome_8, eM_didSome_9, eM_didSome_10, eM_didSome_13, eM_didSome_14, eM_didSome_15, eM_didSome_18, eM_didSome_19, eM_didSome_22, eM_didSome_23, eM_didSome_24, eM_didSome_25, eM_didSome_28, eM_didSome_29, eM_didSome_32, eM_didSome_33, eM_didSome_34, eM_didSome_35, eM_didSome_36, eM_didSome_37, eM_didSome_38, eM_didSome_39, eM_didSome_42, eM_didSome_43, eM_didSome_46, eM_didSome_47, eM_didSome_48, eM_didSome_49, eM_didSome_50, eM_didSome_51, eM_didSome_54, eM_didSome_55, eM_didSome_56, eM_didSome_57, eM_didSome_58, eM_didSome_61, eM_didSome_62, eM_didSome_65, eM_didSome_66, eM_didSome_67, eM_didSome_69, eM_didSome_71, eM_didSome_72, eM_didSome_73, eM_didSome_76, eM_didSome_79, eM_didSome_80, eM_didSome_83, eM_didSome_84, eM_didSome_85, eM_didSome_86, eM_didSome_89, eM_didSome_90, eM_didSome_91, eM_didSome_94, eM_didSome_97, eM_didSome_100, eM_didSome_101, eM_didSome_104, eM_didSome_105, eM_didSome_108, eM_didSome_109, va_rf_some, xl_0, xl_1, xl_2, xl_3, xl_4, xl_5, xl_6, xl_7, xl_8, xl_458, xl_459, xl_460, and_false, false_and, tl_some, tl_none, xkl_int, xkl_ref, xkl_dm, xkl_long, true_and, and_true, o_cl, xin_o, lt_ti, le_ti, ito_o, t32_64, o_add1, oz, op0, op1, op2, op3, op4, op5, op6, op7, o8m, o3m, o161m, o461m, o48p, o66p, o72p, o136p, Int32.reduceToInt, Int32.reduceToNatClampNeg, i_10, i_01, le_om1, Int64.reduceToInt, ↓reduceIte, ite_n, ite_p, xu_hit, xu_miss, op11, not_true_eq_false, not_false_eq_true, decide_true, decide_false, bIt0, bIf0, and_self, Int.reduceLE, Int.reduceLT, Int32.reduceAdd, Nat.reduceLeDiff, Nat.reduceLT, Nat.reduceAdd, Nat.reduceMul, Nat.reduceEqDiff, Nat.add_zero, Nat.zero_add, q1]
          exact hfin
    · have hc' : canF G k S = false := by simpa using hc
      rw [if_neg hc] at hQ
      exact mdid_stop (by omega) hk hG hs hc' (hQ T (Sim_mono hs (by omega)) FrT_rfl)
theorem m_didSome {k b : Nat} {S T : Sv} (hk : k < 1000) (hs : Sim b G S T) (hB : Bs b S) (hb : b < 90000) (hG : OkS G) (hQ : ∀ T', Sim (b + 1980) G (daF G k S).2 T' → FrT T T' → Q (some (.int (bI (daF G k S).1))) (wr 157 T' I) J) : XM E (d + 3) 160 [.ref 157, .int (o k)] (wr 157 T I) J Q := by
  simp (disch := first | omega | (simp only [nar_0, nar_1, nar_b, and_self, Nat.reduceLeDiff, Nat.reduceLT, Int32.reduceToInt]; done) | fail) only [mM_didSome, eM_didSome_0, eM_didSome_1, eM_didSome_2, eM_didSome_3, eM_didSome_5, eM_didSome_8, eM_didSome_9, eM_didSome_10, eM_didSome_13, eM_didSome_14, eM_didSome_15, eM_didSome_18, eM_didSome_19, eM_didSome_22, eM_didSome_23, eM_didSome_24, eM_didSome_25, eM_didSome_28, eM_didSome_29, eM_didSome_32, eM_didSome_33, eM_didSome_34, eM_didSome_35, eM_didSome_36, eM_didSome_37, eM_didSome_38, eM_didSome_39, eM_didSome_42, eM_didSome_43, eM_didSome_46, eM_didSome_47, eM_didSome_48, eM_didSome_49, eM_didSome_50, eM_didSome_51, eM_didSome_54, eM_didSome_55, eM_didSome_56, eM_didSome_57, eM_didSome_58, eM_didSome_61, eM_didSome_62, eM_didSome_65, eM_didSome_66, eM_didSome_67, eM_didSome_69, eM_didSome_71, eM_didSome_72, eM_didSome_73, eM_didSome_76, eM_didSome_79, eM_didSome_80, eM_didSome_83, eM_didSome_84, eM_didSome_85, eM_didSome_86, eM_didSome_89, eM_didSome_90, eM_didSome_91, eM_didSome_94, eM_didSome_97, eM_didSome_100, eM_didSome_101, eM_didSome_104, eM_didSome_105, eM_didSome_108, eM_didSome_109, va_rf_some, xl_0, xl_1, xl_2, xl_3, xl_4, xl_5, xl_6, xl_7, xl_8, xl_458, xl_459, xl_460, and_false, false_and, tl_some, tl_none, xkl_int, xkl_ref, xkl_dm, xkl_long, true_and, and_true, o_cl, xin_o, lt_ti, le_ti, ito_o, t32_64, o_add1, oz, op0, op1, op2, op3, op4, op5, op6, op7, o8m, o3m, o161m, o461m, o48p, o66p, o72p, o136p, Int32.reduceToInt, Int32.reduceToNatClampNeg, i_10, i_01, le_om1, Int64.reduceToInt, ↓reduceIte, ite_n, ite_p, xu_hit, xu_miss, op11, not_true_eq_false, not_false_eq_true, decide_true, decide_false, bIt0, bIf0, and_self, Int.reduceLE, Int.reduceLT, Int32.reduceAdd, Nat.reduceLeDiff, Nat.reduceLT, Nat.reduceAdd, Nat.reduceMul, Nat.reduceEqDiff, Nat.add_zero, Nat.zero_add]
  refine mdid_loop hk hG 99 0 b S T xdm hs hB (by omega) (by omega) (fun h => ?_) (fun T' h1 h2 => hQ T' h1 h2)
  have := (hB.2.2.1 k (by have := hG.2.2.1.2; omega)).1
  omega
end
