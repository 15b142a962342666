/-! image, from -/
theorem c_copy {E : XE} {d : Nat} {I : Iv} {J : Jv} {Q : XQt} {T T' w m n : Nat} (hT : TB T w m) (hT' : TB T' w m) (hd : T + 2 + m ≤ T' ∨ T' + 2 + m ≤ T) (hn : n ≤ m) (hm : m < 1000) (hw : w < 1000) (hs : I T' 2 = o n) (hW : I T 1 = o w) (hQ : ∀ I' : Iv, I' T 2 = o n → I' T 1 = o w → (∀ j k, j < n → k < w → I' (T + 2 + j) k = I (T' + 2 + j) k) → (∀ a, ¬ a = T → ¬ (T + 2 ≤ a ∧ a < T + 2 + n) → I' a = I a) → Q none I' J) : XM E (d + 1) 29 [.ref T, .ref T'] I J Q := by
  rw [s_copy hT hT' hd hn hm hw hs hW]
  refine hQ _ ?_ ?_ (fun j k hj hk => ?_) (fun a ha hb => ?_)
  · simp (disch := omega) only [xu_hit, xu_miss, ite_n, ite_p, if_true, if_false, and_true, true_and, and_false, false_and, and_self, Nat.reduceEqDiff]
  · simp (disch := omega) only [xu_hit, xu_miss, ite_n, ite_p, if_true, if_false, and_true, true_and, and_false, false_and, and_self, Nat.reduceEqDiff]; exact hW
  · simp (disch := omega) only [xu_hit, xu_miss, ite_n, ite_p, if_true, if_false, and_true, true_and, and_false, false_and, and_self, Nat.reduceEqDiff]
    congr 1
    omega
  · funext k
    simp (disch := omega) only [xu_hit, xu_miss, ite_n, ite_p, if_true, if_false, and_true, true_and, and_false, false_and, and_self, Nat.reduceEqDiff]
def RV (R : Nat) : Prop := KD R = 2 ∧ P0 R 0 = some (R + 1) ∧ P0 R 1 = some (R + 9) ∧ P0 R 2 = some (R + 17) ∧ P0 R 3 = some (R + 27) ∧ P0 R 4 = some (R + 28) ∧ TB (R + 1) 7 6 ∧ TB (R + 9) 3 6 ∧ TB (R + 17) 8 8 ∧ (KD (R + 27) = 10 ∧ LN (R + 27) = 6) ∧ (KD (R + 28) = 15 ∧ LN (R + 28) = 2) ∧ (P0 (R + 28) 0 = some (R + 29) ∧ P0 (R + 28) 1 = some (R + 31)) ∧ (KD (R + 29) = 6 ∧ P0 (R + 29) 0 = some (R + 30) ∧ KD (R + 30) = 10 ∧ LN (R + 30) = 160) ∧ (KD (R + 31) = 6 ∧ P0 (R + 31) 0 = some (R + 32) ∧ KD (R + 32) = 10 ∧ LN (R + 32) = 160)
theorem RV_1 : RV 1 := ⟨KD_1, P0_1_0, P0_1_1, P0_1_2, P0_1_3, P0_1_4, TB_2, TB_10, TB_18, ⟨KD_28, LN_28⟩, ⟨KD_29, LN_29⟩, ⟨P0_29_0, P0_29_1⟩, ⟨KD_30, P0_30_0, KD_31, LN_31⟩, ⟨KD_32, P0_32_0, KD_33, LN_33⟩⟩
theorem RV_35 : RV 35 := ⟨KD_35, P0_35_0, P0_35_1, P0_35_2, P0_35_3, P0_35_4, TB_36, TB_44, TB_52, ⟨KD_62, LN_62⟩, ⟨KD_63, LN_63⟩, ⟨P0_63_0, P0_63_1⟩, ⟨KD_64, P0_64_0, KD_65, LN_65⟩, ⟨KD_66, P0_66_0, KD_67, LN_67⟩⟩
theorem RV_68 : RV 68 := ⟨KD_68, P0_68_0, P0_68_1, P0_68_2, P0_68_3, P0_68_4, TB_69, TB_77, TB_85, ⟨KD_95, LN_95⟩, ⟨KD_96, LN_96⟩, ⟨P0_96_0, P0_96_1⟩, ⟨KD_97, P0_97_0, KD_98, LN_98⟩, ⟨KD_99, P0_99_0, KD_100, LN_100⟩⟩
section
variable {E : XE} {d : Nat} {I : Iv} {J : Jv} {Q : XQt}
theorem c_tcopy {a a' n : Nat} (ha : KD a = 6 ∧ P0 a 0 = some (a + 1) ∧ KD (a + 1) = 10 ∧ LN (a + 1) = 160) (ha' : KD a' = 6 ∧ P0 a' 0 = some (a' + 1) ∧ KD (a' + 1) = 10 ∧ LN (a' + 1) = 160) (hd : a + 2 ≤ a' ∨ a' + 2 ≤ a) (hn : n ≤ 160) (hs : I a' 1 = o n) (hQ : ∀ I' : Iv, I' a 1 = o n → (∀ k, k < n → I' (a + 1) k = I (a' + 1) k) → (∀ b, ¬ b = a → ¬ b = a + 1 → I' b = I b) → Q none I' J) : XM E (d + 1) 33 [.ref a, .ref a'] I J Q := by
  obtain ⟨h1, h2, h3, h4⟩ := ha
  obtain ⟨h1', h2', h3', h4'⟩ := ha'
  have z0 : ¬ (0 : Int32) < 0 := by decide
  have z1 : (0 : Int32).toNatClampNeg = 0 := by decide
  have z2 : ¬ o n < 0 := o_neg (by omega)
  simp only [mText_copy, eText_copy_0, eText_copy_1, eText_copy_2, eText_copy_5, eText_copy_8, eText_copy_9, eText_copy_12, eText_copy_13, eText_copy_14, eText_copy_17, eText_copy_18, eText_copy_19, eText_copy_22, eText_copy_25, h1, h1', h2, h2', h3, h3', h4, h4', va_rf_some, hs, xu_self, z0, z1, z2, not_false_eq_true, o_cl (by omega : n < 2147483648), Nat.zero_add, hn]
  refine hQ _ ?_ (fun k hk => ?_) (fun b hb hb' => ?_)
  · simp only [xcI_ap]
    simp (disch := omega) only [xu_hit, xu_miss, ite_n, ite_p, if_true, if_false, and_true, true_and, and_false, false_and, and_self, Nat.reduceEqDiff]
  · simp only [xcI_ap]
    simp (disch := omega) only [xu_hit, xu_miss, ite_n, ite_p, if_true, if_false, and_true, true_and, and_false, false_and, and_self, Nat.reduceEqDiff]
    congr 1
    omega
  · funext k
    simp only [xcI_ap]
    simp (disch := omega) only [xu_hit, xu_miss, ite_n, ite_p, if_true, if_false, and_true, true_and, and_false, false_and, and_self, Nat.reduceEqDiff]
theorem c_rcopy {R R' : Nat} {G : Gv} (hR : RV R) (hR' : RV R') (hd : R + 33 ≤ R' ∨ R' + 33 ≤ R) (hG : Ok G) (hr : RelC R' G I) (hW : Wd R I) (hQ : ∀ I' : Iv, RelC R G I' → Wd R I' → (∀ a, ¬ (R < a ∧ a < R + 33) → I' a = I a) → Q none I' J) : XM E (d + 2) 12 [.ref R, .ref R'] I J Q := by
  obtain ⟨k1, k2, k3, k4, k5, k6, t1, t2, t3, ⟨n1, n2⟩, ⟨x1, x2⟩, ⟨y1, y2⟩, u1, u2⟩ := hR
  obtain ⟨k1', k2', k3', k4', k5', k6', t1', t2', t3', ⟨n1', n2'⟩, ⟨x1', x2'⟩, ⟨y1', y2'⟩, u1', u2'⟩ := hR'
  obtain ⟨⟨e1, g1⟩, ⟨e2, g2⟩, ⟨e3, g3⟩, e4, -⟩ := id hG
  obtain ⟨q1, q2, q3, q4, q5, q6, q7, q8⟩ := hr
  obtain ⟨w1, w2, w3⟩ := hW
  have z0 : ¬ (0 : Int32) < 0 := by decide
  have z6 : ¬ (6 : Int32) < 0 := by decide
  have kt1 := TB_1 t1
  have kt2 := TB_1 t2
  have kt3 := TB_1 t3
  simp (disch := first | omega | (simp only [nar_0, nar_1, nar_b, and_self, Nat.reduceLeDiff, Nat.reduceLT, Int32.reduceToInt]; done) | fail) only [mRiver_copy, eRiver_copy_0, eRiver_copy_1, eRiver_copy_4, eRiver_copy_5, eRiver_copy_8, eRiver_copy_11, eRiver_copy_12, eRiver_copy_15, eRiver_copy_16, eRiver_copy_19, eRiver_copy_22, eRiver_copy_23, eRiver_copy_26, eRiver_copy_27, eRiver_copy_30, eRiver_copy_33, eRiver_copy_34, eRiver_copy_37, eRiver_copy_38, eRiver_copy_39, eRiver_copy_42, eRiver_copy_43, eRiver_copy_45, eRiver_copy_48, eRiver_copy_49, eRiver_copy_51, eRiver_copy_52, eRiver_copy_55, eRiver_copy_56, eRiver_copy_59, eRiver_copy_60, eRiver_copy_61, eRiver_copy_62, eRiver_copy_65, eRiver_copy_66, eRiver_copy_67, eRiver_copy_70, eRiver_copy_73, eRiver_copy_76, va_rf_some, xl_0, xl_1, xl_2, xl_3, xl_4, xl_5, xl_6, xl_7, xl_8, xl_458, xl_459, xl_460, and_false, false_and, tl_some, tl_none, xkl_int, xkl_ref, xkl_dm, xkl_long, true_and, and_true, o_cl, xin_o, lt_ti, le_ti, ito_o, t32_64, o_add1, oz, op0, op1, op2, op3, op4, op5, op6, op7, o8m, o3m, o161m, o461m, o48p, o66p, o72p, o136p, Int32.reduceToInt, Int32.reduceToNatClampNeg, i_10, i_01, le_om1, Int64.reduceToInt, ↓reduceIte, ite_n, ite_p, xu_hit, xu_miss, op11, not_true_eq_false, not_false_eq_true, decide_true, decide_false, bIt0, bIf0, and_self, Int.reduceLE, Int.reduceLT, Int32.reduceAdd, Nat.reduceLeDiff, Nat.reduceLT, Nat.reduceAdd, Nat.reduceMul, Nat.reduceEqDiff, Nat.add_zero, Nat.zero_add, k1, k2, k3, k4, k5, k6, k1', k2', k3', k4', k5', k6']
  refine c_copy t1 t1' (by omega) g1 (by omega) (by omega) (q1.trans e1) w1 (fun I1 a1 a2 a3 a4 => ?_)
  simp (disch := first | omega | (simp only [nar_0, nar_1, nar_b, and_self, Nat.reduceLeDiff, Nat.reduceLT, Int32.reduceToInt]; done) | fail) only [mRiver_copy, eRiver_copy_0, eRiver_copy_1, eRiver_copy_4, eRiver_copy_5, eRiver_copy_8, eRiver_copy_11, eRiver_copy_12, eRiver_copy_15, eRiver_copy_16, eRiver_copy_19, eRiver_copy_22, eRiver_copy_23, eRiver_copy_26, eRiver_copy_27, eRiver_copy_30, eRiver_copy_33, eRiver_copy_34, eRiver_copy_37, eRiver_copy_38, eRiver_copy_39, eRiver_copy_42, eRiver_copy_43, eRiver_copy_45, eRiver_copy_48, eRiver_copy_49, eRiver_copy_51, eRiver_copy_52, eRiver_copy_55, eRiver_copy_56, eRiver_copy_59, eRiver_copy_60, eRiver_copy_61, eRiver_copy_62, eRiver_copy_65, eRiver_copy_66, eRiver_copy_67, eRiver_copy_70, eRiver_copy_73, eRiver_copy_76, va_rf_some, xl_0, xl_1, xl_2, xl_3, xl_4, xl_5, xl_6, xl_7, xl_8, xl_458, xl_459, xl_460, and_false, false_and, tl_some, tl_none, xkl_int, xkl_ref, xkl_dm, xkl_long, true_and, and_true, o_cl, xin_o, lt_ti, le_ti, ito_o, t32_64, o_add1, oz, op0, op1, op2, op3, op4, op5, op6, op7, o8m, o3m, o161m, o461m, o48p, o66p, o72p, o136p, Int32.reduceToInt, Int32.reduceToNatClampNeg, i_10, i_01, le_om1, Int64.reduceToInt, ↓reduceIte, ite_n, ite_p, xu_hit, xu_miss, op11, not_true_eq_false, not_false_eq_true, decide_true, decide_false, bIt0, bIf0, and_self, Int.reduceLE, Int.reduceLT, Int32.reduceAdd, Nat.reduceLeDiff, Nat.reduceLT, Nat.reduceAdd, Nat.reduceMul, Nat.reduceEqDiff, Nat.add_zero, Nat.zero_add, k1, k2, k3, k4, k5, k6, k1', k2', k3', k4', k5', k6']
  refine c_copy t2 t2' (by omega) g2 (by omega) (by omega) ((congrFun (a4 _ (by omega) (by omega)) 2).trans (q2.trans e2)) ((congrFun (a4 _ (by omega) (by omega)) 1).trans w2) (fun I2 b1 b2 b3 b4 => ?_)
  simp (disch := first | omega | (simp only [nar_0, nar_1, nar_b, and_self, Nat.reduceLeDiff, Nat.reduceLT, Int32.reduceToInt]; done) | fail) only [mRiver_copy, eRiver_copy_0, eRiver_copy_1, eRiver_copy_4, eRiver_copy_5, eRiver_copy_8, eRiver_copy_11, eRiver_copy_12, eRiver_copy_15, eRiver_copy_16, eRiver_copy_19, eRiver_copy_22, eRiver_copy_23, eRiver_copy_26, eRiver_copy_27, eRiver_copy_30, eRiver_copy_33, eRiver_copy_34, eRiver_copy_37, eRiver_copy_38, eRiver_copy_39, eRiver_copy_42, eRiver_copy_43, eRiver_copy_45, eRiver_copy_48, eRiver_copy_49, eRiver_copy_51, eRiver_copy_52, eRiver_copy_55, eRiver_copy_56, eRiver_copy_59, eRiver_copy_60, eRiver_copy_61, eRiver_copy_62, eRiver_copy_65, eRiver_copy_66, eRiver_copy_67, eRiver_copy_70, eRiver_copy_73, eRiver_copy_76, va_rf_some, xl_0, xl_1, xl_2, xl_3, xl_4, xl_5, xl_6, xl_7, xl_8, xl_458, xl_459, xl_460, and_false, false_and, tl_some, tl_none, xkl_int, xkl_ref, xkl_dm, xkl_long, true_and, and_true, o_cl, xin_o, lt_ti, le_ti, ito_o, t32_64, o_add1, oz, op0, op1, op2, op3, op4, op5, op6, op7, o8m, o3m, o161m, o461m, o48p, o66p, o72p, o136p, Int32.reduceToInt, Int32.reduceToNatClampNeg, i_10, i_01, le_om1, Int64.reduceToInt, ↓reduceIte, ite_n, ite_p, xu_hit, xu_miss, op11, not_true_eq_false, not_false_eq_true, decide_true, decide_false, bIt0, bIf0, and_self, Int.reduceLE, Int.reduceLT, Int32.reduceAdd, Nat.reduceLeDiff, Nat.reduceLT, Nat.reduceAdd, Nat.reduceMul, Nat.reduceEqDiff, Nat.add_zero, Nat.zero_add, k1, k2, k3, k4, k5, k6, k1', k2', k3', k4', k5', k6']
  refine c_copy t3 t3' (by omega) g3 (by omega) (by omega) (by rw [b4 _ (by omega) (by omega), a4 _ (by omega) (by omega)]; exact q3.trans e3) (by rw [b4 _ (by omega) (by omega), a4 _ (by omega) (by omega)]; exact w3) (fun I3 c1 c2 c3 c4 => ?_)
  have hI3 : ∀ a, ¬ a = R + 1 → ¬ (R + 3 ≤ a ∧ a < R + 9) → ¬ a = R + 9 → ¬ (R + 11 ≤ a ∧ a < R + 17) → ¬ a = R + 17 → ¬ (R + 19 ≤ a ∧ a < R + 27) → I3 a = I a := by
    intro a z1 z2 z3 z4 z5 z6
    rw [c4 _ (by omega) (by omega), b4 _ (by omega) (by omega), a4 _ (by omega) (by omega)]
  simp only [mRiver_copy, eRiver_copy_0, eRiver_copy_1, eRiver_copy_4, eRiver_copy_5, eRiver_copy_8, eRiver_copy_11, eRiver_copy_12, eRiver_copy_15, eRiver_copy_16, eRiver_copy_19, eRiver_copy_22, eRiver_copy_23, eRiver_copy_26, eRiver_copy_27, eRiver_copy_30, eRiver_copy_33, eRiver_copy_34, eRiver_copy_37, eRiver_copy_38, eRiver_copy_39, eRiver_copy_42, eRiver_copy_43, eRiver_copy_45, eRiver_copy_48, eRiver_copy_49, eRiver_copy_51, eRiver_copy_52, eRiver_copy_55, eRiver_copy_56, eRiver_copy_59, eRiver_copy_60, eRiver_copy_61, eRiver_copy_62, eRiver_copy_65, eRiver_copy_66, eRiver_copy_67, eRiver_copy_70, eRiver_copy_73, eRiver_copy_76, tl_none, va_rf_some, k1, k5, k1', k5', n1, n2, n1', n2', z0, z6, not_false_eq_true, Int32.reduceToNatClampNeg, Nat.zero_add, Nat.le_refl, xkl_ref]
  generalize hI4 : xcI I3 (R' + 27) 0 (R + 27) 0 6 = I4
  have d1 : ∀ k, k < 6 → I4 (R + 27) k = I (R' + 27) k := by
    intro k hk
    rw [← hI4, ← hI3 _ (by omega) (by omega) (by omega) (by omega) (by omega) (by omega)]
    simp only [xcI_ap]
    simp (disch := omega) only [xu_hit, xu_miss, ite_n, ite_p, if_true, if_false, and_true, true_and, and_false, false_and, and_self, Nat.reduceEqDiff]
    congr 1
    omega
  have d2 : ∀ a, ¬ a = R + 27 → I4 a = I3 a := by
    intro a ha
    rw [← hI4]
    funext k
    simp only [xcI_ap]
    simp (disch := omega) only [xu_hit, xu_miss, ite_n, ite_p, if_true, if_false, and_true, true_and, and_false, false_and, and_self, Nat.reduceEqDiff]
  clear hI4
  obtain ⟨u11, u12, u13, u14⟩ := id u1
  obtain ⟨u11', u12', u13', u14'⟩ := id u1'
  obtain ⟨u21, u22, u23, u24⟩ := id u2
  obtain ⟨u21', u22', u23', u24'⟩ := id u2'
  have s0 : I (R' + 29) 1 = o (ln G 0) := ((q8 0 (by omega)).1).trans (e4 0 (by omega)).1
  have s1 : I (R' + 31) 1 = o (ln G 1) := ((q8 1 (by omega)).1).trans (e4 1 (by omega)).1
  have l0 := (e4 0 (by omega)).2
  have l1 := (e4 1 (by omega)).2
  rw [eRiver_copy_50]
  simp (disch := first | omega | (simp only [nar_0, nar_1, nar_b, and_self, Nat.reduceLeDiff, Nat.reduceLT, Int32.reduceToInt]; done) | fail) only [mRiver_copy, eRiver_copy_0, eRiver_copy_1, eRiver_copy_4, eRiver_copy_5, eRiver_copy_8, eRiver_copy_11, eRiver_copy_12, eRiver_copy_15, eRiver_copy_16, eRiver_copy_19, eRiver_copy_22, eRiver_copy_23, eRiver_copy_26, eRiver_copy_27, eRiver_copy_30, eRiver_copy_33, eRiver_copy_34, eRiver_copy_37, eRiver_copy_38, eRiver_copy_39, eRiver_copy_42, eRiver_copy_43, eRiver_copy_45, eRiver_copy_48, eRiver_copy_49, eRiver_copy_51, eRiver_copy_52, eRiver_copy_55, eRiver_copy_56, eRiver_copy_59, eRiver_copy_60, eRiver_copy_61, eRiver_copy_62, eRiver_copy_65, eRiver_copy_66, eRiver_copy_67, eRiver_copy_70, eRiver_copy_73, eRiver_copy_76, va_rf_some, xl_0, xl_1, xl_2, xl_3, xl_4, xl_5, xl_6, xl_7, xl_8, xl_458, xl_459, xl_460, and_false, false_and, tl_some, tl_none, xkl_int, xkl_ref, xkl_dm, xkl_long, true_and, and_true, o_cl, xin_o, lt_ti, le_ti, ito_o, t32_64, o_add1, oz, op0, op1, op2, op3, op4, op5, op6, op7, o8m, o3m, o161m, o461m, o48p, o66p, o72p, o136p, Int32.reduceToInt, Int32.reduceToNatClampNeg, i_10, i_01, le_om1, Int64.reduceToInt, ↓reduceIte, ite_n, ite_p, xu_hit, xu_miss, op11, not_true_eq_false, not_false_eq_true, decide_true, decide_false, bIt0, bIf0, and_self, Int.reduceLE, Int.reduceLT, Int32.reduceAdd, Nat.reduceLeDiff, Nat.reduceLT, Nat.reduceAdd, Nat.reduceMul, Nat.reduceEqDiff, Nat.add_zero, Nat.zero_add, k1, k6, k1', k6', x1, x2, x1', x2', y1, y1']
  refine c_tcopy u1 u1' (by omega) l0 (by rw [d2 _ (by omega), hI3 _ (by omega) (by omega) (by omega) (by omega) (by omega) (by omega)]; exact s0) (fun I5 f1 f2 f3 => ?_)
  simp (disch := first | omega | (simp only [nar_0, nar_1, nar_b, and_self, Nat.reduceLeDiff, Nat.reduceLT, Int32.reduceToInt]; done) | fail) only [mRiver_copy, eRiver_copy_0, eRiver_copy_1, eRiver_copy_4, eRiver_copy_5, eRiver_copy_8, eRiver_copy_11, eRiver_copy_12, eRiver_copy_15, eRiver_copy_16, eRiver_copy_19, eRiver_copy_22, eRiver_copy_23, eRiver_copy_26, eRiver_copy_27, eRiver_copy_30, eRiver_copy_33, eRiver_copy_34, eRiver_copy_37, eRiver_copy_38, eRiver_copy_39, eRiver_copy_42, eRiver_copy_43, eRiver_copy_45, eRiver_copy_48, eRiver_copy_49, eRiver_copy_51, eRiver_copy_52, eRiver_copy_55, eRiver_copy_56, eRiver_copy_59, eRiver_copy_60, eRiver_copy_61, eRiver_copy_62, eRiver_copy_65, eRiver_copy_66, eRiver_copy_67, eRiver_copy_70, eRiver_copy_73, eRiver_copy_76, va_rf_some, xl_0, xl_1, xl_2, xl_3, xl_4, xl_5, xl_6, xl_7, xl_8, xl_458, xl_459, xl_460, and_false, false_and, tl_some, tl_none, xkl_int, xkl_ref, xkl_dm, xkl_long, true_and, and_true, o_cl, xin_o, lt_ti, le_ti, ito_o, t32_64, o_add1, oz, op0, op1, op2, op3, op4, op5, op6, op7, o8m, o3m, o161m, o461m, o48p, o66p, o72p, o136p, Int32.reduceToInt, Int32.reduceToNatClampNeg, i_10, i_01, le_om1, Int64.reduceToInt, ↓reduceIte, ite_n, ite_p, xu_hit, xu_miss, op11, not_true_eq_false, not_false_eq_true, decide_true, decide_false, bIt0, bIf0, and_self, Int.reduceLE, Int.reduceLT, Int32.reduceAdd, Nat.reduceLeDiff, Nat.reduceLT, Nat.reduceAdd, Nat.reduceMul, Nat.reduceEqDiff, Nat.add_zero, Nat.zero_add, k1, k6, k1', k6', x1, x2, x1', x2', y2, y2']
  rw [eRiver_copy_50]
  simp (disch := first | omega | (simp only [nar_0, nar_1, nar_b, and_self, Nat.reduceLeDiff, Nat.reduceLT, Int32.reduceToInt]; done) | fail) only [mRiver_copy, eRiver_copy_0, eRiver_copy_1, eRiver_copy_4, eRiver_copy_5, eRiver_copy_8, eRiver_copy_11, eRiver_copy_12, eRiver_copy_15, eRiver_copy_16, eRiver_copy_19, eRiver_copy_22, eRiver_copy_23, eRiver_copy_26, eRiver_copy_27, eRiver_copy_30, eRiver_copy_33, eRiver_copy_34, eRiver_copy_37, eRiver_copy_38, eRiver_copy_39, eRiver_copy_42, eRiver_copy_43, eRiver_copy_45, eRiver_copy_48, eRiver_copy_49, eRiver_copy_51, eRiver_copy_52, eRiver_copy_55, eRiver_copy_56, eRiver_copy_59, eRiver_copy_60, eRiver_copy_61, eRiver_copy_62, eRiver_copy_65, eRiver_copy_66, eRiver_copy_67, eRiver_copy_70, eRiver_copy_73, eRiver_copy_76, va_rf_some, xl_0, xl_1, xl_2, xl_3, xl_4, xl_5, xl_6, xl_7, xl_8, xl_458, xl_459, xl_460, and_false, false_and, tl_some, tl_none, xkl_int, xkl_ref, xkl_dm, xkl_long, true_and, and_true, o_cl, xin_o, lt_ti, le_ti, ito_o, t32_64, o_add1, oz, op0, op1, op2, op3, op4, op5, op6, op7, o8m, o3m, o161m, o461m, o48p, o66p, o72p, o136p, Int32.reduceToInt, Int32.reduceToNatClampNeg, i_10, i_01, le_om1, Int64.reduceToInt, ↓reduceIte, ite_n, ite_p, xu_hit, xu_miss, op11, not_true_eq_false, not_false_eq_true, decide_true, decide_false, bIt0, bIf0, and_self, Int.reduceLE, Int.reduceLT, Int32.reduceAdd, Nat.reduceLeDiff, Nat.reduceLT, Nat.reduceAdd, Nat.reduceMul, Nat.reduceEqDiff, Nat.add_zero, Nat.zero_add, k1, k6, k1', k6', x1, x2, x1', x2', y2, y2']
  refine c_tcopy u2 u2' (by omega) l1 (by rw [f3 _ (by omega) (by omega), d2 _ (by omega), hI3 _ (by omega) (by omega) (by omega) (by omega) (by omega) (by omega)]; exact s1) (fun I6 g1' g2' g3' => ?_)
  simp (disch := first | omega | (simp only [nar_0, nar_1, nar_b, and_self, Nat.reduceLeDiff, Nat.reduceLT, Int32.reduceToInt]; done) | fail) only [mRiver_copy, eRiver_copy_0, eRiver_copy_1, eRiver_copy_4, eRiver_copy_5, eRiver_copy_8, eRiver_copy_11, eRiver_copy_12, eRiver_copy_15, eRiver_copy_16, eRiver_copy_19, eRiver_copy_22, eRiver_copy_23, eRiver_copy_26, eRiver_copy_27, eRiver_copy_30, eRiver_copy_33, eRiver_copy_34, eRiver_copy_37, eRiver_copy_38, eRiver_copy_39, eRiver_copy_42, eRiver_copy_43, eRiver_copy_45, eRiver_copy_48, eRiver_copy_49, eRiver_copy_51, eRiver_copy_52, eRiver_copy_55, eRiver_copy_56, eRiver_copy_59, eRiver_copy_60, eRiver_copy_61, eRiver_copy_62, eRiver_copy_65, eRiver_copy_66, eRiver_copy_67, eRiver_copy_70, eRiver_copy_73, eRiver_copy_76, va_rf_some, xl_0, xl_1, xl_2, xl_3, xl_4, xl_5, xl_6, xl_7, xl_8, xl_458, xl_459, xl_460, and_false, false_and, tl_some, tl_none, xkl_int, xkl_ref, xkl_dm, xkl_long, true_and, and_true, o_cl, xin_o, lt_ti, le_ti, ito_o, t32_64, o_add1, oz, op0, op1, op2, op3, op4, op5, op6, op7, o8m, o3m, o161m, o461m, o48p, o66p, o72p, o136p, Int32.reduceToInt, Int32.reduceToNatClampNeg, i_10, i_01, le_om1, Int64.reduceToInt, ↓reduceIte, ite_n, ite_p, xu_hit, xu_miss, op11, not_true_eq_false, not_false_eq_true, decide_true, decide_false, bIt0, bIf0, and_self, Int.reduceLE, Int.reduceLT, Int32.reduceAdd, Nat.reduceLeDiff, Nat.reduceLT, Nat.reduceAdd, Nat.reduceMul, Nat.reduceEqDiff, Nat.add_zero, Nat.zero_add, k1, k6, k1', k6']
  rw [eRiver_copy_50]
  simp (disch := first | omega | (simp only [nar_0, nar_1, nar_b, and_self, Nat.reduceLeDiff, Nat.reduceLT, Int32.reduceToInt]; done) | fail) only [mRiver_copy, eRiver_copy_0, eRiver_copy_1, eRiver_copy_4, eRiver_copy_5, eRiver_copy_8, eRiver_copy_11, eRiver_copy_12, eRiver_copy_15, eRiver_copy_16, eRiver_copy_19, eRiver_copy_22, eRiver_copy_23, eRiver_copy_26, eRiver_copy_27, eRiver_copy_30, eRiver_copy_33, eRiver_copy_34, eRiver_copy_37, eRiver_copy_38, eRiver_copy_39, eRiver_copy_42, eRiver_copy_43, eRiver_copy_45, eRiver_copy_48, eRiver_copy_49, eRiver_copy_51, eRiver_copy_52, eRiver_copy_55, eRiver_copy_56, eRiver_copy_59, eRiver_copy_60, eRiver_copy_61, eRiver_copy_62, eRiver_copy_65, eRiver_copy_66, eRiver_copy_67, eRiver_copy_70, eRiver_copy_73, eRiver_copy_76, va_rf_some, xl_0, xl_1, xl_2, xl_3, xl_4, xl_5, xl_6, xl_7, xl_8, xl_458, xl_459, xl_460, and_false, false_and, tl_some, tl_none, xkl_int, xkl_ref, xkl_dm, xkl_long, true_and, and_true, o_cl, xin_o, lt_ti, le_ti, ito_o, t32_64, o_add1, oz, op0, op1, op2, op3, op4, op5, op6, op7, o8m, o3m, o161m, o461m, o48p, o66p, o72p, o136p, Int32.reduceToInt, Int32.reduceToNatClampNeg, i_10, i_01, le_om1, Int64.reduceToInt, ↓reduceIte, ite_n, ite_p, xu_hit, xu_miss, op11, not_true_eq_false, not_false_eq_true, decide_true, decide_false, bIt0, bIf0, and_self, Int.reduceLE, Int.reduceLT, Int32.reduceAdd, Nat.reduceLeDiff, Nat.reduceLT, Nat.reduceAdd, Nat.reduceMul, Nat.reduceEqDiff, Nat.add_zero, Nat.zero_add]
  have m3 : ∀ a, ¬ a = R + 31 → ¬ a = R + 32 → ¬ a = R + 29 → ¬ a = R + 30 → ¬ a = R + 27 → I6 a = I3 a := by
    intro a z1 z2 z3 z4 z5
    rw [g3' _ (by omega) (by omega), f3 _ (by omega) (by omega), d2 _ (by omega)]
  refine hQ I6 ⟨?_, ?_, ?_, fun l k hl hk => ?_, fun l k hl hk => ?_, fun k hk => ?_, fun l k hl hk => ?_, fun t ht => ?_⟩ ⟨?_, ?_, ?_⟩ (fun a ha => ?_)
  · rw [m3 _ (by omega) (by omega) (by omega) (by omega) (by omega), c4 _ (by omega) (by omega), b4 _ (by omega) (by omega), a1]; exact e1.symm
  · rw [m3 _ (by omega) (by omega) (by omega) (by omega) (by omega), c4 _ (by omega) (by omega), b1]; exact e2.symm
  · rw [m3 _ (by omega) (by omega) (by omega) (by omega) (by omega), c1]; exact e3.symm
  · rw [m3 _ (by omega) (by omega) (by omega) (by omega) (by omega), c4 _ (by omega) (by omega), b4 _ (by omega) (by omega)]
    exact (a3 l k hl hk).trans (q4 l k hl hk)
  · rw [m3 _ (by omega) (by omega) (by omega) (by omega) (by omega), c4 _ (by omega) (by omega)]
    refine (b3 l k hl hk).trans ?_
    rw [a4 _ (by omega) (by omega)]
    exact q5 l k hl hk
  · rw [g3' _ (by omega) (by omega), f3 _ (by omega) (by omega), d1 k hk]; exact q6 k hk
  · rw [m3 _ (by omega) (by omega) (by omega) (by omega) (by omega)]
    refine (c3 l k hl hk).trans ?_
    rw [b4 _ (by omega) (by omega), a4 _ (by omega) (by omega)]
    exact q7 l k hl hk
  · match t, ht with
    | 0, _ =>
      refine ⟨?_, fun i hi => ?_⟩
      · rw [g3' _ (by omega) (by omega)]; exact f1.trans (e4 0 (by omega)).1.symm
      · rw [g3' _ (by omega) (by omega)]
        refine (f2 i hi).trans ?_
        rw [d2 _ (by omega), hI3 _ (by omega) (by omega) (by omega) (by omega) (by omega) (by omega)]
        exact (q8 0 (by omega)).2 i hi
    | 1, _ =>
      refine ⟨g1'.trans (e4 1 (by omega)).1.symm, fun i hi => ?_⟩
      refine (g2' i hi).trans ?_
      rw [f3 _ (by omega) (by omega), d2 _ (by omega), hI3 _ (by omega) (by omega) (by omega) (by omega) (by omega) (by omega)]
      exact (q8 1 (by omega)).2 i hi
    | t + 2, h => omega
  · rw [m3 _ (by omega) (by omega) (by omega) (by omega) (by omega), c4 _ (by omega) (by omega), b4 _ (by omega) (by omega), a2]
  · rw [m3 _ (by omega) (by omega) (by omega) (by omega) (by omega), c4 _ (by omega) (by omega), b2]
  · rw [m3 _ (by omega) (by omega) (by omega) (by omega) (by omega), c2]
  · rw [m3 _ (by omega) (by omega) (by omega) (by omega) (by omega), hI3 _ (by omega) (by omega) (by omega) (by omega) (by omega) (by omega)]
end
