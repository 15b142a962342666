/-! VOYAGES: what their steps do, over the class's cells, shifted -/
abbrev Sv : Type := Nat → Nat → Int32
def wr (v : Nat) (S : Sv) (I : Iv) : Iv := fun b k => if v ≤ b then S (b - v) k else I b k
theorem wr_0 {v k : Nat} {S : Sv} {I : Iv} : wr v S I v k = S 0 k := by
  unfold wr
  rw [if_pos (Nat.le_refl v), Nat.sub_self]
theorem wr_at {v a k : Nat} {S : Sv} {I : Iv} : wr v S I (v + a) k = S a k := by
  unfold wr
  rw [if_pos (Nat.le_add_right v a), Nat.add_sub_cancel_left]
theorem wr_lt {v b k : Nat} {S : Sv} {I : Iv} (h : b < v) : wr v S I b k = I b k := if_neg (by omega)
theorem xu_wr {v a k : Nat} {x : Int32} {S : Sv} {I : Iv} : xuI (wr v S I) (v + a) k x = wr v (xuI S a k x) I := by
  funext b j
  unfold wr xuI
  grind
theorem xu_wr0 {v k : Nat} {x : Int32} {S : Sv} {I : Iv} : xuI (wr v S I) v k x = wr v (xuI S 0 k x) I := by
  funext b j
  unfold wr xuI
  grind
theorem wr_rd (v : Nat) (I : Iv) : I = wr v (fun a k => I (v + a) k) I := by
  funext b j
  unfold wr
  by_cases h : v ≤ b
  · rw [if_pos h]
    congr 1
    omega
  · rw [if_neg h]
def VY (v : Nat) : Prop := KD v = 7 ∧ P0 v 0 = some 1 ∧ (P0 v 1 = some (v + 1) ∧ KD (v + 1) = 10 ∧ LN (v + 1) = 6) ∧ (P0 v 2 = some (v + 2) ∧ KD (v + 2) = 10 ∧ LN (v + 2) = 6) ∧ (P0 v 3 = some (v + 3) ∧ KD (v + 3) = 10 ∧ LN (v + 3) = 8) ∧ (P0 v 4 = some (v + 4) ∧ KD (v + 4) = 10 ∧ LN (v + 4) = 8) ∧ (P0 v 5 = some (v + 5) ∧ KD (v + 5) = 10 ∧ LN (v + 5) = 8) ∧ 101 < v
theorem VY_111 : VY 111 := ⟨KD_111, P0_111_0, ⟨P0_111_1, KD_112, LN_112⟩, ⟨P0_111_2, KD_113, LN_113⟩, ⟨P0_111_3, KD_114, LN_114⟩, ⟨P0_111_4, KD_115, LN_115⟩, ⟨P0_111_5, KD_116, LN_116⟩, by omega⟩
theorem VY_121 : VY 121 := ⟨KD_121, P0_121_0, ⟨P0_121_1, KD_122, LN_122⟩, ⟨P0_121_2, KD_123, LN_123⟩, ⟨P0_121_3, KD_124, LN_124⟩, ⟨P0_121_4, KD_125, LN_125⟩, ⟨P0_121_5, KD_126, LN_126⟩, by omega⟩
theorem VY_127 : VY 127 := ⟨KD_127, P0_127_0, ⟨P0_127_1, KD_128, LN_128⟩, ⟨P0_127_2, KD_129, LN_129⟩, ⟨P0_127_3, KD_130, LN_130⟩, ⟨P0_127_4, KD_131, LN_131⟩, ⟨P0_127_5, KD_132, LN_132⟩, by omega⟩
theorem VY_133 : VY 133 := ⟨KD_133, P0_133_0, ⟨P0_133_1, KD_134, LN_134⟩, ⟨P0_133_2, KD_135, LN_135⟩, ⟨P0_133_3, KD_136, LN_136⟩, ⟨P0_133_4, KD_137, LN_137⟩, ⟨P0_133_5, KD_138, LN_138⟩, by omega⟩
theorem VY_139 : VY 139 := ⟨KD_139, P0_139_0, ⟨P0_139_1, KD_140, LN_140⟩, ⟨P0_139_2, KD_141, LN_141⟩, ⟨P0_139_3, KD_142, LN_142⟩, ⟨P0_139_4, KD_143, LN_143⟩, ⟨P0_139_5, KD_144, LN_144⟩, by omega⟩
theorem VY_145 : VY 145 := ⟨KD_145, P0_145_0, ⟨P0_145_1, KD_146, LN_146⟩, ⟨P0_145_2, KD_147, LN_147⟩, ⟨P0_145_3, KD_148, LN_148⟩, ⟨P0_145_4, KD_149, LN_149⟩, ⟨P0_145_5, KD_150, LN_150⟩, by omega⟩
def wtF (G : Gv) (S : Sv) : Nat → Int32
  | 0 => 0
  | n + 1 => wtF G S n + S 1 n * G (48 + 3 * n)
def spoilF (G : Gv) (S : Sv) : Sv := fun a k => if a = 1 ∧ k < gt G then S 1 k - S 1 k * G (48 + 3 * k + 1) / 100 else S a k
def eatF (G : Gv) (S : Sv) : Sv := if G 68 = -1 then S else if (S 1 (G 68).toNatClampNeg).toInt < (G 67).toInt then xuI S 0 8 1 else xuI S 1 (G 68).toNatClampNeg (S 1 (G 68).toNatClampNeg - G 67)
def cbk (G : Gv) (S : Sv) (k : Nat) : Bool := decide (0 < (S 3 k).toInt ∧ 0 < (G (72 + 8 * k + 6)).toInt ∧ S 0 7 - S 0 7 / G (72 + 8 * k + 6) * G (72 + 8 * k + 6) = 0)
def comeF (G : Gv) (S : Sv) : Sv := fun a k => if a = 3 ∧ k < gc G ∧ cbk G S k = true then S 3 k - 1 else S a k
section
variable {E : XE} {d : Nat} {I : Iv} {J : Jv} {Q : XQt} {G : Gv} {v : Nat}
theorem vweight_loop {S : Sv} (hv : VY v) (hF : RF G I) (hG : OkS G) : ∀ (m j : Nat), j + m = gt G → X E d 55 4 [.ref v, .int (wtF G S j), .int (o j)] [] (wr v S I) J Q = Q (some (.int (wtF G S (gt G)))) (wr v S I) J
  | 0, j, h => by
    obtain ⟨v0, v1, ⟨v2, v3, v4⟩, -, -, -, -, vv⟩ := hv
    obtain ⟨r2, r10, r18, rL, rT, rN, rC, rX⟩ := hF
    obtain ⟨⟨e1, g1⟩, ⟨e2, g2⟩, ⟨e3, g3⟩, e4, oL, oT, oN, oC⟩ := hG
    have e : j = gt G := by omega
    subst e
    have hj : ((gt G : Nat) : Int) ≤ ((gt G : Nat) : Int) := by omega
    rw [eVoyage_weight_4]
    simp (disch := first | omega | (simp only [nar_0, nar_1, nar_b, and_self, Nat.reduceLeDiff, Nat.reduceLT, Int32.reduceToInt, KD_1, LN_1, P0_1_0, P0_1_1, P0_1_2, P0_1_3, P0_1_4, KD_10, LN_10, P0_10_0]; done) | fail) only [mVoyage_weight, eVoyage_weight_0, eVoyage_weight_1, eVoyage_weight_2, eVoyage_weight_3, eVoyage_weight_5, eVoyage_weight_6, eVoyage_weight_9, eVoyage_weight_12, eVoyage_weight_15, eVoyage_weight_18, eVoyage_weight_19, eVoyage_weight_20, eVoyage_weight_23, eVoyage_weight_24, eVoyage_weight_25, eVoyage_weight_26, eVoyage_weight_29, eVoyage_weight_32, eVoyage_weight_35, eVoyage_weight_36, eVoyage_weight_37, eVoyage_weight_38, eVoyage_weight_39, eVoyage_weight_40, eVoyage_weight_41, eVoyage_weight_42, eVoyage_weight_45, eVoyage_weight_48, eVoyage_weight_49, KD_1, LN_1, P0_1_0, P0_1_1, P0_1_2, P0_1_3, P0_1_4, KD_10, LN_10, P0_10_0, va_rf_some, xl_0, xl_1, xl_2, xl_3, xl_4, xl_5, xl_6, xl_7, xl_8, xl_458, xl_459, xl_460, and_false, false_and, tl_some, tl_none, xkl_int, xkl_ref, xkl_dm, xkl_long, true_and, and_true, o_cl, xin_o, lt_ti, le_ti, ito_o, t32_64, o_add1, oz, op0, op1, op2, op3, op4, op5, op6, op7, o8m, o3m, o161m, o461m, o48p, o66p, o72p, o136p, Int32.reduceToInt, Int32.reduceToNatClampNeg, i_10, i_01, le_om1, Int64.reduceToInt, ↓reduceIte, ite_n, ite_p, xu_hit, xu_miss, op11, not_true_eq_false, not_false_eq_true, decide_true, decide_false, bIt0, bIf0, and_self, Int.reduceLE, Int.reduceLT, Int32.reduceAdd, Nat.reduceLeDiff, Nat.reduceLT, Nat.reduceAdd, Nat.reduceMul, Nat.reduceEqDiff, Nat.add_zero, Nat.zero_add, v0, v1, wr_lt, r10, hj]
  | m + 1, j, h => by
    have ih := vweight_loop (S := S) hv hF hG m (j + 1) (by omega)
    obtain ⟨v0, v1, ⟨v2, v3, v4⟩, -, -, -, -, vv⟩ := hv
    obtain ⟨r2, r10, r18, rL, rT, rN, rC, rX⟩ := hF
    obtain ⟨⟨e1, g1⟩, ⟨e2, g2⟩, ⟨e3, g3⟩, e4, oL, oT, oN, oC⟩ := hG
    have hj : ¬ ((gt G : Nat) : Int) ≤ (j : Int) := by omega
    obtain ⟨k1, k2, k3⟩ := LK_T (by omega : j < 6)
    have k5 : j < 6 := by omega
    have a1 : I (12 + j) 0 = G (48 + 3 * j) := rT j 0 (by omega) (by omega)
    rw [eVoyage_weight_4]
    simp (disch := first | omega | (simp only [nar_0, nar_1, nar_b, and_self, Nat.reduceLeDiff, Nat.reduceLT, Int32.reduceToInt, KD_1, LN_1, P0_1_0, P0_1_1, P0_1_2, P0_1_3, P0_1_4, KD_10, LN_10, P0_10_0, KD_11, LN_11, P0_11_0, P0_11_1, P0_11_2, P0_11_3, P0_11_4, P0_11_5]; done) | fail) only [mVoyage_weight, eVoyage_weight_0, eVoyage_weight_1, eVoyage_weight_2, eVoyage_weight_3, eVoyage_weight_5, eVoyage_weight_6, eVoyage_weight_9, eVoyage_weight_12, eVoyage_weight_15, eVoyage_weight_18, eVoyage_weight_19, eVoyage_weight_20, eVoyage_weight_23, eVoyage_weight_24, eVoyage_weight_25, eVoyage_weight_26, eVoyage_weight_29, eVoyage_weight_32, eVoyage_weight_35, eVoyage_weight_36, eVoyage_weight_37, eVoyage_weight_38, eVoyage_weight_39, eVoyage_weight_40, eVoyage_weight_41, eVoyage_weight_42, eVoyage_weight_45, eVoyage_weight_48, eVoyage_weight_49, KD_1, LN_1, P0_1_0, P0_1_1, P0_1_2, P0_1_3, P0_1_4, KD_10, LN_10, P0_10_0, KD_11, LN_11, P0_11_0, P0_11_1, P0_11_2, P0_11_3, P0_11_4, P0_11_5, va_rf_some, xl_0, xl_1, xl_2, xl_3, xl_4, xl_5, xl_6, xl_7, xl_8, xl_458, xl_459, xl_460, and_false, false_and, tl_some, tl_none, xkl_int, xkl_ref, xkl_dm, xkl_long, true_and, and_true, o_cl, xin_o, lt_ti, le_ti, ito_o, t32_64, o_add1, oz, op0, op1, op2, op3, op4, op5, op6, op7, o8m, o3m, o161m, o461m, o48p, o66p, o72p, o136p, Int32.reduceToInt, Int32.reduceToNatClampNeg, i_10, i_01, le_om1, Int64.reduceToInt, ↓reduceIte, ite_n, ite_p, xu_hit, xu_miss, op11, not_true_eq_false, not_false_eq_true, decide_true, decide_false, bIt0, bIf0, and_self, Int.reduceLE, Int.reduceLT, Int32.reduceAdd, Nat.reduceLeDiff, Nat.reduceLT, Nat.reduceAdd, Nat.reduceMul, Nat.reduceEqDiff, Nat.add_zero, Nat.zero_add, v0, v1, v2, v3, v4, wr_lt, wr_0, wr_at, r10, hj, k1, k2, k3, k5, a1]
    exact ih
theorem v_weight {S : Sv} (hv : VY v) (hF : RF G I) (hG : OkS G) : XM E d 55 [.ref v] (wr v S I) J Q = Q (some (.int (wtF G S (gt G)))) (wr v S I) J := by
  simp (disch := first | omega | (simp only [nar_0, nar_1, nar_b, and_self, Nat.reduceLeDiff, Nat.reduceLT, Int32.reduceToInt]; done) | fail) only [mVoyage_weight, eVoyage_weight_0, eVoyage_weight_1, eVoyage_weight_2, eVoyage_weight_3, eVoyage_weight_5, eVoyage_weight_6, eVoyage_weight_9, eVoyage_weight_12, eVoyage_weight_15, eVoyage_weight_18, eVoyage_weight_19, eVoyage_weight_20, eVoyage_weight_23, eVoyage_weight_24, eVoyage_weight_25, eVoyage_weight_26, eVoyage_weight_29, eVoyage_weight_32, eVoyage_weight_35, eVoyage_weight_36, eVoyage_weight_37, eVoyage_weight_38, eVoyage_weight_39, eVoyage_weight_40, eVoyage_weight_41, eVoyage_weight_42, eVoyage_weight_45, eVoyage_weight_48, eVoyage_weight_49, va_rf_some, xl_0, xl_1, xl_2, xl_3, xl_4, xl_5, xl_6, xl_7, xl_8, xl_458, xl_459, xl_460, and_false, false_and, tl_some, tl_none, xkl_int, xkl_ref, xkl_dm, xkl_long, true_and, and_true, o_cl, xin_o, lt_ti, le_ti, ito_o, t32_64, o_add1, oz, op0, op1, op2, op3, op4, op5, op6, op7, o8m, o3m, o161m, o461m, o48p, o66p, o72p, o136p, Int32.reduceToInt, Int32.reduceToNatClampNeg, i_10, i_01, le_om1, Int64.reduceToInt, ↓reduceIte, ite_n, ite_p, xu_hit, xu_miss, op11, not_true_eq_false, not_false_eq_true, decide_true, decide_false, bIt0, bIf0, and_self, Int.reduceLE, Int.reduceLT, Int32.reduceAdd, Nat.reduceLeDiff, Nat.reduceLT, Nat.reduceAdd, Nat.reduceMul, Nat.reduceEqDiff, Nat.add_zero, Nat.zero_add]
  exact vweight_loop hv hF hG (gt G) 0 (by omega)
theorem vspoil_loop (hv : VY v) (hF : RF G I) (hG : OkS G) : ∀ (m j : Nat) (S : Sv), j + m = gt G → X E d 51 2 [.ref v, .int (o j)] [] (wr v S I) J Q = Q none (wr v (fun a k => if a = 1 ∧ j ≤ k ∧ k < gt G then S 1 k - S 1 k * G (48 + 3 * k + 1) / 100 else S a k) I) J
  | 0, j, S, h => by
    obtain ⟨v0, v1, ⟨v2, v3, v4⟩, -, -, -, -, vv⟩ := hv
    obtain ⟨r2, r10, r18, rL, rT, rN, rC, rX⟩ := hF
    obtain ⟨⟨e1, g1⟩, ⟨e2, g2⟩, ⟨e3, g3⟩, e4, oL, oT, oN, oC⟩ := hG
    have e : j = gt G := by omega
    subst e
    have hj : ((gt G : Nat) : Int) ≤ ((gt G : Nat) : Int) := by omega
    rw [eVoyage_spoil_2]
    simp (disch := first | omega | (simp only [nar_0, nar_1, nar_b, and_self, Nat.reduceLeDiff, Nat.reduceLT, Int32.reduceToInt, KD_1, LN_1, P0_1_0, P0_1_1, P0_1_2, P0_1_3, P0_1_4, KD_10, LN_10, P0_10_0]; done) | fail) only [mVoyage_spoil, eVoyage_spoil_0, eVoyage_spoil_1, eVoyage_spoil_3, eVoyage_spoil_4, eVoyage_spoil_7, eVoyage_spoil_10, eVoyage_spoil_13, eVoyage_spoil_16, eVoyage_spoil_17, eVoyage_spoil_20, eVoyage_spoil_21, eVoyage_spoil_22, eVoyage_spoil_23, eVoyage_spoil_24, eVoyage_spoil_27, eVoyage_spoil_28, eVoyage_spoil_29, eVoyage_spoil_30, eVoyage_spoil_33, eVoyage_spoil_36, eVoyage_spoil_39, eVoyage_spoil_40, eVoyage_spoil_41, eVoyage_spoil_42, eVoyage_spoil_43, eVoyage_spoil_44, eVoyage_spoil_46, eVoyage_spoil_47, eVoyage_spoil_48, eVoyage_spoil_49, eVoyage_spoil_52, eVoyage_spoil_55, KD_1, LN_1, P0_1_0, P0_1_1, P0_1_2, P0_1_3, P0_1_4, KD_10, LN_10, P0_10_0, va_rf_some, xl_0, xl_1, xl_2, xl_3, xl_4, xl_5, xl_6, xl_7, xl_8, xl_458, xl_459, xl_460, and_false, false_and, tl_some, tl_none, xkl_int, xkl_ref, xkl_dm, xkl_long, true_and, and_true, o_cl, xin_o, lt_ti, le_ti, ito_o, t32_64, o_add1, oz, op0, op1, op2, op3, op4, op5, op6, op7, o8m, o3m, o161m, o461m, o48p, o66p, o72p, o136p, Int32.reduceToInt, Int32.reduceToNatClampNeg, i_10, i_01, le_om1, Int64.reduceToInt, ↓reduceIte, ite_n, ite_p, xu_hit, xu_miss, op11, not_true_eq_false, not_false_eq_true, decide_true, decide_false, bIt0, bIf0, and_self, Int.reduceLE, Int.reduceLT, Int32.reduceAdd, Nat.reduceLeDiff, Nat.reduceLT, Nat.reduceAdd, Nat.reduceMul, Nat.reduceEqDiff, Nat.add_zero, Nat.zero_add, v0, v1, wr_lt, r10, hj]
  | m + 1, j, S, h => by
    have ih := fun S => vspoil_loop hv hF hG m (j + 1) S (by omega)
    obtain ⟨v0, v1, ⟨v2, v3, v4⟩, -, -, -, -, vv⟩ := hv
    obtain ⟨r2, r10, r18, rL, rT, rN, rC, rX⟩ := hF
    obtain ⟨⟨e1, g1⟩, ⟨e2, g2⟩, ⟨e3, g3⟩, e4, oL, oT, oN, oC⟩ := hG
    have hj : ¬ ((gt G : Nat) : Int) ≤ (j : Int) := by omega
    obtain ⟨k1, k2, k3⟩ := LK_T (by omega : j < 6)
    have k5 : j < 6 := by omega
    have a1 : I (12 + j) 1 = G (48 + 3 * j + 1) := rT j 1 (by omega) (by omega)
    have i100 : ¬ (100 : Int32) = 0 := by decide
    rw [eVoyage_spoil_2]
    simp (disch := first | omega | (simp only [nar_0, nar_1, nar_b, and_self, Nat.reduceLeDiff, Nat.reduceLT, Int32.reduceToInt, KD_1, LN_1, P0_1_0, P0_1_1, P0_1_2, P0_1_3, P0_1_4, KD_10, LN_10, P0_10_0, KD_11, LN_11, P0_11_0, P0_11_1, P0_11_2, P0_11_3, P0_11_4, P0_11_5]; done) | fail) only [mVoyage_spoil, eVoyage_spoil_0, eVoyage_spoil_1, eVoyage_spoil_3, eVoyage_spoil_4, eVoyage_spoil_7, eVoyage_spoil_10, eVoyage_spoil_13, eVoyage_spoil_16, eVoyage_spoil_17, eVoyage_spoil_20, eVoyage_spoil_21, eVoyage_spoil_22, eVoyage_spoil_23, eVoyage_spoil_24, eVoyage_spoil_27, eVoyage_spoil_28, eVoyage_spoil_29, eVoyage_spoil_30, eVoyage_spoil_33, eVoyage_spoil_36, eVoyage_spoil_39, eVoyage_spoil_40, eVoyage_spoil_41, eVoyage_spoil_42, eVoyage_spoil_43, eVoyage_spoil_44, eVoyage_spoil_46, eVoyage_spoil_47, eVoyage_spoil_48, eVoyage_spoil_49, eVoyage_spoil_52, eVoyage_spoil_55, KD_1, LN_1, P0_1_0, P0_1_1, P0_1_2, P0_1_3, P0_1_4, KD_10, LN_10, P0_10_0, KD_11, LN_11, P0_11_0, P0_11_1, P0_11_2, P0_11_3, P0_11_4, P0_11_5, va_rf_some, xl_0, xl_1, xl_2, xl_3, xl_4, xl_5, xl_6, xl_7, xl_8, xl_458, xl_459, xl_460, and_false, false_and, tl_some, tl_none, xkl_int, xkl_ref, xkl_dm, xkl_long, true_and, and_true, o_cl, xin_o, lt_ti, le_ti, ito_o, t32_64, o_add1, oz, op0, op1, op2, op3, op4, op5, op6, op7, o8m, o3m, o161m, o461m, o48p, o66p, o72p, o136p, Int32.reduceToInt, Int32.reduceToNatClampNeg, i_10, i_01, le_om1, Int64.reduceToInt, ↓reduceIte, ite_n, ite_p, xu_hit, xu_miss, op11, not_true_eq_false, not_false_eq_true, decide_true, decide_false, bIt0, bIf0, and_self, Int.reduceLE, Int.reduceLT, Int32.reduceAdd, Nat.reduceLeDiff, Nat.reduceLT, Nat.reduceAdd, Nat.reduceMul, Nat.reduceEqDiff, Nat.add_zero, Nat.zero_add, v0, v1, v2, v3, v4, wr_lt, wr_0, wr_at, r10, hj, k1, k2, k3, k5, a1, i100, xu_wr]
    rw [ih]
    congr 2
    funext a k
    simp only [xuI_ap]
    grind
theorem v_spoil {S : Sv} (hv : VY v) (hF : RF G I) (hG : OkS G) : XM E d 51 [.ref v] (wr v S I) J Q = Q none (wr v (spoilF G S) I) J := by
  simp (disch := first | omega | (simp only [nar_0, nar_1, nar_b, and_self, Nat.reduceLeDiff, Nat.reduceLT, Int32.reduceToInt]; done) | fail) only [mVoyage_spoil, eVoyage_spoil_0, eVoyage_spoil_1, eVoyage_spoil_3, eVoyage_spoil_4, eVoyage_spoil_7, eVoyage_spoil_10, eVoyage_spoil_13, eVoyage_spoil_16, eVoyage_spoil_17, eVoyage_spoil_20, eVoyage_spoil_21, eVoyage_spoil_22, eVoyage_spoil_23, eVoyage_spoil_24, eVoyage_spoil_27, eVoyage_spoil_28, eVoyage_spoil_29, eVoyage_spoil_30, eVoyage_spoil_33, eVoyage_spoil_36, eVoyage_spoil_39, eVoyage_spoil_40, eVoyage_spoil_41, eVoyage_spoil_42, eVoyage_spoil_43, eVoyage_spoil_44, eVoyage_spoil_46, eVoyage_spoil_47, eVoyage_spoil_48, eVoyage_spoil_49, eVoyage_spoil_52, eVoyage_spoil_55, va_rf_some, xl_0, xl_1, xl_2, xl_3, xl_4, xl_5, xl_6, xl_7, xl_8, xl_458, xl_459, xl_460, and_false, false_and, tl_some, tl_none, xkl_int, xkl_ref, xkl_dm, xkl_long, true_and, and_true, o_cl, xin_o, lt_ti, le_ti, ito_o, t32_64, o_add1, oz, op0, op1, op2, op3, op4, op5, op6, op7, o8m, o3m, o161m, o461m, o48p, o66p, o72p, o136p, Int32.reduceToInt, Int32.reduceToNatClampNeg, i_10, i_01, le_om1, Int64.reduceToInt, ↓reduceIte, ite_n, ite_p, xu_hit, xu_miss, op11, not_true_eq_false, not_false_eq_true, decide_true, decide_false, bIt0, bIf0, and_self, Int.reduceLE, Int.reduceLT, Int32.reduceAdd, Nat.reduceLeDiff, Nat.reduceLT, Nat.reduceAdd, Nat.reduceMul, Nat.reduceEqDiff, Nat.add_zero, Nat.zero_add]
  have := vspoil_loop (E := E) (d := d) (J := J) (Q := Q) hv hF hG (gt G) 0 S (by omega)
  simp only [Nat.zero_le, true_and] at this
  exact this
theorem v_eat {S : Sv} (hv : VY v) (hF : RF G I) (hG : OkS G) : XM E d 52 [.ref v] (wr v S I) J Q = Q none (wr v (eatF G S) I) J := by
  obtain ⟨v0, v1, ⟨v2, v3, v4⟩, -, -, -, -, vv⟩ := hv
  obtain ⟨r2, r10, r18, rL, rT, rN, rC, rX⟩ := hF
  obtain ⟨⟨e1, g1⟩, ⟨e2, g2⟩, ⟨e3, g3⟩, e4, oL, oT, oN, oC⟩ := hG
  obtain ⟨o1, o2, o3, o4, o5, o6⟩ := oN
  have n1 : I 28 1 = G 67 := rN 1 (by omega)
  have n2 : I 28 2 = G 68 := rN 2 (by omega)
  unfold eatF
  by_cases hf : G 68 = -1
  · rw [if_pos hf]
    rw [hf] at n2
    simp (disch := first | omega | (simp only [nar_0, nar_1, nar_b, and_self, Nat.reduceLeDiff, Nat.reduceLT, Int32.reduceToInt, KD_1, LN_1, P0_1_0, P0_1_1, P0_1_2, P0_1_3, P0_1_4, KD_28, LN_28]; done) | fail) only [mVoyage_eat, eVoyage_eat_0, eVoyage_eat_1, eVoyage_eat_4, eVoyage_eat_7, eVoyage_eat_8, eVoyage_eat_9, eVoyage_eat_10, eVoyage_eat_11, eVoyage_eat_12, eVoyage_eat_15, eVoyage_eat_16, eVoyage_eat_17, eVoyage_eat_20, eVoyage_eat_23, eVoyage_eat_24, eVoyage_eat_25, eVoyage_eat_26, eVoyage_eat_27, eVoyage_eat_30, eVoyage_eat_31, eVoyage_eat_32, eVoyage_eat_33, eVoyage_eat_36, eVoyage_eat_37, eVoyage_eat_38, eVoyage_eat_41, eVoyage_eat_44, eVoyage_eat_45, eVoyage_eat_48, eVoyage_eat_49, eVoyage_eat_50, eVoyage_eat_51, eVoyage_eat_52, eVoyage_eat_53, eVoyage_eat_54, KD_1, LN_1, P0_1_0, P0_1_1, P0_1_2, P0_1_3, P0_1_4, KD_28, LN_28, va_rf_some, xl_0, xl_1, xl_2, xl_3, xl_4, xl_5, xl_6, xl_7, xl_8, xl_458, xl_459, xl_460, and_false, false_and, tl_some, tl_none, xkl_int, xkl_ref, xkl_dm, xkl_long, true_and, and_true, o_cl, xin_o, lt_ti, le_ti, ito_o, t32_64, o_add1, oz, op0, op1, op2, op3, op4, op5, op6, op7, o8m, o3m, o161m, o461m, o48p, o66p, o72p, o136p, Int32.reduceToInt, Int32.reduceToNatClampNeg, i_10, i_01, le_om1, Int64.reduceToInt, ↓reduceIte, ite_n, ite_p, xu_hit, xu_miss, op11, not_true_eq_false, not_false_eq_true, decide_true, decide_false, bIt0, bIf0, and_self, Int.reduceLE, Int.reduceLT, Int32.reduceAdd, Nat.reduceLeDiff, Nat.reduceLT, Nat.reduceAdd, Nat.reduceMul, Nat.reduceEqDiff, Nat.add_zero, Nat.zero_add, v0, v1, wr_lt, n1, n2]
  · rw [if_neg hf]
    obtain ⟨f, ef, hf1, hf2⟩ := of_ti (x := G 68) (b := gt G) (by
      have h1 := o3.1
      rw [eq_ti, show (-1 : Int32).toInt = -1 from rfl] at hf
      omega) (by have := o3.2; omega)
    have k5 : f < 6 := by omega
    rw [ef] at n2 hf ⊢
    rw [o_cl hf2]
    by_cases hz : (S 1 f).toInt < (G 67).toInt
    · have hz2 : ¬ (G 67).toInt ≤ (S 1 f).toInt := by omega
      rw [if_pos hz]
      simp (disch := first | omega | (simp only [nar_0, nar_1, nar_b, and_self, Nat.reduceLeDiff, Nat.reduceLT, Int32.reduceToInt, KD_1, LN_1, P0_1_0, P0_1_1, P0_1_2, P0_1_3, P0_1_4, KD_28, LN_28]; done) | fail) only [mVoyage_eat, eVoyage_eat_0, eVoyage_eat_1, eVoyage_eat_4, eVoyage_eat_7, eVoyage_eat_8, eVoyage_eat_9, eVoyage_eat_10, eVoyage_eat_11, eVoyage_eat_12, eVoyage_eat_15, eVoyage_eat_16, eVoyage_eat_17, eVoyage_eat_20, eVoyage_eat_23, eVoyage_eat_24, eVoyage_eat_25, eVoyage_eat_26, eVoyage_eat_27, eVoyage_eat_30, eVoyage_eat_31, eVoyage_eat_32, eVoyage_eat_33, eVoyage_eat_36, eVoyage_eat_37, eVoyage_eat_38, eVoyage_eat_41, eVoyage_eat_44, eVoyage_eat_45, eVoyage_eat_48, eVoyage_eat_49, eVoyage_eat_50, eVoyage_eat_51, eVoyage_eat_52, eVoyage_eat_53, eVoyage_eat_54, KD_1, LN_1, P0_1_0, P0_1_1, P0_1_2, P0_1_3, P0_1_4, KD_28, LN_28, va_rf_some, xl_0, xl_1, xl_2, xl_3, xl_4, xl_5, xl_6, xl_7, xl_8, xl_458, xl_459, xl_460, and_false, false_and, tl_some, tl_none, xkl_int, xkl_ref, xkl_dm, xkl_long, true_and, and_true, o_cl, xin_o, lt_ti, le_ti, ito_o, t32_64, o_add1, oz, op0, op1, op2, op3, op4, op5, op6, op7, o8m, o3m, o161m, o461m, o48p, o66p, o72p, o136p, Int32.reduceToInt, Int32.reduceToNatClampNeg, i_10, i_01, le_om1, Int64.reduceToInt, ↓reduceIte, ite_n, ite_p, xu_hit, xu_miss, op11, not_true_eq_false, not_false_eq_true, decide_true, decide_false, bIt0, bIf0, and_self, Int.reduceLE, Int.reduceLT, Int32.reduceAdd, Nat.reduceLeDiff, Nat.reduceLT, Nat.reduceAdd, Nat.reduceMul, Nat.reduceEqDiff, Nat.add_zero, Nat.zero_add, v0, v1, v2, v3, v4, wr_lt, wr_0, wr_at, n1, n2, hf, k5, hz2, xu_wr0]
    · have hz2 : (G 67).toInt ≤ (S 1 f).toInt := by omega
      rw [if_neg hz]
      simp (disch := first | omega | (simp only [nar_0, nar_1, nar_b, and_self, Nat.reduceLeDiff, Nat.reduceLT, Int32.reduceToInt, KD_1, LN_1, P0_1_0, P0_1_1, P0_1_2, P0_1_3, P0_1_4, KD_28, LN_28]; done) | fail) only [mVoyage_eat, eVoyage_eat_0, eVoyage_eat_1, eVoyage_eat_4, eVoyage_eat_7, eVoyage_eat_8, eVoyage_eat_9, eVoyage_eat_10, eVoyage_eat_11, eVoyage_eat_12, eVoyage_eat_15, eVoyage_eat_16, eVoyage_eat_17, eVoyage_eat_20, eVoyage_eat_23, eVoyage_eat_24, eVoyage_eat_25, eVoyage_eat_26, eVoyage_eat_27, eVoyage_eat_30, eVoyage_eat_31, eVoyage_eat_32, eVoyage_eat_33, eVoyage_eat_36, eVoyage_eat_37, eVoyage_eat_38, eVoyage_eat_41, eVoyage_eat_44, eVoyage_eat_45, eVoyage_eat_48, eVoyage_eat_49, eVoyage_eat_50, eVoyage_eat_51, eVoyage_eat_52, eVoyage_eat_53, eVoyage_eat_54, KD_1, LN_1, P0_1_0, P0_1_1, P0_1_2, P0_1_3, P0_1_4, KD_28, LN_28, va_rf_some, xl_0, xl_1, xl_2, xl_3, xl_4, xl_5, xl_6, xl_7, xl_8, xl_458, xl_459, xl_460, and_false, false_and, tl_some, tl_none, xkl_int, xkl_ref, xkl_dm, xkl_long, true_and, and_true, o_cl, xin_o, lt_ti, le_ti, ito_o, t32_64, o_add1, oz, op0, op1, op2, op3, op4, op5, op6, op7, o8m, o3m, o161m, o461m, o48p, o66p, o72p, o136p, Int32.reduceToInt, Int32.reduceToNatClampNeg, i_10, i_01, le_om1, Int64.reduceToInt, ↓reduceIte, ite_n, ite_p, xu_hit, xu_miss, op11, not_true_eq_false, not_false_eq_true, decide_true, decide_false, bIt0, bIf0, and_self, Int.reduceLE, Int.reduceLT, Int32.reduceAdd, Nat.reduceLeDiff, Nat.reduceLT, Nat.reduceAdd, Nat.reduceMul, Nat.reduceEqDiff, Nat.add_zero, Nat.zero_add, v0, v1, v2, v3, v4, wr_lt, wr_0, wr_at, n1, n2, hf, k5, hz2, xu_wr]
theorem vcome_loop (hv : VY v) (hF : RF G I) (hG : OkS G) : ∀ (m j : Nat) (S : Sv) (w : Value), j + m = gc G → X E d 53 2 [.ref v, .int (o j), w] [] (wr v S I) J Q = Q none (wr v (fun a k => if a = 3 ∧ j ≤ k ∧ k < gc G ∧ cbk G S k = true then S 3 k - 1 else S a k) I) J
  | 0, j, S, w, h => by
    obtain ⟨v0, v1, -, -, -, -, -, vv⟩ := hv
    obtain ⟨r2, r10, r18, rL, rT, rN, rC, rX⟩ := hF
    obtain ⟨⟨e1, g1⟩, ⟨e2, g2⟩, ⟨e3, g3⟩, e4, oL, oT, oN, oC⟩ := hG
    have e : j = gc G := by omega
    subst e
    have hj : ((gc G : Nat) : Int) ≤ ((gc G : Nat) : Int) := by omega
    rw [eVoyage_comeBack_2]
    simp (disch := first | omega | (simp only [nar_0, nar_1, nar_b, and_self, Nat.reduceLeDiff, Nat.reduceLT, Int32.reduceToInt, KD_1, LN_1, P0_1_0, P0_1_1, P0_1_2, P0_1_3, P0_1_4, KD_18, LN_18, P0_18_0]; done) | fail) only [mVoyage_comeBack, eVoyage_comeBack_0, eVoyage_comeBack_1, eVoyage_comeBack_3, eVoyage_comeBack_4, eVoyage_comeBack_7, eVoyage_comeBack_10, eVoyage_comeBack_13, eVoyage_comeBack_16, eVoyage_comeBack_17, eVoyage_comeBack_20, eVoyage_comeBack_23, eVoyage_comeBack_26, eVoyage_comeBack_27, eVoyage_comeBack_28, eVoyage_comeBack_30, eVoyage_comeBack_31, eVoyage_comeBack_32, eVoyage_comeBack_33, eVoyage_comeBack_36, eVoyage_comeBack_37, eVoyage_comeBack_38, eVoyage_comeBack_41, eVoyage_comeBack_42, eVoyage_comeBack_45, eVoyage_comeBack_46, eVoyage_comeBack_49, eVoyage_comeBack_50, eVoyage_comeBack_51, eVoyage_comeBack_54, eVoyage_comeBack_55, eVoyage_comeBack_58, eVoyage_comeBack_59, eVoyage_comeBack_60, eVoyage_comeBack_61, eVoyage_comeBack_62, eVoyage_comeBack_63, eVoyage_comeBack_64, eVoyage_comeBack_67, eVoyage_comeBack_70, KD_1, LN_1, P0_1_0, P0_1_1, P0_1_2, P0_1_3, P0_1_4, KD_18, LN_18, P0_18_0, va_rf_some, xl_0, xl_1, xl_2, xl_3, xl_4, xl_5, xl_6, xl_7, xl_8, xl_458, xl_459, xl_460, and_false, false_and, tl_some, tl_none, xkl_int, xkl_ref, xkl_dm, xkl_long, true_and, and_true, o_cl, xin_o, lt_ti, le_ti, ito_o, t32_64, o_add1, oz, op0, op1, op2, op3, op4, op5, op6, op7, o8m, o3m, o161m, o461m, o48p, o66p, o72p, o136p, Int32.reduceToInt, Int32.reduceToNatClampNeg, i_10, i_01, le_om1, Int64.reduceToInt, ↓reduceIte, ite_n, ite_p, xu_hit, xu_miss, op11, not_true_eq_false, not_false_eq_true, decide_true, decide_false, bIt0, bIf0, and_self, Int.reduceLE, Int.reduceLT, Int32.reduceAdd, Nat.reduceLeDiff, Nat.reduceLT, Nat.reduceAdd, Nat.reduceMul, Nat.reduceEqDiff, Nat.add_zero, Nat.zero_add, v0, v1, wr_lt, r18, hj]
  | m + 1, j, S, w, h => by
    have ih := fun S w => vcome_loop hv hF hG m (j + 1) S w (by omega)
    obtain ⟨v0, v1, -, -, ⟨v2, v3, v4⟩, -, -, vv⟩ := hv
    obtain ⟨r2, r10, r18, rL, rT, rN, rC, rX⟩ := hF
    obtain ⟨⟨e1, g1⟩, ⟨e2, g2⟩, ⟨e3, g3⟩, e4, oL, oT, oN, oC⟩ := hG
    have hj : ¬ ((gc G : Nat) : Int) ≤ (j : Int) := by omega
    obtain ⟨k1, k2, k3⟩ := LK_C (by omega : j < 8)
    have k5 : j < 8 := by omega
    have a1 : I (20 + j) 6 = G (72 + 8 * j + 6) := rC j 6 (by omega) (by omega)
    by_cases z1 : (S 3 j).toInt ≤ 0
    · have c0 : cbk G S j = false := by unfold cbk; rw [decide_eq_false_iff_not]; omega
      rw [eVoyage_comeBack_2]
      simp (disch := first | omega | (simp only [nar_0, nar_1, nar_b, and_self, Nat.reduceLeDiff, Nat.reduceLT, Int32.reduceToInt, KD_1, LN_1, P0_1_0, P0_1_1, P0_1_2, P0_1_3, P0_1_4, KD_18, LN_18, P0_18_0, KD_19, LN_19, P0_19_0, P0_19_1, P0_19_2, P0_19_3, P0_19_4, P0_19_5, P0_19_6, P0_19_7]; done) | fail) only [mVoyage_comeBack, eVoyage_comeBack_0, eVoyage_comeBack_1, eVoyage_comeBack_3, eVoyage_comeBack_4, eVoyage_comeBack_7, eVoyage_comeBack_10, eVoyage_comeBack_13, eVoyage_comeBack_16, eVoyage_comeBack_17, eVoyage_comeBack_20, eVoyage_comeBack_23, eVoyage_comeBack_26, eVoyage_comeBack_27, eVoyage_comeBack_28, eVoyage_comeBack_30, eVoyage_comeBack_31, eVoyage_comeBack_32, eVoyage_comeBack_33, eVoyage_comeBack_36, eVoyage_comeBack_37, eVoyage_comeBack_38, eVoyage_comeBack_41, eVoyage_comeBack_42, eVoyage_comeBack_45, eVoyage_comeBack_46, eVoyage_comeBack_49, eVoyage_comeBack_50, eVoyage_comeBack_51, eVoyage_comeBack_54, eVoyage_comeBack_55, eVoyage_comeBack_58, eVoyage_comeBack_59, eVoyage_comeBack_60, eVoyage_comeBack_61, eVoyage_comeBack_62, eVoyage_comeBack_63, eVoyage_comeBack_64, eVoyage_comeBack_67, eVoyage_comeBack_70, KD_1, LN_1, P0_1_0, P0_1_1, P0_1_2, P0_1_3, P0_1_4, KD_18, LN_18, P0_18_0, KD_19, LN_19, P0_19_0, P0_19_1, P0_19_2, P0_19_3, P0_19_4, P0_19_5, P0_19_6, P0_19_7, va_rf_some, xl_0, xl_1, xl_2, xl_3, xl_4, xl_5, xl_6, xl_7, xl_8, xl_458, xl_459, xl_460, and_false, false_and, tl_some, tl_none, xkl_int, xkl_ref, xkl_dm, xkl_long, true_and, and_true, o_cl, xin_o, lt_ti, le_ti, ito_o, t32_64, o_add1, oz, op0, op1, op2, op3, op4, op5, op6, op7, o8m, o3m, o161m, o461m, o48p, o66p, o72p, o136p, Int32.reduceToInt, Int32.reduceToNatClampNeg, i_10, i_01, le_om1, Int64.reduceToInt, ↓reduceIte, ite_n, ite_p, xu_hit, xu_miss, op11, not_true_eq_false, not_false_eq_true, decide_true, decide_false, bIt0, bIf0, and_self, Int.reduceLE, Int.reduceLT, Int32.reduceAdd, Nat.reduceLeDiff, Nat.reduceLT, Nat.reduceAdd, Nat.reduceMul, Nat.reduceEqDiff, Nat.add_zero, Nat.zero_add, v0, v1, v2, v3, v4, wr_lt, wr_0, wr_at, r18, hj, k1, k2, k3, k5, a1, z1]
      rw [ih]
      congr 2
      funext a k
      grind
    · by_cases z2 : (G (72 + 8 * j + 6)).toInt ≤ 0
      · have c0 : cbk G S j = false := by unfold cbk; rw [decide_eq_false_iff_not]; omega
        rw [eVoyage_comeBack_2]
        simp (disch := first | omega | (simp only [nar_0, nar_1, nar_b, and_self, Nat.reduceLeDiff, Nat.reduceLT, Int32.reduceToInt, KD_1, LN_1, P0_1_0, P0_1_1, P0_1_2, P0_1_3, P0_1_4, KD_18, LN_18, P0_18_0, KD_19, LN_19, P0_19_0, P0_19_1, P0_19_2, P0_19_3, P0_19_4, P0_19_5, P0_19_6, P0_19_7]; done) | fail) only [mVoyage_comeBack, eVoyage_comeBack_0, eVoyage_comeBack_1, eVoyage_comeBack_3, eVoyage_comeBack_4, eVoyage_comeBack_7, eVoyage_comeBack_10, eVoyage_comeBack_13, eVoyage_comeBack_16, eVoyage_comeBack_17, eVoyage_comeBack_20, eVoyage_comeBack_23, eVoyage_comeBack_26, eVoyage_comeBack_27, eVoyage_comeBack_28, eVoyage_comeBack_30, eVoyage_comeBack_31, eVoyage_comeBack_32, eVoyage_comeBack_33, eVoyage_comeBack_36, eVoyage_comeBack_37, eVoyage_comeBack_38, eVoyage_comeBack_41, eVoyage_comeBack_42, eVoyage_comeBack_45, eVoyage_comeBack_46, eVoyage_comeBack_49, eVoyage_comeBack_50, eVoyage_comeBack_51, eVoyage_comeBack_54, eVoyage_comeBack_55, eVoyage_comeBack_58, eVoyage_comeBack_59, eVoyage_comeBack_60, eVoyage_comeBack_61, eVoyage_comeBack_62, eVoyage_comeBack_63, eVoyage_comeBack_64, eVoyage_comeBack_67, eVoyage_comeBack_70, KD_1, LN_1, P0_1_0, P0_1_1, P0_1_2, P0_1_3, P0_1_4, KD_18, LN_18, P0_18_0, KD_19, LN_19, P0_19_0, P0_19_1, P0_19_2, P0_19_3, P0_19_4, P0_19_5, P0_19_6, P0_19_7, va_rf_some, xl_0, xl_1, xl_2, xl_3, xl_4, xl_5, xl_6, xl_7, xl_8, xl_458, xl_459, xl_460, and_false, false_and, tl_some, tl_none, xkl_int, xkl_ref, xkl_dm, xkl_long, true_and, and_true, o_cl, xin_o, lt_ti, le_ti, ito_o, t32_64, o_add1, oz, op0, op1, op2, op3, op4, op5, op6, op7, o8m, o3m, o161m, o461m, o48p, o66p, o72p, o136p, Int32.reduceToInt, Int32.reduceToNatClampNeg, i_10, i_01, le_om1, Int64.reduceToInt, ↓reduceIte, ite_n, ite_p, xu_hit, xu_miss, op11, not_true_eq_false, not_false_eq_true, decide_true, decide_false, bIt0, bIf0, and_self, Int.reduceLE, Int.reduceLT, Int32.reduceAdd, Nat.reduceLeDiff, Nat.reduceLT, Nat.reduceAdd, Nat.reduceMul, Nat.reduceEqDiff, Nat.add_zero, Nat.zero_add, v0, v1, v2, v3, v4, wr_lt, wr_0, wr_at, r18, hj, k1, k2, k3, k5, a1, z1, z2]
        rw [ih]
        congr 2
        funext a k
        grind
      · have z4 : ¬ G (72 + 8 * j + 6) = 0 := by
          intro e
          rw [e] at z2
          exact z2 (by decide)
        by_cases z3 : S 0 7 - S 0 7 / G (72 + 8 * j + 6) * G (72 + 8 * j + 6) = 0
        · have c0 : cbk G S j = true := by unfold cbk; rw [decide_eq_true_eq]; exact ⟨by omega, by omega, z3⟩
          rw [eVoyage_comeBack_2]
          simp (disch := first | omega | (simp only [nar_0, nar_1, nar_b, and_self, Nat.reduceLeDiff, Nat.reduceLT, Int32.reduceToInt, KD_1, LN_1, P0_1_0, P0_1_1, P0_1_2, P0_1_3, P0_1_4, KD_18, LN_18, P0_18_0, KD_19, LN_19, P0_19_0, P0_19_1, P0_19_2, P0_19_3, P0_19_4, P0_19_5, P0_19_6, P0_19_7]; done) | fail) only [mVoyage_comeBack, eVoyage_comeBack_0, eVoyage_comeBack_1, eVoyage_comeBack_3, eVoyage_comeBack_4, eVoyage_comeBack_7, eVoyage_comeBack_10, eVoyage_comeBack_13, eVoyage_comeBack_16, eVoyage_comeBack_17, eVoyage_comeBack_20, eVoyage_comeBack_23, eVoyage_comeBack_26, eVoyage_comeBack_27, eVoyage_comeBack_28, eVoyage_comeBack_30, eVoyage_comeBack_31, eVoyage_comeBack_32, eVoyage_comeBack_33, eVoyage_comeBack_36, eVoyage_comeBack_37, eVoyage_comeBack_38, eVoyage_comeBack_41, eVoyage_comeBack_42, eVoyage_comeBack_45, eVoyage_comeBack_46, eVoyage_comeBack_49, eVoyage_comeBack_50, eVoyage_comeBack_51, eVoyage_comeBack_54, eVoyage_comeBack_55, eVoyage_comeBack_58, eVoyage_comeBack_59, eVoyage_comeBack_60, eVoyage_comeBack_61, eVoyage_comeBack_62, eVoyage_comeBack_63, eVoyage_comeBack_64, eVoyage_comeBack_67, eVoyage_comeBack_70, KD_1, LN_1, P0_1_0, P0_1_1, P0_1_2, P0_1_3, P0_1_4, KD_18, LN_18, P0_18_0, KD_19, LN_19, P0_19_0, P0_19_1, P0_19_2, P0_19_3, P0_19_4, P0_19_5, P0_19_6, P0_19_7, va_rf_some, xl_0, xl_1, xl_2, xl_3, xl_4, xl_5, xl_6, xl_7, xl_8, xl_458, xl_459, xl_460, and_false, false_and, tl_some, tl_none, xkl_int, xkl_ref, xkl_dm, xkl_long, true_and, and_true, o_cl, xin_o, lt_ti, le_ti, ito_o, t32_64, o_add1, oz, op0, op1, op2, op3, op4, op5, op6, op7, o8m, o3m, o161m, o461m, o48p, o66p, o72p, o136p, Int32.reduceToInt, Int32.reduceToNatClampNeg, i_10, i_01, le_om1, Int64.reduceToInt, ↓reduceIte, ite_n, ite_p, xu_hit, xu_miss, op11, not_true_eq_false, not_false_eq_true, decide_true, decide_false, bIt0, bIf0, and_self, Int.reduceLE, Int.reduceLT, Int32.reduceAdd, Nat.reduceLeDiff, Nat.reduceLT, Nat.reduceAdd, Nat.reduceMul, Nat.reduceEqDiff, Nat.add_zero, Nat.zero_add, v0, v1, v2, v3, v4, wr_lt, wr_0, wr_at, r18, hj, k1, k2, k3, k5, a1, z1, z2, z3, z4, xu_wr]
          rw [ih]
          congr 2
          funext a k
          have c1 : ∀ k, ¬ k = j → cbk G (xuI S 3 j (S 3 j - 1)) k = cbk G S k := by
            intro k hk
            unfold cbk
            simp (disch := omega) only [xu_hit, xu_miss, ite_n, ite_p, if_true, if_false, and_true, true_and, and_false, false_and, and_self, Nat.reduceEqDiff]
          simp only [xuI_ap]
          grind
        · have c0 : cbk G S j = false := by unfold cbk; rw [decide_eq_false_iff_not]; exact fun q => z3 q.2.2
          rw [eVoyage_comeBack_2]
          simp (disch := first | omega | (simp only [nar_0, nar_1, nar_b, and_self, Nat.reduceLeDiff, Nat.reduceLT, Int32.reduceToInt, KD_1, LN_1, P0_1_0, P0_1_1, P0_1_2, P0_1_3, P0_1_4, KD_18, LN_18, P0_18_0, KD_19, LN_19, P0_19_0, P0_19_1, P0_19_2, P0_19_3, P0_19_4, P0_19_5, P0_19_6, P0_19_7]; done) | fail) only [mVoyage_comeBack, eVoyage_comeBack_0, eVoyage_comeBack_1, eVoyage_comeBack_3, eVoyage_comeBack_4, eVoyage_comeBack_7, eVoyage_comeBack_10, eVoyage_comeBack_13, eVoyage_comeBack_16, eVoyage_comeBack_17, eVoyage_comeBack_20, eVoyage_comeBack_23, eVoyage_comeBack_26, eVoyage_comeBack_27, eVoyage_comeBack_28, eVoyage_comeBack_30, eVoyage_comeBack_31, eVoyage_comeBack_32, eVoyage_comeBack_33, eVoyage_comeBack_36, eVoyage_comeBack_37, eVoyage_comeBack_38, eVoyage_comeBack_41, eVoyage_comeBack_42, eVoyage_comeBack_45, eVoyage_comeBack_46, eVoyage_comeBack_49, eVoyage_comeBack_50, eVoyage_comeBack_51, eVoyage_comeBack_54, eVoyage_comeBack_55, eVoyage_comeBack_58, eVoyage_comeBack_59, eVoyage_comeBack_60, eVoyage_comeBack_61, eVoyage_comeBack_62, eVoyage_comeBack_63, eVoyage_comeBack_64, eVoyage_comeBack_67, eVoyage_comeBack_70, KD_1, LN_1, P0_1_0, P0_1_1, P0_1_2, P0_1_3, P0_1_4, KD_18, LN_18, P0_18_0, KD_19, LN_19, P0_19_0, P0_19_1, P0_19_2, P0_19_3, P0_19_4, P0_19_5, P0_19_6, P0_19_7, va_rf_some, xl_0, xl_1, xl_2, xl_3, xl_4, xl_5, xl_6, xl_7, xl_8, xl_458, xl_459, xl_460, and_false, false_and, tl_some, tl_none, xkl_int, xkl_ref, xkl_dm, xkl_long, true_and, and_true, o_cl, xin_o, lt_ti, le_ti, ito_o, t32_64, o_add1, oz, op0, op1, op2, op3, op4, op5, op6, op7, o8m, o3m, o161m, o461m, o48p, o66p, o72p, o136p, Int32.reduceToInt, Int32.reduceToNatClampNeg, i_10, i_01, le_om1, Int64.reduceToInt, ↓reduceIte, ite_n, ite_p, xu_hit, xu_miss, op11, not_true_eq_false, not_false_eq_true, decide_true, decide_false, bIt0, bIf0, and_self, Int.reduceLE, Int.reduceLT, Int32.reduceAdd, Nat.reduceLeDiff, Nat.reduceLT, Nat.reduceAdd, Nat.reduceMul, Nat.reduceEqDiff, Nat.add_zero, Nat.zero_add, v0, v1, v2, v3, v4, wr_lt, wr_0, wr_at, r18, hj, k1, k2, k3, k5, a1, z1, z2, z3, z4]
          rw [ih]
          congr 2
          funext a k
          grind
theorem v_come {S : Sv} (hv : VY v) (hF : RF G I) (hG : OkS G) : XM E d 53 [.ref v] (wr v S I) J Q = Q none (wr v (comeF G S) I) J := by
  simp (disch := first | omega | (simp only [nar_0, nar_1, nar_b, and_self, Nat.reduceLeDiff, Nat.reduceLT, Int32.reduceToInt]; done) | fail) only [mVoyage_comeBack, eVoyage_comeBack_0, eVoyage_comeBack_1, eVoyage_comeBack_3, eVoyage_comeBack_4, eVoyage_comeBack_7, eVoyage_comeBack_10, eVoyage_comeBack_13, eVoyage_comeBack_16, eVoyage_comeBack_17, eVoyage_comeBack_20, eVoyage_comeBack_23, eVoyage_comeBack_26, eVoyage_comeBack_27, eVoyage_comeBack_28, eVoyage_comeBack_30, eVoyage_comeBack_31, eVoyage_comeBack_32, eVoyage_comeBack_33, eVoyage_comeBack_36, eVoyage_comeBack_37, eVoyage_comeBack_38, eVoyage_comeBack_41, eVoyage_comeBack_42, eVoyage_comeBack_45, eVoyage_comeBack_46, eVoyage_comeBack_49, eVoyage_comeBack_50, eVoyage_comeBack_51, eVoyage_comeBack_54, eVoyage_comeBack_55, eVoyage_comeBack_58, eVoyage_comeBack_59, eVoyage_comeBack_60, eVoyage_comeBack_61, eVoyage_comeBack_62, eVoyage_comeBack_63, eVoyage_comeBack_64, eVoyage_comeBack_67, eVoyage_comeBack_70, va_rf_some, xl_0, xl_1, xl_2, xl_3, xl_4, xl_5, xl_6, xl_7, xl_8, xl_458, xl_459, xl_460, and_false, false_and, tl_some, tl_none, xkl_int, xkl_ref, xkl_dm, xkl_long, true_and, and_true, o_cl, xin_o, lt_ti, le_ti, ito_o, t32_64, o_add1, oz, op0, op1, op2, op3, op4, op5, op6, op7, o8m, o3m, o161m, o461m, o48p, o66p, o72p, o136p, Int32.reduceToInt, Int32.reduceToNatClampNeg, i_10, i_01, le_om1, Int64.reduceToInt, ↓reduceIte, ite_n, ite_p, xu_hit, xu_miss, op11, not_true_eq_false, not_false_eq_true, decide_true, decide_false, bIt0, bIf0, and_self, Int.reduceLE, Int.reduceLT, Int32.reduceAdd, Nat.reduceLeDiff, Nat.reduceLT, Nat.reduceAdd, Nat.reduceMul, Nat.reduceEqDiff, Nat.add_zero, Nat.zero_add]
  have := vcome_loop (E := E) (d := d) (J := J) (Q := Q) hv hF hG (gc G) 0 S xdm (by omega)
  simp only [Nat.zero_le, true_and] at this
  exact this
end
