/-! THE MODEL'S VOYAGE: settled, begun -/
def msetF (T : Sv) : Sv := fun a k => if 5 ≤ a ∧ a ≤ 7 ∧ k < 8 then 0 else T a k
def mbegF (G : Gv) (T : Sv) : Sv := fun a k => if a = 4 ∧ k < gt G then G (48 + 3 * k + 2) else if a = 11 ∧ k < 6 then 0 else if a = 0 ∧ 13 ≤ k ∧ k ≤ 15 then 0 else T a k
/-- what goes on from voyage to voyage -/
def SimM (b : Nat) (G : Gv) (S T : Sv) : Prop := T 1 = G ∧ (∀ c, c < gc G → T 5 c = S 3 c ∧ T 7 c = S 5 c ∧ (stay G c = false → T 6 c = S 4 c)) ∧ (∀ c, c < gc G → 0 ≤ (T 6 c).toInt ∧ (T 6 c).toInt ≤ b)
theorem SimM_of {b : Nat} {G : Gv} {S T : Sv} (h : Sim b G S T) : SimM b G S T := ⟨h.1, h.2.2.1, h.2.2.2.1⟩
theorem FrT_set {T : Sv} : FrT T (msetF T) := ⟨fun a _ h => funext fun k => if_neg (by omega), fun k _ => if_neg (by omega)⟩
theorem FrT_beg {G : Gv} {T : Sv} : FrT T (mbegF G T) := by
  refine ⟨fun a _ h => funext fun k => ?_, fun k _ => ?_⟩
  · unfold mbegF
    rw [if_neg (by omega), if_neg (by omega), if_neg (by omega)]
  · unfold mbegF
    rw [if_neg (by omega), if_neg (by omega), if_neg (by omega)]
theorem dep_at {G : Gv} {S : Sv} {a k : Nat} : departF G S a k = if a = 0 ∧ 6 ≤ k ∧ k ≤ 9 then 0 else if a = 2 ∧ k < 6 then -1 else if a = 1 ∧ k < 6 then (if k < gt G then G (48 + 3 * k + 2) else 0) else S a k := by
  unfold departF filF
  simp only [xuI_ap]
  grind
theorem unm_at {S : Sv} {a k : Nat} : unmoveF S a k = if 3 ≤ a ∧ a ≤ 5 ∧ k < 8 then 0 else S a k := by
  unfold unmoveF filF
  grind
theorem sim_begin {b : Nat} {G : Gv} {S T : Sv} (h : SimM b G S T) (hG : OkS G) : Sim b G (departF G S) (mbegF G T) := by
  obtain ⟨h1, h2, h3⟩ := h
  obtain ⟨⟨e1, g1⟩, ⟨e2, g2⟩, ⟨e3, g3⟩, e4, oL, oT, oN, oC⟩ := hG
  have ef : ∀ a k, ¬ a = 4 → ¬ a = 11 → ¬ a = 0 → mbegF G T a k = T a k := by
    intro a k z1 z2 z3
    unfold mbegF
    rw [if_neg (by omega), if_neg (by omega), if_neg (by omega)]
  refine ⟨?_, fun k hk => ?_, fun c hc => ?_, fun c hc => ?_, ?_, ?_, ?_, fun h0 l hl => ?_⟩
  · exact (funext fun k => ef 1 k (by omega) (by omega) (by omega)).trans h1
  · rw [dep_at]
    unfold mbegF
    simp (disch := omega) only [xu_hit, xu_miss, ite_n, ite_p, if_true, if_false, and_true, true_and, and_false, false_and, and_self, Nat.reduceEqDiff]
  · rw [ef _ _ (by omega) (by omega) (by omega), ef _ _ (by omega) (by omega) (by omega), ef _ _ (by omega) (by omega) (by omega), dep_at, dep_at, dep_at]
    simp (disch := omega) only [xu_hit, xu_miss, ite_n, ite_p, if_true, if_false, and_true, true_and, and_false, false_and, and_self, Nat.reduceEqDiff]
    exact h2 c hc
  · rw [ef _ _ (by omega) (by omega) (by omega)]; exact h3 c hc
  · rw [dep_at]
    unfold mbegF
    simp (disch := omega) only [xu_hit, xu_miss, ite_n, ite_p, if_true, if_false, and_true, true_and, and_false, false_and, and_self, Nat.reduceEqDiff]
  · rw [dep_at]
    unfold mbegF
    simp (disch := omega) only [xu_hit, xu_miss, ite_n, ite_p, if_true, if_false, and_true, true_and, and_false, false_and, and_self, Nat.reduceEqDiff]
  · rw [dep_at]
    unfold mbegF
    simp (disch := omega) only [xu_hit, xu_miss, ite_n, ite_p, if_true, if_false, and_true, true_and, and_false, false_and, and_self, Nat.reduceEqDiff]
  · obtain ⟨-, -, -, -, -, -, -, -, a9⟩ := oL l hl
    unfold Due
    rw [dep_at]
    unfold mbegF
    simp (disch := omega) only [xu_hit, xu_miss, ite_n, ite_p, if_true, if_false, and_true, true_and, and_false, false_and, and_self, Nat.reduceEqDiff]
    rcases a9 with q | q
    · exact Or.inr ⟨q.1, Or.inl True.intro⟩
    · exact Or.inl q.1
theorem simM_set {G : Gv} {S T : Sv} (hT : T 1 = G) (hG : OkS G) : SimM 0 G (unmoveF S) (msetF T) := by
  obtain ⟨⟨e1, g1⟩, ⟨e2, g2⟩, ⟨e3, g3⟩, e4, oL, oT, oN, oC⟩ := hG
  refine ⟨?_, fun c hc => ?_, fun c hc => ?_⟩
  · exact (funext fun k => if_neg (by omega)).trans hT
  · rw [unm_at, unm_at, unm_at]
    unfold msetF
    simp (disch := omega) only [xu_hit, xu_miss, ite_n, ite_p, if_true, if_false, and_true, true_and, and_false, false_and, and_self, Nat.reduceEqDiff]
    exact fun _ => True.intro
  · unfold msetF
    simp (disch := omega) only [xu_hit, xu_miss, ite_n, ite_p, if_true, if_false, and_true, true_and, and_false, false_and, and_self, Nat.reduceEqDiff]
    exact ⟨by decide, by decide⟩
theorem bs_unm {S : Sv} (h : 0 ≤ (S 0 7).toInt) : (∀ c, c < 8 → 0 ≤ (unmoveF S 3 c).toInt ∧ (unmoveF S 3 c).toInt ≤ (0 : Nat)) ∧ (∀ c, c < 8 → 0 ≤ (unmoveF S 5 c).toInt ∧ (unmoveF S 5 c).toInt ≤ 99) := by
  refine ⟨fun c hc => ?_, fun c hc => ?_⟩ <;> rw [unm_at, if_pos (by omega)] <;> exact ⟨by decide, by decide⟩
theorem bs_dep {b : Nat} {G : Gv} {S : Sv} (hb : 100 ≤ b) (h1 : ∀ c, c < 8 → 0 ≤ (S 3 c).toInt ∧ (S 3 c).toInt ≤ b) (h2 : ∀ c, c < 8 → 0 ≤ (S 5 c).toInt ∧ (S 5 c).toInt ≤ 99) (hG : OkS G) : Bs b (departF G S) := by
  obtain ⟨⟨e1, g1⟩, ⟨e2, g2⟩, ⟨e3, g3⟩, e4, oL, oT, oN, oC⟩ := hG
  refine ⟨fun k hk => ?_, fun c hc => ?_, fun c hc => ?_, ?_, ?_⟩
  · rw [dep_at]
    by_cases e : k < gt G
    · simp (disch := omega) only [xu_hit, xu_miss, ite_n, ite_p, if_true, if_false, and_true, true_and, and_false, false_and, and_self, Nat.reduceEqDiff]
      obtain ⟨-, -, a3, a4⟩ := oT k e
      exact ⟨a3, by omega⟩
    · simp (disch := omega) only [xu_hit, xu_miss, ite_n, ite_p, if_true, if_false, and_true, true_and, and_false, false_and, and_self, Nat.reduceEqDiff]
      exact ⟨by decide, by rw [ti_0]; omega⟩
  · rw [dep_at]
    simp (disch := omega) only [xu_hit, xu_miss, ite_n, ite_p, if_true, if_false, and_true, true_and, and_false, false_and, and_self, Nat.reduceEqDiff]
    exact h1 c hc
  · rw [dep_at]
    simp (disch := omega) only [xu_hit, xu_miss, ite_n, ite_p, if_true, if_false, and_true, true_and, and_false, false_and, and_self, Nat.reduceEqDiff]
    exact h2 c hc
  · rw [dep_at]
    simp (disch := omega) only [xu_hit, xu_miss, ite_n, ite_p, if_true, if_false, and_true, true_and, and_false, false_and, and_self, Nat.reduceEqDiff]
    decide
  · rw [dep_at]
    simp (disch := omega) only [xu_hit, xu_miss, ite_n, ite_p, if_true, if_false, and_true, true_and, and_false, false_and, and_self, Nat.reduceEqDiff]
    rw [ti_0]
    omega
theorem ld_dep {G : Gv} {S : Sv} (h : 0 < gl G) : LdOk G (departF G S) := ⟨0, by rw [dep_at]; rfl, by omega, h⟩
section
variable {E : XE} {d : Nat} {I : Iv} {J : Jv} {Q : XQt} {G : Gv}
theorem mset_loop : ∀ (m j : Nat) (T : Sv), j + m = 8 → X E d 136 2 [.ref 157, .int (o j)] [] (wr 157 T I) J Q = Q none (wr 157 (fun a k => if 5 ≤ a ∧ a ≤ 7 ∧ j ≤ k ∧ k < 8 then 0 else T a k) I) J
  | 0, j, T, h => by
    have e : j = 8 := by omega
    subst e
    rw [eM_settle_2]
    simp only [eM_settle_3, eM_settle_5, eM_settle_35, le_ti, o_toInt (by omega : 8 < 2147483648), Int32.reduceToInt]
    rw [if_pos (by decide)]
    congr 2
    funext b k
    rw [if_neg (by omega)]
  | m + 1, j, T, h => by
    have hj : ¬ (8 : Int) ≤ (j : Int) := by omega
    have k5 : j < 8 := by omega
    rw [eM_settle_2]
    simp (disch := first | omega | (simp only [nar_0, nar_1, nar_b, and_self, Nat.reduceLeDiff, Nat.reduceLT, Int32.reduceToInt, KD_157, LN_157, P0_157_0, P0_157_1, P0_157_2, P0_157_12, P0_157_16, P0_157_17, P0_157_18, P0_157_19, P0_157_20, P0_157_21, P0_157_22, P0_157_24, P0_157_25, P0_157_29, P0_157_30, P0_157_31, P0_157_32, KD_162, LN_162, KD_163, LN_163, KD_164, LN_164]; done) | fail) only [mM_settle, eM_settle_0, eM_settle_1, eM_settle_3, eM_settle_5, eM_settle_8, eM_settle_9, eM_settle_12, eM_settle_13, eM_settle_14, eM_settle_15, eM_settle_16, eM_settle_19, eM_settle_20, eM_settle_21, eM_settle_22, eM_settle_23, eM_settle_26, eM_settle_27, eM_settle_28, eM_settle_29, eM_settle_32, eM_settle_35, KD_157, LN_157, P0_157_0, P0_157_1, P0_157_2, P0_157_12, P0_157_16, P0_157_17, P0_157_18, P0_157_19, P0_157_20, P0_157_21, P0_157_22, P0_157_24, P0_157_25, P0_157_29, P0_157_30, P0_157_31, P0_157_32, KD_162, LN_162, KD_163, LN_163, KD_164, LN_164, va_rf_some, xl_0, xl_1, xl_2, xl_3, xl_4, xl_5, xl_6, xl_7, xl_8, xl_458, xl_459, xl_460, and_false, false_and, tl_some, tl_none, xkl_int, xkl_ref, xkl_dm, xkl_long, true_and, and_true, o_cl, xin_o, lt_ti, le_ti, ito_o, t32_64, o_add1, oz, op0, op1, op2, op3, op4, op5, op6, op7, o8m, o3m, o161m, o461m, o48p, o66p, o72p, o136p, Int32.reduceToInt, Int32.reduceToNatClampNeg, i_10, i_01, le_om1, Int64.reduceToInt, ↓reduceIte, ite_n, ite_p, xu_hit, xu_miss, op11, not_true_eq_false, not_false_eq_true, decide_true, decide_false, bIt0, bIf0, and_self, Int.reduceLE, Int.reduceLT, Int32.reduceAdd, Nat.reduceLeDiff, Nat.reduceLT, Nat.reduceAdd, Nat.reduceMul, Nat.reduceEqDiff, Nat.add_zero, Nat.zero_add, wr_0, xu_wr0, am_1, xm_1, am_2, xm_2, am_3, xm_3, am_4, xm_4, am_5, xm_5, am_6, xm_6, am_7, xm_7, am_8, xm_8, am_9, xm_9, am_10, xm_10, am_11, xm_11, am_12, xm_12, am_13, xm_13, am_14, xm_14, am_15, xm_15, am_16, xm_16, am_17, xm_17, hj, k5]
    rw [mset_loop m (j + 1) _ (by omega)]
    congr 2
    funext a k
    simp only [xuI_ap]
    grind
theorem m_settle {T : Sv} : XM E d 136 [.ref 157] (wr 157 T I) J Q = Q none (wr 157 (msetF T) I) J := by
  simp (disch := first | omega | (simp only [nar_0, nar_1, nar_b, and_self, Nat.reduceLeDiff, Nat.reduceLT, Int32.reduceToInt]; done) | fail) only [mM_settle, eM_settle_0, eM_settle_1, eM_settle_3, eM_settle_5, eM_settle_8, eM_settle_9, eM_settle_12, eM_settle_13, eM_settle_14, eM_settle_15, eM_settle_16, eM_settle_19, eM_settle_20, eM_settle_21, eM_settle_22, eM_settle_23, eM_settle_26, eM_settle_27, eM_settle_28, eM_settle_29, eM_settle_32, eM_settle_35, va_rf_some, xl_0, xl_1, xl_2, xl_3, xl_4, xl_5, xl_6, xl_7, xl_8, xl_458, xl_459, xl_460, and_false, false_and, tl_some, tl_none, xkl_int, xkl_ref, xkl_dm, xkl_long, true_and, and_true, o_cl, xin_o, lt_ti, le_ti, ito_o, t32_64, o_add1, oz, op0, op1, op2, op3, op4, op5, op6, op7, o8m, o3m, o161m, o461m, o48p, o66p, o72p, o136p, Int32.reduceToInt, Int32.reduceToNatClampNeg, i_10, i_01, le_om1, Int64.reduceToInt, ↓reduceIte, ite_n, ite_p, xu_hit, xu_miss, op11, not_true_eq_false, not_false_eq_true, decide_true, decide_false, bIt0, bIf0, and_self, Int.reduceLE, Int.reduceLT, Int32.reduceAdd, Nat.reduceLeDiff, Nat.reduceLT, Nat.reduceAdd, Nat.reduceMul, Nat.reduceEqDiff, Nat.add_zero, Nat.zero_add]
  have := mset_loop (E := E) (d := d) (I := I) (J := J) (Q := Q) 8 0 T (by omega)
  simp only [Nat.zero_le, true_and] at this
  exact this
theorem mbeg_loop1 (hG : OkS G) : ∀ (m j : Nat) (T : Sv), T 1 = G → j + m = gt G → X E (d + 1) 137 2 [.ref 157, .int (o j)] [] (wr 157 T I) J Q = X E (d + 1) 137 28 [.ref 157, .int (o (gt G))] [] (wr 157 (fun a k => if a = 4 ∧ j ≤ k ∧ k < gt G then G (48 + 3 * k + 2) else T a k) I) J Q
  | 0, j, T, hT, h => by
    obtain ⟨⟨e1, g1⟩, ⟨e2, g2⟩, ⟨e3, g3⟩, e4, oL, oT, oN, oC⟩ := hG
    have e : j = gt G := by omega
    subst e
    have hj : ((gt G : Nat) : Int) ≤ ((gt G : Nat) : Int) := by omega
    rw [eM_begin_2]
    simp (disch := first | omega | (simp only [nar_0, nar_1, nar_b, and_self, Nat.reduceLeDiff, Nat.reduceLT, Int32.reduceToInt, KD_157, LN_157, P0_157_0, P0_157_1, P0_157_2, P0_157_12, P0_157_16, P0_157_17, P0_157_18, P0_157_19, P0_157_20, P0_157_21, P0_157_22, P0_157_24, P0_157_25, P0_157_29, P0_157_30, P0_157_31, P0_157_32, KD_158, LN_158]; done) | fail) only [mM_begin, eM_begin_0, eM_begin_1, eM_begin_3, eM_begin_4, eM_begin_7, eM_begin_10, eM_begin_11, eM_begin_14, eM_begin_15, eM_begin_16, eM_begin_17, eM_begin_18, eM_begin_21, eM_begin_22, eM_begin_25, eM_begin_29, eM_begin_30, eM_begin_33, eM_begin_34, eM_begin_35, eM_begin_38, eM_begin_39, eM_begin_40, eM_begin_43, eM_begin_44, eM_begin_46, eM_begin_48, eM_begin_51, eM_begin_52, eM_begin_55, eM_begin_56, eM_begin_57, eM_begin_58, eM_begin_61, eM_begin_64, KD_157, LN_157, P0_157_0, P0_157_1, P0_157_2, P0_157_12, P0_157_16, P0_157_17, P0_157_18, P0_157_19, P0_157_20, P0_157_21, P0_157_22, P0_157_24, P0_157_25, P0_157_29, P0_157_30, P0_157_31, P0_157_32, KD_158, LN_158, va_rf_some, xl_0, xl_1, xl_2, xl_3, xl_4, xl_5, xl_6, xl_7, xl_8, xl_458, xl_459, xl_460, and_false, false_and, tl_some, tl_none, xkl_int, xkl_ref, xkl_dm, xkl_long, true_and, and_true, o_cl, xin_o, lt_ti, le_ti, ito_o, t32_64, o_add1, oz, op0, op1, op2, op3, op4, op5, op6, op7, o8m, o3m, o161m, o461m, o48p, o66p, o72p, o136p, Int32.reduceToInt, Int32.reduceToNatClampNeg, i_10, i_01, le_om1, Int64.reduceToInt, ↓reduceIte, ite_n, ite_p, xu_hit, xu_miss, op11, not_true_eq_false, not_false_eq_true, decide_true, decide_false, bIt0, bIf0, and_self, Int.reduceLE, Int.reduceLT, Int32.reduceAdd, Nat.reduceLeDiff, Nat.reduceLT, Nat.reduceAdd, Nat.reduceMul, Nat.reduceEqDiff, Nat.add_zero, Nat.zero_add, wr_0, xu_wr0, am_1, xm_1, am_2, xm_2, am_3, xm_3, am_4, xm_4, am_5, xm_5, am_6, xm_6, am_7, xm_7, am_8, xm_8, am_9, xm_9, am_10, xm_10, am_11, xm_11, am_12, xm_12, am_13, xm_13, am_14, xm_14, am_15, xm_15, am_16, xm_16, am_17, xm_17, s_things, hT, e2, hj]
  | m + 1, j, T, hT, h => by
    have ih := fun T hT => mbeg_loop1 hG m (j + 1) T hT (by omega)
    obtain ⟨⟨e1, g1⟩, ⟨e2, g2⟩, ⟨e3, g3⟩, e4, oL, oT, oN, oC⟩ := hG
    have hj : ¬ ((gt G : Nat) : Int) ≤ (j : Int) := by omega
    have k5 : j < 6 := by omega
    rw [eM_begin_2]
    simp (disch := first | omega | (simp only [nar_0, nar_1, nar_b, and_self, Nat.reduceLeDiff, Nat.reduceLT, Int32.reduceToInt, KD_157, LN_157, P0_157_0, P0_157_1, P0_157_2, P0_157_12, P0_157_16, P0_157_17, P0_157_18, P0_157_19, P0_157_20, P0_157_21, P0_157_22, P0_157_24, P0_157_25, P0_157_29, P0_157_30, P0_157_31, P0_157_32, KD_158, LN_158, KD_161, LN_161]; done) | fail) only [mM_begin, eM_begin_0, eM_begin_1, eM_begin_3, eM_begin_4, eM_begin_7, eM_begin_10, eM_begin_11, eM_begin_14, eM_begin_15, eM_begin_16, eM_begin_17, eM_begin_18, eM_begin_21, eM_begin_22, eM_begin_25, eM_begin_29, eM_begin_30, eM_begin_33, eM_begin_34, eM_begin_35, eM_begin_38, eM_begin_39, eM_begin_40, eM_begin_43, eM_begin_44, eM_begin_46, eM_begin_48, eM_begin_51, eM_begin_52, eM_begin_55, eM_begin_56, eM_begin_57, eM_begin_58, eM_begin_61, eM_begin_64, KD_157, LN_157, P0_157_0, P0_157_1, P0_157_2, P0_157_12, P0_157_16, P0_157_17, P0_157_18, P0_157_19, P0_157_20, P0_157_21, P0_157_22, P0_157_24, P0_157_25, P0_157_29, P0_157_30, P0_157_31, P0_157_32, KD_158, LN_158, KD_161, LN_161, va_rf_some, xl_0, xl_1, xl_2, xl_3, xl_4, xl_5, xl_6, xl_7, xl_8, xl_458, xl_459, xl_460, and_false, false_and, tl_some, tl_none, xkl_int, xkl_ref, xkl_dm, xkl_long, true_and, and_true, o_cl, xin_o, lt_ti, le_ti, ito_o, t32_64, o_add1, oz, op0, op1, op2, op3, op4, op5, op6, op7, o8m, o3m, o161m, o461m, o48p, o66p, o72p, o136p, Int32.reduceToInt, Int32.reduceToNatClampNeg, i_10, i_01, le_om1, Int64.reduceToInt, ↓reduceIte, ite_n, ite_p, xu_hit, xu_miss, op11, not_true_eq_false, not_false_eq_true, decide_true, decide_false, bIt0, bIf0, and_self, Int.reduceLE, Int.reduceLT, Int32.reduceAdd, Nat.reduceLeDiff, Nat.reduceLT, Nat.reduceAdd, Nat.reduceMul, Nat.reduceEqDiff, Nat.add_zero, Nat.zero_add, wr_0, xu_wr0, am_1, xm_1, am_2, xm_2, am_3, xm_3, am_4, xm_4, am_5, xm_5, am_6, xm_6, am_7, xm_7, am_8, xm_8, am_9, xm_9, am_10, xm_10, am_11, xm_11, am_12, xm_12, am_13, xm_13, am_14, xm_14, am_15, xm_15, am_16, xm_16, am_17, xm_17, s_things, hT, e2, hj, k5, ofT_2]
    rw [ih _ (by rw [← hT]; funext k; exact xu_06 (by omega))]
    congr 2
    funext a k
    simp only [xuI_ap]
    grind
theorem mbeg_loop2 : ∀ (m j : Nat) (T : Sv), j + m = 6 → X E d 137 45 [.ref 157, .int (o j)] [] (wr 157 T I) J Q = Q none (wr 157 (fun a k => if a = 11 ∧ j ≤ k ∧ k < 6 then 0 else T a k) I) J
  | 0, j, T, h => by
    have e : j = 6 := by omega
    subst e
    rw [eM_begin_45]
    simp only [eM_begin_46, eM_begin_48, eM_begin_64, le_ti, o_toInt (by omega : 6 < 2147483648), Int32.reduceToInt]
    rw [if_pos (by decide)]
    congr 2
    funext b k
    rw [if_neg (by omega)]
  | m + 1, j, T, h => by
    have hj : ¬ (6 : Int) ≤ (j : Int) := by omega
    have k5 : j < 6 := by omega
    rw [eM_begin_45]
    simp (disch := first | omega | (simp only [nar_0, nar_1, nar_b, and_self, Nat.reduceLeDiff, Nat.reduceLT, Int32.reduceToInt, KD_157, LN_157, P0_157_0, P0_157_1, P0_157_2, P0_157_12, P0_157_16, P0_157_17, P0_157_18, P0_157_19, P0_157_20, P0_157_21, P0_157_22, P0_157_24, P0_157_25, P0_157_29, P0_157_30, P0_157_31, P0_157_32, KD_168, LN_168]; done) | fail) only [mM_begin, eM_begin_0, eM_begin_1, eM_begin_3, eM_begin_4, eM_begin_7, eM_begin_10, eM_begin_11, eM_begin_14, eM_begin_15, eM_begin_16, eM_begin_17, eM_begin_18, eM_begin_21, eM_begin_22, eM_begin_25, eM_begin_28, eM_begin_29, eM_begin_30, eM_begin_33, eM_begin_34, eM_begin_35, eM_begin_38, eM_begin_39, eM_begin_40, eM_begin_43, eM_begin_44, eM_begin_46, eM_begin_48, eM_begin_51, eM_begin_52, eM_begin_55, eM_begin_56, eM_begin_57, eM_begin_58, eM_begin_61, eM_begin_64, KD_157, LN_157, P0_157_0, P0_157_1, P0_157_2, P0_157_12, P0_157_16, P0_157_17, P0_157_18, P0_157_19, P0_157_20, P0_157_21, P0_157_22, P0_157_24, P0_157_25, P0_157_29, P0_157_30, P0_157_31, P0_157_32, KD_168, LN_168, va_rf_some, xl_0, xl_1, xl_2, xl_3, xl_4, xl_5, xl_6, xl_7, xl_8, xl_458, xl_459, xl_460, and_false, false_and, tl_some, tl_none, xkl_int, xkl_ref, xkl_dm, xkl_long, true_and, and_true, o_cl, xin_o, lt_ti, le_ti, ito_o, t32_64, o_add1, oz, op0, op1, op2, op3, op4, op5, op6, op7, o8m, o3m, o161m, o461m, o48p, o66p, o72p, o136p, Int32.reduceToInt, Int32.reduceToNatClampNeg, i_10, i_01, le_om1, Int64.reduceToInt, ↓reduceIte, ite_n, ite_p, xu_hit, xu_miss, op11, not_true_eq_false, not_false_eq_true, decide_true, decide_false, bIt0, bIf0, and_self, Int.reduceLE, Int.reduceLT, Int32.reduceAdd, Nat.reduceLeDiff, Nat.reduceLT, Nat.reduceAdd, Nat.reduceMul, Nat.reduceEqDiff, Nat.add_zero, Nat.zero_add, wr_0, xu_wr0, am_1, xm_1, am_2, xm_2, am_3, xm_3, am_4, xm_4, am_5, xm_5, am_6, xm_6, am_7, xm_7, am_8, xm_8, am_9, xm_9, am_10, xm_10, am_11, xm_11, am_12, xm_12, am_13, xm_13, am_14, xm_14, am_15, xm_15, am_16, xm_16, am_17, xm_17, hj, k5, vn_0]
    rw [mbeg_loop2 m (j + 1) _ (by omega)]
    congr 2
    funext a k
    simp only [xuI_ap]
    grind
theorem m_begin {T : Sv} (hT : T 1 = G) (hG : OkS G) : XM E (d + 1) 137 [.ref 157] (wr 157 T I) J Q = Q none (wr 157 (mbegF G T) I) J := by
  have h1 := fun Q => mbeg_loop1 (E := E) (d := d) (I := I) (J := J) (Q := Q) hG (gt G) 0 T hT (by omega)
  have h2 := fun T => mbeg_loop2 (E := E) (d := d + 1) (I := I) (J := J) (Q := Q) 6 0 T (by omega)
  simp only [show o 0 = 0 from rfl] at h1 h2
  simp (disch := first | omega | (simp only [nar_0, nar_1, nar_b, and_self, Nat.reduceLeDiff, Nat.reduceLT, Int32.reduceToInt]; done) | fail) only [mM_begin, eM_begin_0, eM_begin_1, eM_begin_3, eM_begin_4, eM_begin_7, eM_begin_10, eM_begin_11, eM_begin_14, eM_begin_15, eM_begin_16, eM_begin_17, eM_begin_18, eM_begin_21, eM_begin_22, eM_begin_25, eM_begin_29, eM_begin_30, eM_begin_33, eM_begin_34, eM_begin_35, eM_begin_38, eM_begin_39, eM_begin_40, eM_begin_43, eM_begin_44, eM_begin_46, eM_begin_48, eM_begin_51, eM_begin_52, eM_begin_55, eM_begin_56, eM_begin_57, eM_begin_58, eM_begin_61, eM_begin_64, va_rf_some, xl_0, xl_1, xl_2, xl_3, xl_4, xl_5, xl_6, xl_7, xl_8, xl_458, xl_459, xl_460, and_false, false_and, tl_some, tl_none, xkl_int, xkl_ref, xkl_dm, xkl_long, true_and, and_true, o_cl, xin_o, lt_ti, le_ti, ito_o, t32_64, o_add1, oz, op0, op1, op2, op3, op4, op5, op6, op7, o8m, o3m, o161m, o461m, o48p, o66p, o72p, o136p, Int32.reduceToInt, Int32.reduceToNatClampNeg, i_10, i_01, le_om1, Int64.reduceToInt, ↓reduceIte, ite_n, ite_p, xu_hit, xu_miss, op11, not_true_eq_false, not_false_eq_true, decide_true, decide_false, bIt0, bIf0, and_self, Int.reduceLE, Int.reduceLT, Int32.reduceAdd, Nat.reduceLeDiff, Nat.reduceLT, Nat.reduceAdd, Nat.reduceMul, Nat.reduceEqDiff, Nat.add_zero, Nat.zero_add]
  rw [h1]
  simp (disch := first | omega | (simp only [nar_0, nar_1, nar_b, and_self, Nat.reduceLeDiff, Nat.reduceLT, Int32.reduceToInt, KD_157, LN_157, P0_157_0, P0_157_1, P0_157_2, P0_157_12, P0_157_16, P0_157_17, P0_157_18, P0_157_19, P0_157_20, P0_157_21, P0_157_22, P0_157_24, P0_157_25, P0_157_29, P0_157_30, P0_157_31, P0_157_32]; done) | fail) only [mM_begin, eM_begin_0, eM_begin_1, eM_begin_3, eM_begin_4, eM_begin_7, eM_begin_10, eM_begin_11, eM_begin_14, eM_begin_15, eM_begin_16, eM_begin_17, eM_begin_18, eM_begin_21, eM_begin_22, eM_begin_25, eM_begin_28, eM_begin_29, eM_begin_30, eM_begin_33, eM_begin_34, eM_begin_35, eM_begin_38, eM_begin_39, eM_begin_40, eM_begin_43, eM_begin_44, eM_begin_46, eM_begin_48, eM_begin_51, eM_begin_52, eM_begin_55, eM_begin_56, eM_begin_57, eM_begin_58, eM_begin_61, eM_begin_64, KD_157, LN_157, P0_157_0, P0_157_1, P0_157_2, P0_157_12, P0_157_16, P0_157_17, P0_157_18, P0_157_19, P0_157_20, P0_157_21, P0_157_22, P0_157_24, P0_157_25, P0_157_29, P0_157_30, P0_157_31, P0_157_32, va_rf_some, xl_0, xl_1, xl_2, xl_3, xl_4, xl_5, xl_6, xl_7, xl_8, xl_458, xl_459, xl_460, and_false, false_and, tl_some, tl_none, xkl_int, xkl_ref, xkl_dm, xkl_long, true_and, and_true, o_cl, xin_o, lt_ti, le_ti, ito_o, t32_64, o_add1, oz, op0, op1, op2, op3, op4, op5, op6, op7, o8m, o3m, o161m, o461m, o48p, o66p, o72p, o136p, Int32.reduceToInt, Int32.reduceToNatClampNeg, i_10, i_01, le_om1, Int64.reduceToInt, ↓reduceIte, ite_n, ite_p, xu_hit, xu_miss, op11, not_true_eq_false, not_false_eq_true, decide_true, decide_false, bIt0, bIf0, and_self, Int.reduceLE, Int.reduceLT, Int32.reduceAdd, Nat.reduceLeDiff, Nat.reduceLT, Nat.reduceAdd, Nat.reduceMul, Nat.reduceEqDiff, Nat.add_zero, Nat.zero_add, wr_0, xu_wr0, am_1, xm_1, am_2, xm_2, am_3, xm_3, am_4, xm_4, am_5, xm_5, am_6, xm_6, am_7, xm_7, am_8, xm_8, am_9, xm_9, am_10, xm_10, am_11, xm_11, am_12, xm_12, am_13, xm_13, am_14, xm_14, am_15, xm_15, am_16, xm_16, am_17, xm_17]
  rw [h2]
  congr 2
  funext a k
  unfold mbegF
  simp only [xuI_ap]
  grind
end
