/-! ROWS OF ACTS BY THEIR NUMBERS -/
def dg (K s x i : Nat) : Nat := x / K ^ (s - 1 - i) % K
def runN (G : Gv) (K s x : Nat) : Nat → Option Sv
  | 0 => some (S00 G)
  | i + 1 => match runN G K s x i with
    | some S => if (actF G (dg K s x i) S).1 = true then some (actF G (dg K s x i) S).2 else none
    | none => none
def vN (G : Gv) (K s x : Nat) : Option Int32 := match runN G K s x s with
  | some S => if S 0 6 = 0 then some (S 1 (G 70).toNatClampNeg) else none
  | none => none
def BestN (G : Gv) (K n : Nat) (v : Int32) (s1 x1 : Nat) : Prop := s1 ≤ n ∧ x1 < K ^ s1 ∧ vN G K s1 x1 = some v ∧ ∀ s' x' v', s' ≤ n → x' < K ^ s' → vN G K s' x' = some v' → v'.toInt < v.toInt ∨ (v' = v ∧ (s1 < s' ∨ (s1 = s' ∧ x1 ≤ x')))
theorem BestN_uni {G : Gv} {K n : Nat} {v v' : Int32} {s1 x1 s2 x2 : Nat} (h : BestN G K n v s1 x1) (h2 : BestN G K n v' s2 x2) : v = v' ∧ s1 = s2 ∧ x1 = x2 := by
  obtain ⟨a1, a2, a3, a4⟩ := h
  obtain ⟨b1, b2, b3, b4⟩ := h2
  have p := a4 s2 x2 v' b1 b2 b3
  have q := b4 s1 x1 v a1 a2 a3
  rcases p with p | ⟨p1, p2⟩
  · rcases q with q | ⟨q1, q2⟩
    · omega
    · rw [q1] at p; omega
  · refine ⟨p1.symm, ?_⟩
    rcases q with q | ⟨q1, q2⟩
    · rw [p1] at q; omega
    · omega
theorem runN_inv {G : Gv} {K s x : Nat} (hG : OkS G) (hg : 0 < gl G) : ∀ (i : Nat) (S : Sv), i ≤ 40 → runN G K s x i = some S → S 0 8 = 0 ∧ LdOk G S ∧ Bs (100 + 2000 * i) S
  | 0, S, _, h => by
    cases h
    exact ⟨by unfold S00; rw [dep_at]; rfl, ld_dep hg, bs_begin hG⟩
  | i + 1, S, hi, h => by
    unfold runN at h
    cases hr : runN G K s x i with
    | none => rw [hr] at h; cases h
    | some S1 =>
      obtain ⟨h1, h2, h3⟩ := runN_inv hG hg i S1 (by omega) hr
      rw [hr] at h
      simp only [] at h
      split at h
      · next z =>
        cases h
        refine ⟨act_08 h1 z, act_ld hG h2, ?_⟩
        have := act_bs (a := dg K s x i) hG h2 h3 (by omega)
        rw [show 100 + 2000 * (i + 1) = 100 + 2000 * i + 2000 by omega]
        exact this
      · cases h
theorem o_mod (a b : Nat) (ha : a < 2147483648) (hb : b < 2147483648) : o a - o a / o b * o b = o (a % b) := by
  rw [o_div a b ha hb, o_mul, o_sub (Nat.div_mul_le_self a b)]
  congr 1
  rw [Nat.mod_def, Nat.mul_comm]
section
variable {E : XE} {d : Nat} {I : Iv} {J : Jv} {Q : XQt} {G : Gv}
theorem mdig_row {i1 i2 i3 i5 : Int32} {v10 : Value} {K s x : Nat} (hK : 3 ≤ K) (hK2 : K ≤ 11) (hs : s ≤ 4) (hx : x < 20000) : ∀ (m : Nat) (T : Sv), m ≤ s → X E d 161 65 [.ref 157, .int i1, .int i2, .int i3, .int (o K), .int i5, .int (o s), .int (o x), .int (o (x / K ^ (s - m))), .int (o m - 1), v10] [] (wr 157 T I) J Q = X E d 161 95 [.ref 157, .int i1, .int i2, .int i3, .int (o K), .int i5, .int (o s), .int (o x), .int (o (x / K ^ s)), .int (-1), v10] [] (wr 157 (fun a k => if a = 16 ∧ k < m then o (dg K s x k) else T a k) I) J Q
  | 0, T, hm => by
    have e1 : (fun a k => if a = 16 ∧ k < 0 then o (dg K s x k) else T a k) = T := by funext a k; rw [if_neg (by omega)]
    have e2 : o 0 - 1 = -1 := by decide
    rw [e1, e2, Nat.sub_zero]
    rw [eM_findBest_65]
    simp (disch := first | omega | (simp only [nar_0, nar_1, nar_b, and_self, Nat.reduceLeDiff, Nat.reduceLT, Int32.reduceToInt]; done) | fail) only [mM_findBest, eM_findBest_0, eM_findBest_1, eM_findBest_2, eM_findBest_5, eM_findBest_6, eM_findBest_7, eM_findBest_8, eM_findBest_9, eM_findBest_12, eM_findBest_13, eM_findBest_14, eM_findBest_15, eM_findBest_18, eM_findBest_19, eM_findBest_20, eM_findBest_23, eM_findBest_24, eM_findBest_26, eM_findBest_27, eM_findBest_29, eM_findBest_30, eM_findBest_34, eM_findBest_35, eM_findBest_38, eM_findBest_40, eM_findBest_42, eM_findBest_43, eM_findBest_45, eM_findBest_46, eM_findBest_50, eM_findBest_52, eM_findBest_55, eM_findBest_57, eM_findBest_59, eM_findBest_61, eM_findBest_62, eM_findBest_63, eM_findBest_67, eM_findBest_70, eM_findBest_71, eM_findBest_74, eM_findBest_76, eM_findBest_78, eM_findBest_80, eM_findBest_81, eM_findBest_82, eM_findBest_84, eM_findBest_86, eM_findBest_87, eM_findBest_89, eM_findBest_92, eM_findBest_96, eM_findBest_99, eM_findBest_100, eM_findBest_103, eM_findBest_104, eM_findBest_106, eM_findBest_107, eM_findBest_111, eM_findBest_113, eM_findBest_116, eM_findBest_118, eM_findBest_121, eM_findBest_122, eM_findBest_123, eM_findBest_126, eM_findBest_128, eM_findBest_129, eM_findBest_132, eM_findBest_134, eM_findBest_137, eM_findBest_140, eM_findBest_142, eM_findBest_145, eM_findBest_146, eM_findBest_149, eM_findBest_152, eM_findBest_153, eM_findBest_156, eM_findBest_157, eM_findBest_158, eM_findBest_159, eM_findBest_162, eM_findBest_163, eM_findBest_166, eM_findBest_167, eM_findBest_168, eM_findBest_169, eM_findBest_170, eM_findBest_172, eM_findBest_175, eM_findBest_176, eM_findBest_180, eM_findBest_182, eM_findBest_185, eM_findBest_186, eM_findBest_189, eM_findBest_191, eM_findBest_192, eM_findBest_195, eM_findBest_197, eM_findBest_198, eM_findBest_199, eM_findBest_202, eM_findBest_205, eM_findBest_208, eM_findBest_211, eM_findBest_214, eM_findBest_217, eM_findBest_218, va_rf_some, xl_0, xl_1, xl_2, xl_3, xl_4, xl_5, xl_6, xl_7, xl_8, xl_458, xl_459, xl_460, and_false, false_and, tl_some, tl_none, xkl_int, xkl_ref, xkl_dm, xkl_long, true_and, and_true, o_cl, xin_o, lt_ti, le_ti, ito_o, t32_64, o_add1, oz, op0, op1, op2, op3, op4, op5, op6, op7, o8m, o3m, o161m, o461m, o48p, o66p, o72p, o136p, Int32.reduceToInt, Int32.reduceToNatClampNeg, i_10, i_01, le_om1, Int64.reduceToInt, ↓reduceIte, ite_n, ite_p, xu_hit, xu_miss, op11, not_true_eq_false, not_false_eq_true, decide_true, decide_false, bIt0, bIf0, and_self, Int.reduceLE, Int.reduceLT, Int32.reduceAdd, Nat.reduceLeDiff, Nat.reduceLT, Nat.reduceAdd, Nat.reduceMul, Nat.reduceEqDiff, Nat.add_zero, Nat.zero_add]
  | m + 1, T, hm => by
    have ih := fun T => mdig_row (i1 := i1) (i2 := i2) (i3 := i3) (i5 := i5) (v10 := v10) hK hK2 hs hx m T (by omega)
    have k5 : m < 4 := by omega
    have z : ¬ (o m).toInt < 0 := by rw [ito_o _ (by omega)]; omega
    have hq : x / K ^ (s - (m + 1)) ≤ x := Nat.div_le_self _ _
    have e1 : o (x / K ^ (s - (m + 1))) - o (x / K ^ (s - (m + 1))) / o K * o K = o (dg K s x m) := by
      rw [o_mod _ _ (by omega) (by omega)]
      unfold dg
      rw [show s - 1 - m = s - (m + 1) by omega]
    have e2 : o (x / K ^ (s - (m + 1))) / o K = o (x / K ^ (s - m)) := by
      rw [o_div _ _ (by omega) (by omega), Nat.div_div_eq_div_mul, ← Nat.pow_succ, show (s - (m + 1)).succ = s - m by omega]
    have e1' := e1
    rw [e2] at e1'
    have e3 : ¬ o K = 0 := by rw [oe_0 (by omega)]; omega
    have e4 : o m + -1 = o m - 1 := by
      rw [Int32.sub_eq_add_neg]
    have xdm' : ∀ v, xkl (.int v) = .int v := fun _ => rfl
    rw [op11, eM_findBest_65]
    simp (disch := first | omega | (simp only [nar_0, nar_1, nar_b, and_self, Nat.reduceLeDiff, Nat.reduceLT, Int32.reduceToInt, KD_157, LN_157, P0_157_0, P0_157_1, P0_157_2, P0_157_12, P0_157_16, P0_157_17, P0_157_18, P0_157_19, P0_157_20, P0_157_21, P0_157_22, P0_157_24, P0_157_25, P0_157_29, P0_157_30, P0_157_31, P0_157_32, KD_173, LN_173]; done) | fail) only [mM_findBest, eM_findBest_0, eM_findBest_1, eM_findBest_2, eM_findBest_5, eM_findBest_6, eM_findBest_7, eM_findBest_8, eM_findBest_9, eM_findBest_12, eM_findBest_13, eM_findBest_14, eM_findBest_15, eM_findBest_18, eM_findBest_19, eM_findBest_20, eM_findBest_23, eM_findBest_24, eM_findBest_26, eM_findBest_27, eM_findBest_29, eM_findBest_30, eM_findBest_34, eM_findBest_35, eM_findBest_38, eM_findBest_40, eM_findBest_42, eM_findBest_43, eM_findBest_45, eM_findBest_46, eM_findBest_50, eM_findBest_52, eM_findBest_55, eM_findBest_57, eM_findBest_59, eM_findBest_61, eM_findBest_62, eM_findBest_63, eM_findBest_67, eM_findBest_70, eM_findBest_71, eM_findBest_74, eM_findBest_76, eM_findBest_78, eM_findBest_80, eM_findBest_81, eM_findBest_82, eM_findBest_84, eM_findBest_86, eM_findBest_87, eM_findBest_89, eM_findBest_92, eM_findBest_96, eM_findBest_99, eM_findBest_100, eM_findBest_103, eM_findBest_104, eM_findBest_106, eM_findBest_107, eM_findBest_111, eM_findBest_113, eM_findBest_116, eM_findBest_118, eM_findBest_121, eM_findBest_122, eM_findBest_123, eM_findBest_126, eM_findBest_128, eM_findBest_129, eM_findBest_132, eM_findBest_134, eM_findBest_137, eM_findBest_140, eM_findBest_142, eM_findBest_145, eM_findBest_146, eM_findBest_149, eM_findBest_152, eM_findBest_153, eM_findBest_156, eM_findBest_157, eM_findBest_158, eM_findBest_159, eM_findBest_162, eM_findBest_163, eM_findBest_166, eM_findBest_167, eM_findBest_168, eM_findBest_169, eM_findBest_170, eM_findBest_172, eM_findBest_175, eM_findBest_176, eM_findBest_180, eM_findBest_182, eM_findBest_185, eM_findBest_186, eM_findBest_189, eM_findBest_191, eM_findBest_192, eM_findBest_195, eM_findBest_197, eM_findBest_198, eM_findBest_199, eM_findBest_202, eM_findBest_205, eM_findBest_208, eM_findBest_211, eM_findBest_214, eM_findBest_217, eM_findBest_218, KD_157, LN_157, P0_157_0, P0_157_1, P0_157_2, P0_157_12, P0_157_16, P0_157_17, P0_157_18, P0_157_19, P0_157_20, P0_157_21, P0_157_22, P0_157_24, P0_157_25, P0_157_29, P0_157_30, P0_157_31, P0_157_32, KD_173, LN_173, va_rf_some, xl_0, xl_1, xl_2, xl_3, xl_4, xl_5, xl_6, xl_7, xl_8, xl_458, xl_459, xl_460, and_false, false_and, tl_some, tl_none, xkl_int, xkl_ref, xkl_dm, xkl_long, true_and, and_true, o_cl, xin_o, lt_ti, le_ti, ito_o, t32_64, o_add1, oz, op0, op1, op2, op3, op4, op5, op6, op7, o8m, o3m, o161m, o461m, o48p, o66p, o72p, o136p, Int32.reduceToInt, Int32.reduceToNatClampNeg, i_10, i_01, le_om1, Int64.reduceToInt, ↓reduceIte, ite_n, ite_p, xu_hit, xu_miss, op11, not_true_eq_false, not_false_eq_true, decide_true, decide_false, bIt0, bIf0, and_self, Int.reduceLE, Int.reduceLT, Int32.reduceAdd, Nat.reduceLeDiff, Nat.reduceLT, Nat.reduceAdd, Nat.reduceMul, Nat.reduceEqDiff, Nat.add_zero, Nat.zero_add, wr_0, xu_wr0, am_1, xm_1, am_2, xm_2, am_3, xm_3, am_4, xm_4, am_5, xm_5, am_6, xm_6, am_7, xm_7, am_8, xm_8, am_9, xm_9, am_10, xm_10, am_11, xm_11, am_12, xm_12, am_13, xm_13, am_14, xm_14, am_15, xm_15, am_16, xm_16, am_17, xm_17, z, k5, e1', e2, e3, e4]
    rw [ih]
    congr 2
    funext a k
    simp only [xuI_ap]
    by_cases h1 : a = 16 ∧ k = m
    · obtain ⟨rfl, rfl⟩ := h1
      rw [if_neg (by omega), if_pos ⟨rfl, rfl⟩, if_pos ⟨rfl, by omega⟩]
    · by_cases h2 : a = 16 ∧ k < m
      · rw [if_pos h2, if_pos ⟨h2.1, by omega⟩]
      · rw [if_neg h2, if_neg h1, if_neg (by omega)]
end
