/-! VOYAGES: up, down; what steps leave -/
theorem xu_06 {S : Sv} {a k b j : Nat} {x : Int32} (h : ¬ (a = b ∧ k = j)) : xuI S b j x a k = S a k := xu_miss h
theorem eat_keep {G : Gv} {S : Sv} {a k : Nat} (h1 : ¬ (a = 0 ∧ k = 8)) (h2 : ¬ a = 1) : eatF G S a k = S a k := by
  unfold eatF
  split
  · rfl
  · split
    · exact xu_06 h1
    · exact xu_06 (fun q => h2 q.1)
theorem spoil_keep {G : Gv} {S : Sv} {a k : Nat} (h2 : ¬ a = 1) : spoilF G S a k = S a k := if_neg (fun q => h2 q.1)
theorem come_keep {G : Gv} {S : Sv} {a k : Nat} (h2 : ¬ a = 3) : comeF G S a k = S a k := if_neg (fun q => h2 q.1)
theorem pass1_keep {G : Gv} {S : Sv} {a k : Nat} (h1 : ¬ (a = 0 ∧ k = 8)) (h2 : ¬ (a = 0 ∧ k = 7)) (h3 : ¬ a = 1) (h4 : ¬ a = 3) : pass1F G S a k = S a k := by
  unfold pass1F
  generalize hS2 : eatF G (spoilF G (xuI S 0 7 (S 0 7 + 1))) = S2
  have e2 : S2 a k = S a k := by
    rw [← hS2, eat_keep h1 h3, spoil_keep h3, xu_06 h2]
  have e3 : (if S2 0 8 = 0 ∧ (G 69).toInt < (S2 0 7).toInt then xuI S2 0 8 2 else S2) a k = S a k := by
    split
    · rw [xu_06 h1]; exact e2
    · exact e2
  generalize (if S2 0 8 = 0 ∧ (G 69).toInt < (S2 0 7).toInt then xuI S2 0 8 2 else S2) = S3 at e3 ⊢
  split
  · rw [come_keep h4]; exact e3
  · exact e3
theorem pass_keep {G : Gv} {a k : Nat} (h1 : ¬ (a = 0 ∧ k = 8)) (h2 : ¬ (a = 0 ∧ k = 7)) (h3 : ¬ a = 1) (h4 : ¬ a = 3) : ∀ (n : Nat) (S : Sv), passF G n S a k = S a k
  | 0, S => rfl
  | n + 1, S => by
    unfold passF
    split
    · rw [pass_keep h1 h2 h3 h4 n, pass1_keep h1 h2 h3 h4]
    · rfl
def upD (G : Gv) (l : Nat) : Nat := ((G (8 * l)).toNatClampNeg * 2 + (G 67).toNatClampNeg - 1) / (G 67).toNatClampNeg
def goUpF (G : Gv) (S : Sv) : Sv := if (S 0 6).toNatClampNeg + 1 < gl G then arrF G ((S 0 6).toNatClampNeg + 1) (passF G (upD G ((S 0 6).toNatClampNeg + 1)) S) else xuI S 0 8 6
def goDownF (G : Gv) (S : Sv) : Sv := if 1 ≤ (S 0 6).toNatClampNeg ∧ (S 0 6).toNatClampNeg < gl G then arrF G ((S 0 6).toNatClampNeg - 1) (passF G (G (8 * (S 0 6).toNatClampNeg + 1)).toNatClampNeg S) else xuI S 0 8 6
section
variable {E : XE} {d : Nat} {I : Iv} {J : Jv} {Q : XQt} {G : Gv} {v : Nat}
theorem v_goUp {S : Sv} {p : Nat} (hp : S 0 6 = o p) (hp6 : p < 6) (hv : VY v) (hF : RF G I) (hG : OkS G) : XM E (d + 2) 47 [.ref v] (wr v S I) J Q = Q none (wr v (goUpF G S) I) J := by
  have hT := fun E d J Q x => s_hasT (E := E) (d := d) (I := wr v S I) (J := J) (Q := Q) (x := x) TB_2
  have hps := fun E d J Q n hn => v_pass (E := E) (d := d) (J := J) (Q := Q) (S := S) (n := n) hn hv hF hG
  have har := fun E d J Q S l hl => v_arrive (E := E) (d := d) (J := J) (Q := Q) (S := S) (l := l) hl hv hF hG
  obtain ⟨v0, v1, -, -, -, -, -, vv⟩ := hv
  obtain ⟨r2, r10, r18, rL, rT, rN, rC, rX⟩ := hF
  obtain ⟨⟨e1, g1⟩, ⟨e2, g2⟩, ⟨e3, g3⟩, e4, oL, oT, oN, oC⟩ := hG
  obtain ⟨o1, o2, o3, o4, o5, o6⟩ := oN
  unfold goUpF
  rw [hp, o_cl (by omega)]
  by_cases h1 : p + 1 < gl G
  · rw [if_pos h1]
    have h2 : 0 ≤ ((p + 1 : Nat) : Int) ∧ ((p + 1 : Nat) : Int) < (gl G : Int) := by omega
    obtain ⟨k1, k2, k3⟩ := LK_L (by omega : p + 1 < 6)
    have k5 : p + 1 < 6 := by omega
    obtain ⟨-, -, a3, -⟩ := oL (p + 1) h1
    have b0 : I (4 + (p + 1)) 0 = G (8 * (p + 1)) := rL (p + 1) 0 h1 (by omega)
    have n1 : I 28 1 = G 67 := rN 1 (by omega)
    obtain ⟨u, hu, hu1, hu2, hu3⟩ := of_bw (a3.resolve_left (by omega)).1 (by omega)
    obtain ⟨w, hw, hw1, hw2, hw3⟩ := of_bw o2 (by omega)
    have hD : upD G (p + 1) = (u * 2 + w - 1) / w := by
      unfold upD
      rw [hu, hw, o_cl hu3, o_cl hw3]
    have hm : (if (1 : Int32).toInt < (o w).toInt then o w else 1) = o w := by
      split
      · rfl
      · next h =>
        rw [ito_o _ hw3, show (1 : Int32).toInt = 1 from rfl] at h
        have : w = 1 := by omega
        rw [this]
        rfl
    have hq1 : 1 ≤ (u * 2 + w - 1) / w := (Nat.le_div_iff_mul_le (by omega)).mpr (by omega)
    have hq2 : (u * 2 + w - 1) / w ≤ u * 2 + w - 1 := Nat.div_le_self _ _
    have hm2 : (if (1 : Int32).toInt < (o ((u * 2 + w - 1) / w)).toInt then o ((u * 2 + w - 1) / w) else 1) = o ((u * 2 + w - 1) / w) := by
      split
      · rfl
      · next h =>
        generalize (u * 2 + w - 1) / w = q at *
        rw [ito_o _ (by omega), show (1 : Int32).toInt = 1 from rfl] at h
        have : q = 1 := by omega
        rw [this]
        rfl
    have f1 : o u * 2 + o w - 1 = o (u * 2 + w - 1) := by
      rw [o_lit2, o_mul, o_add, o_lit1, o_sub (by omega)]
    have f2 : o (u * 2 + w - 1) / o w = o ((u * 2 + w - 1) / w) := o_div _ _ (by omega) (by omega)
    have f3 : ¬ o w = 0 := by rw [oe_0 (by omega)]; omega
    have hps' := fun E d J Q => hps E d J Q ((u * 2 + w - 1) / w) (by generalize (u * 2 + w - 1) / w = q at *; omega)
    have har' := fun E d J Q S => har E d J Q S (p + 1) h1
    rw [hu] at b0
    rw [hw] at n1
    rw [hD]
    have mx1 := fun E d I J Q => s_max (E := E) (d := d) (I := I) (J := J) (Q := Q) (a := 1) (b := o w)
    have mx2 := fun E d I J Q => s_max (E := E) (d := d) (I := I) (J := J) (Q := Q) (a := 1) (b := o ((u * 2 + w - 1) / w))
    simp only [hm] at mx1
    simp only [hm2] at mx2
    simp (disch := first | omega | (simp only [nar_0, nar_1, nar_b, and_self, Nat.reduceLeDiff, Nat.reduceLT, Int32.reduceToInt, KD_1, LN_1, P0_1_0, P0_1_1, P0_1_2, P0_1_3, P0_1_4, KD_2, LN_2, P0_2_0, KD_3, LN_3, P0_3_0, P0_3_1, P0_3_2, P0_3_3, P0_3_4, P0_3_5, KD_28, LN_28]; done) | fail) only [mVoyage_goUp, eVoyage_goUp_0, eVoyage_goUp_1, eVoyage_goUp_4, eVoyage_goUp_5, eVoyage_goUp_6, eVoyage_goUp_7, eVoyage_goUp_8, eVoyage_goUp_11, eVoyage_goUp_14, eVoyage_goUp_15, eVoyage_goUp_18, eVoyage_goUp_21, eVoyage_goUp_22, eVoyage_goUp_24, eVoyage_goUp_27, eVoyage_goUp_28, eVoyage_goUp_29, eVoyage_goUp_30, eVoyage_goUp_33, eVoyage_goUp_36, eVoyage_goUp_37, eVoyage_goUp_38, eVoyage_goUp_41, eVoyage_goUp_42, eVoyage_goUp_43, eVoyage_goUp_46, eVoyage_goUp_49, eVoyage_goUp_52, eVoyage_goUp_53, eVoyage_goUp_54, eVoyage_goUp_55, eVoyage_goUp_56, eVoyage_goUp_57, eVoyage_goUp_58, eVoyage_goUp_59, eVoyage_goUp_60, eVoyage_goUp_61, eVoyage_goUp_62, eVoyage_goUp_63, eVoyage_goUp_64, eVoyage_goUp_65, eVoyage_goUp_66, eVoyage_goUp_67, eVoyage_goUp_68, eVoyage_goUp_71, eVoyage_goUp_74, eVoyage_goUp_75, eVoyage_goUp_76, eVoyage_goUp_79, KD_1, LN_1, P0_1_0, P0_1_1, P0_1_2, P0_1_3, P0_1_4, KD_2, LN_2, P0_2_0, KD_3, LN_3, P0_3_0, P0_3_1, P0_3_2, P0_3_3, P0_3_4, P0_3_5, KD_28, LN_28, va_rf_some, xl_0, xl_1, xl_2, xl_3, xl_4, xl_5, xl_6, xl_7, xl_8, xl_458, xl_459, xl_460, and_false, false_and, tl_some, tl_none, xkl_int, xkl_ref, xkl_dm, xkl_long, true_and, and_true, o_cl, xin_o, lt_ti, le_ti, ito_o, t32_64, o_add1, oz, op0, op1, op2, op3, op4, op5, op6, op7, o8m, o3m, o161m, o461m, o48p, o66p, o72p, o136p, Int32.reduceToInt, Int32.reduceToNatClampNeg, i_10, i_01, le_om1, Int64.reduceToInt, ↓reduceIte, ite_n, ite_p, xu_hit, xu_miss, op11, not_true_eq_false, not_false_eq_true, decide_true, decide_false, bIt0, bIf0, and_self, Int.reduceLE, Int.reduceLT, Int32.reduceAdd, Nat.reduceLeDiff, Nat.reduceLT, Nat.reduceAdd, Nat.reduceMul, Nat.reduceEqDiff, Nat.add_zero, Nat.zero_add, v0, v1, wr_0, wr_lt, hp, hT, r2, h2, n1, mx1, mx2, k1, k2, k3, k5, b0, f1, f2, f3, hps', har']
  · rw [if_neg h1]
    have h2 : ¬ (0 ≤ ((p + 1 : Nat) : Int) ∧ ((p + 1 : Nat) : Int) < (gl G : Int)) := by omega
    simp (disch := first | omega | (simp only [nar_0, nar_1, nar_b, and_self, Nat.reduceLeDiff, Nat.reduceLT, Int32.reduceToInt, KD_1, LN_1, P0_1_0, P0_1_1, P0_1_2, P0_1_3, P0_1_4, KD_2, LN_2, P0_2_0]; done) | fail) only [mVoyage_goUp, eVoyage_goUp_0, eVoyage_goUp_1, eVoyage_goUp_4, eVoyage_goUp_5, eVoyage_goUp_6, eVoyage_goUp_7, eVoyage_goUp_8, eVoyage_goUp_11, eVoyage_goUp_14, eVoyage_goUp_15, eVoyage_goUp_18, eVoyage_goUp_21, eVoyage_goUp_22, eVoyage_goUp_24, eVoyage_goUp_27, eVoyage_goUp_28, eVoyage_goUp_29, eVoyage_goUp_30, eVoyage_goUp_33, eVoyage_goUp_36, eVoyage_goUp_37, eVoyage_goUp_38, eVoyage_goUp_41, eVoyage_goUp_42, eVoyage_goUp_43, eVoyage_goUp_46, eVoyage_goUp_49, eVoyage_goUp_52, eVoyage_goUp_53, eVoyage_goUp_54, eVoyage_goUp_55, eVoyage_goUp_56, eVoyage_goUp_57, eVoyage_goUp_58, eVoyage_goUp_59, eVoyage_goUp_60, eVoyage_goUp_61, eVoyage_goUp_62, eVoyage_goUp_63, eVoyage_goUp_64, eVoyage_goUp_65, eVoyage_goUp_66, eVoyage_goUp_67, eVoyage_goUp_68, eVoyage_goUp_71, eVoyage_goUp_74, eVoyage_goUp_75, eVoyage_goUp_76, eVoyage_goUp_79, KD_1, LN_1, P0_1_0, P0_1_1, P0_1_2, P0_1_3, P0_1_4, KD_2, LN_2, P0_2_0, va_rf_some, xl_0, xl_1, xl_2, xl_3, xl_4, xl_5, xl_6, xl_7, xl_8, xl_458, xl_459, xl_460, and_false, false_and, tl_some, tl_none, xkl_int, xkl_ref, xkl_dm, xkl_long, true_and, and_true, o_cl, xin_o, lt_ti, le_ti, ito_o, t32_64, o_add1, oz, op0, op1, op2, op3, op4, op5, op6, op7, o8m, o3m, o161m, o461m, o48p, o66p, o72p, o136p, Int32.reduceToInt, Int32.reduceToNatClampNeg, i_10, i_01, le_om1, Int64.reduceToInt, ↓reduceIte, ite_n, ite_p, xu_hit, xu_miss, op11, not_true_eq_false, not_false_eq_true, decide_true, decide_false, bIt0, bIf0, and_self, Int.reduceLE, Int.reduceLT, Int32.reduceAdd, Nat.reduceLeDiff, Nat.reduceLT, Nat.reduceAdd, Nat.reduceMul, Nat.reduceEqDiff, Nat.add_zero, Nat.zero_add, v0, v1, wr_0, wr_lt, hp, hT, r2, h2, xu_wr0]
theorem v_goDown {S : Sv} {p : Nat} (hp : S 0 6 = o p) (hp6 : p < 6) (hv : VY v) (hF : RF G I) (hG : OkS G) : XM E (d + 2) 48 [.ref v] (wr v S I) J Q = Q none (wr v (goDownF G S) I) J := by
  have hT := fun E d J Q x => s_hasT (E := E) (d := d) (I := wr v S I) (J := J) (Q := Q) (x := x) TB_2
  have hps := fun E d J Q n hn => v_pass (E := E) (d := d) (J := J) (Q := Q) (S := S) (n := n) hn hv hF hG
  have har := fun E d J Q S l hl => v_arrive (E := E) (d := d) (J := J) (Q := Q) (S := S) (l := l) hl hv hF hG
  obtain ⟨v0, v1, -, -, -, -, -, vv⟩ := hv
  obtain ⟨r2, r10, r18, rL, rT, rN, rC, rX⟩ := hF
  obtain ⟨⟨e1, g1⟩, ⟨e2, g2⟩, ⟨e3, g3⟩, e4, oL, oT, oN, oC⟩ := hG
  unfold goDownF
  rw [hp, o_cl (by omega)]
  by_cases h0 : 1 ≤ p
  · have h0' : ¬ (p : Int) < 1 := by omega
    by_cases h1 : p < gl G
    · rw [if_pos ⟨h0, h1⟩]
      have h2 : 0 ≤ (p : Int) ∧ (p : Int) < (gl G : Int) := by omega
      obtain ⟨k1, k2, k3⟩ := LK_L (by omega : p < 6)
      obtain ⟨-, a2, -⟩ := oL p h1
      have b1 : I (4 + p) 1 = G (8 * p + 1) := rL p 1 h1 (by omega)
      obtain ⟨u, hu, hu1, hu2, hu3⟩ := of_bw a2 (by omega)
      rw [hu] at b1 ⊢
      rw [o_cl hu3]
      have hps' := fun E d J Q => hps E d J Q u hu3
      have har' := fun E d J Q S => har E d J Q S (p - 1) (by omega)
      have hk : (passF G u S) 0 6 = o p := by rw [pass_keep (by omega) (by omega) (by omega) (by omega)]; exact hp
      have f1 : o p - 1 = o (p - 1) := by rw [o_lit1, o_sub h0]
      simp (disch := first | omega | (simp only [nar_0, nar_1, nar_b, and_self, Nat.reduceLeDiff, Nat.reduceLT, Int32.reduceToInt, KD_1, LN_1, P0_1_0, P0_1_1, P0_1_2, P0_1_3, P0_1_4, KD_2, LN_2, P0_2_0, KD_3, LN_3, P0_3_0, P0_3_1, P0_3_2, P0_3_3, P0_3_4, P0_3_5]; done) | fail) only [mVoyage_goDown, eVoyage_goDown_0, eVoyage_goDown_1, eVoyage_goDown_4, eVoyage_goDown_5, eVoyage_goDown_8, eVoyage_goDown_9, eVoyage_goDown_12, eVoyage_goDown_15, eVoyage_goDown_16, eVoyage_goDown_19, eVoyage_goDown_22, eVoyage_goDown_25, eVoyage_goDown_26, eVoyage_goDown_28, eVoyage_goDown_31, eVoyage_goDown_32, eVoyage_goDown_33, eVoyage_goDown_34, eVoyage_goDown_37, eVoyage_goDown_40, eVoyage_goDown_43, eVoyage_goDown_44, eVoyage_goDown_47, eVoyage_goDown_48, eVoyage_goDown_49, eVoyage_goDown_50, eVoyage_goDown_53, eVoyage_goDown_54, eVoyage_goDown_55, eVoyage_goDown_58, eVoyage_goDown_59, eVoyage_goDown_60, eVoyage_goDown_63, KD_1, LN_1, P0_1_0, P0_1_1, P0_1_2, P0_1_3, P0_1_4, KD_2, LN_2, P0_2_0, KD_3, LN_3, P0_3_0, P0_3_1, P0_3_2, P0_3_3, P0_3_4, P0_3_5, va_rf_some, xl_0, xl_1, xl_2, xl_3, xl_4, xl_5, xl_6, xl_7, xl_8, xl_458, xl_459, xl_460, and_false, false_and, tl_some, tl_none, xkl_int, xkl_ref, xkl_dm, xkl_long, true_and, and_true, o_cl, xin_o, lt_ti, le_ti, ito_o, t32_64, o_add1, oz, op0, op1, op2, op3, op4, op5, op6, op7, o8m, o3m, o161m, o461m, o48p, o66p, o72p, o136p, Int32.reduceToInt, Int32.reduceToNatClampNeg, i_10, i_01, le_om1, Int64.reduceToInt, ↓reduceIte, ite_n, ite_p, xu_hit, xu_miss, op11, not_true_eq_false, not_false_eq_true, decide_true, decide_false, bIt0, bIf0, and_self, Int.reduceLE, Int.reduceLT, Int32.reduceAdd, Nat.reduceLeDiff, Nat.reduceLT, Nat.reduceAdd, Nat.reduceMul, Nat.reduceEqDiff, Nat.add_zero, Nat.zero_add, v0, v1, wr_0, wr_lt, hp, h0', hT, r2, h2, k1, k2, k3, hp6, b1, hps', hk, f1, har']
    · rw [if_neg (fun q => h1 q.2)]
      have h2 : ¬ (0 ≤ (p : Int) ∧ (p : Int) < (gl G : Int)) := by omega
      simp (disch := first | omega | (simp only [nar_0, nar_1, nar_b, and_self, Nat.reduceLeDiff, Nat.reduceLT, Int32.reduceToInt, KD_1, LN_1, P0_1_0, P0_1_1, P0_1_2, P0_1_3, P0_1_4, KD_2, LN_2, P0_2_0]; done) | fail) only [mVoyage_goDown, eVoyage_goDown_0, eVoyage_goDown_1, eVoyage_goDown_4, eVoyage_goDown_5, eVoyage_goDown_8, eVoyage_goDown_9, eVoyage_goDown_12, eVoyage_goDown_15, eVoyage_goDown_16, eVoyage_goDown_19, eVoyage_goDown_22, eVoyage_goDown_25, eVoyage_goDown_26, eVoyage_goDown_28, eVoyage_goDown_31, eVoyage_goDown_32, eVoyage_goDown_33, eVoyage_goDown_34, eVoyage_goDown_37, eVoyage_goDown_40, eVoyage_goDown_43, eVoyage_goDown_44, eVoyage_goDown_47, eVoyage_goDown_48, eVoyage_goDown_49, eVoyage_goDown_50, eVoyage_goDown_53, eVoyage_goDown_54, eVoyage_goDown_55, eVoyage_goDown_58, eVoyage_goDown_59, eVoyage_goDown_60, eVoyage_goDown_63, KD_1, LN_1, P0_1_0, P0_1_1, P0_1_2, P0_1_3, P0_1_4, KD_2, LN_2, P0_2_0, va_rf_some, xl_0, xl_1, xl_2, xl_3, xl_4, xl_5, xl_6, xl_7, xl_8, xl_458, xl_459, xl_460, and_false, false_and, tl_some, tl_none, xkl_int, xkl_ref, xkl_dm, xkl_long, true_and, and_true, o_cl, xin_o, lt_ti, le_ti, ito_o, t32_64, o_add1, oz, op0, op1, op2, op3, op4, op5, op6, op7, o8m, o3m, o161m, o461m, o48p, o66p, o72p, o136p, Int32.reduceToInt, Int32.reduceToNatClampNeg, i_10, i_01, le_om1, Int64.reduceToInt, ↓reduceIte, ite_n, ite_p, xu_hit, xu_miss, op11, not_true_eq_false, not_false_eq_true, decide_true, decide_false, bIt0, bIf0, and_self, Int.reduceLE, Int.reduceLT, Int32.reduceAdd, Nat.reduceLeDiff, Nat.reduceLT, Nat.reduceAdd, Nat.reduceMul, Nat.reduceEqDiff, Nat.add_zero, Nat.zero_add, v0, v1, wr_0, wr_lt, hp, h0', hT, r2, h2, xu_wr0]
  · rw [if_neg (fun q => h0 q.1)]
    have h0' : (p : Int) < 1 := by omega
    simp (disch := first | omega | (simp only [nar_0, nar_1, nar_b, and_self, Nat.reduceLeDiff, Nat.reduceLT, Int32.reduceToInt, KD_1, LN_1, P0_1_0, P0_1_1, P0_1_2, P0_1_3, P0_1_4, KD_2, LN_2, P0_2_0]; done) | fail) only [mVoyage_goDown, eVoyage_goDown_0, eVoyage_goDown_1, eVoyage_goDown_4, eVoyage_goDown_5, eVoyage_goDown_8, eVoyage_goDown_9, eVoyage_goDown_12, eVoyage_goDown_15, eVoyage_goDown_16, eVoyage_goDown_19, eVoyage_goDown_22, eVoyage_goDown_25, eVoyage_goDown_26, eVoyage_goDown_28, eVoyage_goDown_31, eVoyage_goDown_32, eVoyage_goDown_33, eVoyage_goDown_34, eVoyage_goDown_37, eVoyage_goDown_40, eVoyage_goDown_43, eVoyage_goDown_44, eVoyage_goDown_47, eVoyage_goDown_48, eVoyage_goDown_49, eVoyage_goDown_50, eVoyage_goDown_53, eVoyage_goDown_54, eVoyage_goDown_55, eVoyage_goDown_58, eVoyage_goDown_59, eVoyage_goDown_60, eVoyage_goDown_63, KD_1, LN_1, P0_1_0, P0_1_1, P0_1_2, P0_1_3, P0_1_4, KD_2, LN_2, P0_2_0, va_rf_some, xl_0, xl_1, xl_2, xl_3, xl_4, xl_5, xl_6, xl_7, xl_8, xl_458, xl_459, xl_460, and_false, false_and, tl_some, tl_none, xkl_int, xkl_ref, xkl_dm, xkl_long, true_and, and_true, o_cl, xin_o, lt_ti, le_ti, ito_o, t32_64, o_add1, oz, op0, op1, op2, op3, op4, op5, op6, op7, o8m, o3m, o161m, o461m, o48p, o66p, o72p, o136p, Int32.reduceToInt, Int32.reduceToNatClampNeg, i_10, i_01, le_om1, Int64.reduceToInt, ↓reduceIte, ite_n, ite_p, xu_hit, xu_miss, op11, not_true_eq_false, not_false_eq_true, decide_true, decide_false, bIt0, bIf0, and_self, Int.reduceLE, Int.reduceLT, Int32.reduceAdd, Nat.reduceLeDiff, Nat.reduceLT, Nat.reduceAdd, Nat.reduceMul, Nat.reduceEqDiff, Nat.add_zero, Nat.zero_add, v0, v1, wr_0, wr_lt, hp, h0', xu_wr0]
end
