/-! THE CLASS SEEKS: the whole -/
section
variable {E : XE} {d : Nat} {J : Jv} {G : Gv}
theorem c_seek {n h : Nat} (hn : n ≤ 4) (hG : OkS G) (hg : 0 < gl G) (hh : G 70 = o h) (hht : h < gt G) : ∀ (m k : Nat), k + m = n → SeekC E d J G n k m
  | m, k, hm => by
    intro x S I v s1 x1 Q hS hF hr hx hac h4 hA hB hQ
    have k5 : k < 5 := by omega
    simp (disch := first | omega | (simp only [nar_0, nar_1, nar_b, and_self, Nat.reduceLeDiff, Nat.reduceLT, Int32.reduceToInt, KD_117, LN_117, P0_117_0, P0_117_1, P0_117_2, P0_117_3]; done) | fail) only [mSearch_seek, eSearch_seek_0, eSearch_seek_1, eSearch_seek_2, eSearch_seek_6, eSearch_seek_7, eSearch_seek_10, eSearch_seek_13, eSearch_seek_14, eSearch_seek_15, eSearch_seek_18, eSearch_seek_19, eSearch_seek_20, eSearch_seek_23, eSearch_seek_24, eSearch_seek_25, eSearch_seek_26, eSearch_seek_27, eSearch_seek_28, eSearch_seek_29, eSearch_seek_31, eSearch_seek_32, eSearch_seek_33, eSearch_seek_36, eSearch_seek_39, eSearch_seek_42, eSearch_seek_43, eSearch_seek_46, eSearch_seek_47, eSearch_seek_48, eSearch_seek_49, eSearch_seek_52, eSearch_seek_55, eSearch_seek_58, eSearch_seek_59, eSearch_seek_60, eSearch_seek_63, eSearch_seek_64, eSearch_seek_65, eSearch_seek_68, eSearch_seek_69, eSearch_seek_72, eSearch_seek_73, eSearch_seek_74, eSearch_seek_75, eSearch_seek_76, eSearch_seek_77, eSearch_seek_80, eSearch_seek_83, eSearch_seek_84, eSearch_seek_85, eSearch_seek_86, eSearch_seek_87, eSearch_seek_90, eSearch_seek_93, eSearch_seek_96, KD_117, LN_117, P0_117_0, P0_117_1, P0_117_2, P0_117_3, va_rf_some, xl_0, xl_1, xl_2, xl_3, xl_4, xl_5, xl_6, xl_7, xl_8, xl_458, xl_459, xl_460, and_false, false_and, tl_some, tl_none, xkl_int, xkl_ref, xkl_dm, xkl_long, true_and, and_true, o_cl, xin_o, lt_ti, le_ti, ito_o, t32_64, o_add1, oz, op0, op1, op2, op3, op4, op5, op6, op7, o8m, o3m, o161m, o461m, o48p, o66p, o72p, o136p, Int32.reduceToInt, Int32.reduceToNatClampNeg, i_10, i_01, le_om1, Int64.reduceToInt, ↓reduceIte, ite_n, ite_p, xu_hit, xu_miss, op11, not_true_eq_false, not_false_eq_true, decide_true, decide_false, bIt0, bIf0, and_self, Int.reduceLE, Int.reduceLT, Int32.reduceAdd, Nat.reduceLeDiff, Nat.reduceLT, Nat.reduceAdd, Nat.reduceMul, Nat.reduceEqDiff, Nat.add_zero, Nat.zero_add]
    refine c_weighG (by omega) hn hS hF hG hg hh hht hr hx hac hA hB (fun v' s' x' I' c1 c2 c3 c4 c5 c6 => ?_)
    have h4' : I' 117 4 = o n := (c6.2.1 4 (by omega)).trans h4
    match m, hm with
    | 0, hm =>
      have z : (n : Int) ≤ (k : Int) := by omega
      simp (disch := first | omega | (simp only [nar_0, nar_1, nar_b, and_self, Nat.reduceLeDiff, Nat.reduceLT, Int32.reduceToInt, KD_117, LN_117, P0_117_0, P0_117_1, P0_117_2, P0_117_3]; done) | fail) only [mSearch_seek, eSearch_seek_0, eSearch_seek_1, eSearch_seek_2, eSearch_seek_5, eSearch_seek_6, eSearch_seek_7, eSearch_seek_10, eSearch_seek_13, eSearch_seek_14, eSearch_seek_15, eSearch_seek_18, eSearch_seek_19, eSearch_seek_20, eSearch_seek_23, eSearch_seek_24, eSearch_seek_25, eSearch_seek_26, eSearch_seek_27, eSearch_seek_28, eSearch_seek_29, eSearch_seek_31, eSearch_seek_32, eSearch_seek_33, eSearch_seek_36, eSearch_seek_39, eSearch_seek_42, eSearch_seek_43, eSearch_seek_46, eSearch_seek_47, eSearch_seek_48, eSearch_seek_49, eSearch_seek_52, eSearch_seek_55, eSearch_seek_58, eSearch_seek_59, eSearch_seek_60, eSearch_seek_63, eSearch_seek_64, eSearch_seek_65, eSearch_seek_68, eSearch_seek_69, eSearch_seek_72, eSearch_seek_73, eSearch_seek_74, eSearch_seek_75, eSearch_seek_76, eSearch_seek_77, eSearch_seek_80, eSearch_seek_83, eSearch_seek_84, eSearch_seek_85, eSearch_seek_86, eSearch_seek_87, eSearch_seek_90, eSearch_seek_93, eSearch_seek_96, KD_117, LN_117, P0_117_0, P0_117_1, P0_117_2, P0_117_3, va_rf_some, xl_0, xl_1, xl_2, xl_3, xl_4, xl_5, xl_6, xl_7, xl_8, xl_458, xl_459, xl_460, and_false, false_and, tl_some, tl_none, xkl_int, xkl_ref, xkl_dm, xkl_long, true_and, and_true, o_cl, xin_o, lt_ti, le_ti, ito_o, t32_64, o_add1, oz, op0, op1, op2, op3, op4, op5, op6, op7, o8m, o3m, o161m, o461m, o48p, o66p, o72p, o136p, Int32.reduceToInt, Int32.reduceToNatClampNeg, i_10, i_01, le_om1, Int64.reduceToInt, ↓reduceIte, ite_n, ite_p, xu_hit, xu_miss, op11, not_true_eq_false, not_false_eq_true, decide_true, decide_false, bIt0, bIf0, and_self, Int.reduceLE, Int.reduceLT, Int32.reduceAdd, Nat.reduceLeDiff, Nat.reduceLT, Nat.reduceAdd, Nat.reduceMul, Nat.reduceEqDiff, Nat.add_zero, Nat.zero_add, h4', z]
      refine hQ v' s' x' I' c1 (fun j y w h1 h2 h3 h4 h5 h6 => c3 j y w h1 h2 h3 (fun q => by omega) h5 h6) c4 c5 c6
    | m + 1, hm =>
      have ch := c_seek hn hG hg hh hht m (k + 1) (by omega)
      have z : ¬ (n : Int) ≤ (k : Int) := by omega
      have z2 : (k : Int) < 4 := by omega
      have kk : k + 1 < 5 := by omega
      obtain ⟨k1, hv⟩ := LK_V kk
      have z3 : o k + 1 = o (k + 1) := by rw [o_lit1, o_add]
      simp (disch := first | omega | (simp only [nar_0, nar_1, nar_b, and_self, Nat.reduceLeDiff, Nat.reduceLT, Int32.reduceToInt, KD_117, LN_117, P0_117_0, P0_117_1, P0_117_2, P0_117_3, KD_120, LN_120, P0_120_0, P0_120_1, P0_120_2, P0_120_3, P0_120_4]; done) | fail) only [mSearch_seek, eSearch_seek_0, eSearch_seek_1, eSearch_seek_2, eSearch_seek_5, eSearch_seek_6, eSearch_seek_7, eSearch_seek_10, eSearch_seek_13, eSearch_seek_14, eSearch_seek_15, eSearch_seek_18, eSearch_seek_19, eSearch_seek_20, eSearch_seek_23, eSearch_seek_24, eSearch_seek_25, eSearch_seek_26, eSearch_seek_27, eSearch_seek_28, eSearch_seek_29, eSearch_seek_31, eSearch_seek_32, eSearch_seek_33, eSearch_seek_36, eSearch_seek_39, eSearch_seek_42, eSearch_seek_43, eSearch_seek_46, eSearch_seek_47, eSearch_seek_48, eSearch_seek_49, eSearch_seek_52, eSearch_seek_55, eSearch_seek_58, eSearch_seek_59, eSearch_seek_60, eSearch_seek_63, eSearch_seek_64, eSearch_seek_65, eSearch_seek_68, eSearch_seek_69, eSearch_seek_72, eSearch_seek_73, eSearch_seek_74, eSearch_seek_75, eSearch_seek_76, eSearch_seek_77, eSearch_seek_80, eSearch_seek_83, eSearch_seek_84, eSearch_seek_85, eSearch_seek_86, eSearch_seek_87, eSearch_seek_90, eSearch_seek_93, eSearch_seek_96, KD_117, LN_117, P0_117_0, P0_117_1, P0_117_2, P0_117_3, KD_120, LN_120, P0_120_0, P0_120_1, P0_120_2, P0_120_3, P0_120_4, va_rf_some, xl_0, xl_1, xl_2, xl_3, xl_4, xl_5, xl_6, xl_7, xl_8, xl_458, xl_459, xl_460, and_false, false_and, tl_some, tl_none, xkl_int, xkl_ref, xkl_dm, xkl_long, true_and, and_true, o_cl, xin_o, lt_ti, le_ti, ito_o, t32_64, o_add1, oz, op0, op1, op2, op3, op4, op5, op6, op7, o8m, o3m, o161m, o461m, o48p, o66p, o72p, o136p, Int32.reduceToInt, Int32.reduceToNatClampNeg, i_10, i_01, le_om1, Int64.reduceToInt, ↓reduceIte, ite_n, ite_p, xu_hit, xu_miss, op11, not_true_eq_false, not_false_eq_true, decide_true, decide_false, bIt0, bIf0, and_self, Int.reduceLE, Int.reduceLT, Int32.reduceAdd, Nat.reduceLeDiff, Nat.reduceLT, Nat.reduceAdd, Nat.reduceMul, Nat.reduceEqDiff, Nat.add_zero, Nat.zero_add, h4', z, z2, z3, k1, kk]
      refine seek_loop (m := m) (by omega) hn hG hg hr hx ch (3 + gc G) 0 I' v' s' x' Q (by omega) (Stg_fr hS c6) (RF_fr hG hF (fun b b1 b2 => c6.1 b (by omega) (by omega) (by omega) (by omega))) (fun i hi => (c6.2.2 i hi).trans (hac i hi)) h4' c1 c2 c3 (fun v2 s2 x2 I2 e1 e2 e3 e4 e5 => hQ v2 s2 x2 I2 e1 e2 ?_ (BE_trans e4 c5) (FrZ_trans c6 e5))
      rcases e3 with ⟨f1, f2, f3⟩ | e3
      · rw [f1, f2, f3]
        exact c4
      · exact Or.inr e3
/-- the class's best row -/
theorem c_mostHome {n h : Nat} {I : Iv} {Q : XQt} (hn : n ≤ 4) (hF : RF G I) (hG : OkS G) (hg : 0 < gl G) (hh : G 70 = o h) (hht : h < gt G)
    (hQ : ∀ (v : Int32) (s x : Nat) (I' : Iv), BestN G (3 + gc G) n v s x → I' 117 5 = o s → (∀ i, i < s → I' 119 i = o (dg (3 + gc G) s x i)) → (∀ a, a < 117 ∨ a = 120 ∨ 151 ≤ a → I' a = I a) → Q (some (.int v)) I' J) : XM E (d + n + 5) 16 [.ref 117, .int (o n)] I J Q := by
  have hv := VY_121
  have g8 := hG.2.2.1.2
  have g6 := hG.2.1.2
  have v0 := hv.1
  have hI1 : ∀ a, ¬ a = 117 → xuI (xuI I 117 4 (o n)) 117 6 (-1) a = I a := by
    intro a ha
    funext j
    simp (disch := omega) only [xu_hit, xu_miss, ite_n, ite_p, if_true, if_false, and_true, true_and, and_false, false_and, and_self, Nat.reduceEqDiff]
  have h1174 : xuI (xuI I 117 4 (o n)) 117 6 (-1) 117 4 = o n := by
    simp (disch := omega) only [xu_hit, xu_miss, ite_n, ite_p, if_true, if_false, and_true, true_and, and_false, false_and, and_self, Nat.reduceEqDiff]
  have h1176 : xuI (xuI I 117 4 (o n)) 117 6 (-1) 117 6 = -1 := by
    simp (disch := omega) only [xu_hit, xu_miss, ite_n, ite_p, if_true, if_false, and_true, true_and, and_false, false_and, and_self, Nat.reduceEqDiff]
  have hF1 : RF G (xuI (xuI I 117 4 (o n)) 117 6 (-1)) := RF_fr hG hF (fun a h1 h2 => hI1 a (by omega))
  have hun : ∀ I1 Q', XM E (d + n + 4) 42 [.ref 121] I1 J Q' = Q' none (wr 121 (unmoveF (fun b j => I1 (121 + b) j)) I1) J := by
    intro I1 Q'
    have := v_unmove (E := E) (d := d + n + 3) (J := J) (Q := Q') (S := fun b j => I1 (121 + b) j) (I := I1) hv
    rw [← wr_rd] at this
    exact this
  have hde : ∀ S Q', XM E (d + n + 4) 43 [.ref 121] (wr 121 S (xuI (xuI I 117 4 (o n)) 117 6 (-1))) J Q' = Q' none (wr 121 (departF G S) (xuI (xuI I 117 4 (o n)) 117 6 (-1))) J := fun S Q' => v_depart (d := d + n + 3) hv hF1 hG
  have z1 : ¬ (0 : Int32) < 0 := by decide
  simp (disch := first | omega | (simp only [nar_0, nar_1, nar_b, and_self, Nat.reduceLeDiff, Nat.reduceLT, Int32.reduceToInt, KD_117, LN_117, P0_117_0, P0_117_1, P0_117_2, P0_117_3, KD_120, LN_120, P0_120_0, P0_120_1, P0_120_2, P0_120_3, P0_120_4]; done) | fail) only [mSearch_mostHome, eSearch_mostHome_0, eSearch_mostHome_1, eSearch_mostHome_2, eSearch_mostHome_5, eSearch_mostHome_6, eSearch_mostHome_7, eSearch_mostHome_10, eSearch_mostHome_11, eSearch_mostHome_14, eSearch_mostHome_15, eSearch_mostHome_16, eSearch_mostHome_19, eSearch_mostHome_20, eSearch_mostHome_23, eSearch_mostHome_24, eSearch_mostHome_25, eSearch_mostHome_28, eSearch_mostHome_29, eSearch_mostHome_33, eSearch_mostHome_34, eSearch_mostHome_37, KD_117, LN_117, P0_117_0, P0_117_1, P0_117_2, P0_117_3, KD_120, LN_120, P0_120_0, P0_120_1, P0_120_2, P0_120_3, P0_120_4, va_rf_some, xl_0, xl_1, xl_2, xl_3, xl_4, xl_5, xl_6, xl_7, xl_8, xl_458, xl_459, xl_460, and_false, false_and, tl_some, tl_none, xkl_int, xkl_ref, xkl_dm, xkl_long, true_and, and_true, o_cl, xin_o, lt_ti, le_ti, ito_o, t32_64, o_add1, oz, op0, op1, op2, op3, op4, op5, op6, op7, o8m, o3m, o161m, o461m, o48p, o66p, o72p, o136p, Int32.reduceToInt, Int32.reduceToNatClampNeg, i_10, i_01, le_om1, Int64.reduceToInt, ↓reduceIte, ite_n, ite_p, xu_hit, xu_miss, op11, not_true_eq_false, not_false_eq_true, decide_true, decide_false, bIt0, bIf0, and_self, Int.reduceLE, Int.reduceLT, Int32.reduceAdd, Nat.reduceLeDiff, Nat.reduceLT, Nat.reduceAdd, Nat.reduceMul, Nat.reduceEqDiff, Nat.add_zero, Nat.zero_add, P0_120_0, v0, hun, hde]
  generalize xuI (xuI I 117 4 (o n)) 117 6 (-1) = I1 at *
  have hst : Eqv (departF G (unmoveF fun b j => I (121 + b) j)) (S00 G) := by
    unfold S00
    refine ⟨fun k h1 h2 => ?_, fun k h => ?_, fun k h => ?_, fun a k h1 h2 h3 => ?_⟩
    · simp only [dep_at]
      simp (disch := omega) only [xu_hit, xu_miss, ite_n, ite_p, if_true, if_false, and_true, true_and, and_false, false_and, and_self, Nat.reduceEqDiff]
    · simp only [dep_at]
      simp (disch := omega) only [xu_hit, xu_miss, ite_n, ite_p, if_true, if_false, and_true, true_and, and_false, false_and, and_self, Nat.reduceEqDiff]
    · simp only [dep_at]
      simp (disch := omega) only [xu_hit, xu_miss, ite_n, ite_p, if_true, if_false, and_true, true_and, and_false, false_and, and_self, Nat.reduceEqDiff]
    · simp only [dep_at, unm_at]
      simp (disch := omega) only [xu_hit, xu_miss, ite_n, ite_p, if_true, if_false, and_true, true_and, and_false, false_and, and_self, Nat.reduceEqDiff]
  have hke : ∀ b j, 6 ≤ b → departF G (unmoveF fun b j => I (121 + b) j) b j = I1 (121 + b) j := fun b j hb => ((dep_keep hb).trans (unm_keep hb)).trans (congrFun (hI1 (121 + b) (by omega)) j).symm
  generalize departF G (unmoveF fun b j => I (121 + b) j) = D at *
  rw [eSearch_mostHome_30]
  have hsk := c_seek (E := E) (d := d) (J := J) hn hG hg hh hht n 0 (by omega)
  unfold SeekC at hsk
  have o00 : o 0 = 0 := rfl
  rw [o00] at hsk
  have hrn : runN G (3 + gc G) 0 0 0 = some (S00 G) := rfl
  have hA0 : AccI G (3 + gc G) (wr 121 D I1) (-1) 0 0 := ⟨by rw [wr_keep hke (by omega)]; exact h1176, Or.inl rfl⟩
  have hB0 : Bef (3 + gc G) 0 0 (-1) 0 0 := Or.inl rfl
  refine hsk 0 (S00 G) (wr 121 D I1) (-1) 0 0 _ ?_ ?_ hrn ?_ (fun i hi => absurd hi (by omega)) ?_ hA0 hB0 ?_
  · unfold Stg
    rw [show (fun b j => wr 121 D I1 (121 + 6 * 0 + b) j) = D from funext fun b => funext fun j => wr_at]
    exact hst
  · exact RF_fr hG hF1 (fun a h1 h2 => wr_keep hke (by omega))
  · rw [Nat.pow_zero]; omega
  · rw [wr_keep hke (by omega)]; exact h1174
  · intro v' s' x' I' c1 c2 c3 c4 c5
    obtain ⟨vb, sb, xb, hU⟩ := BestN_ex G (3 + gc G) n
    have B := BestU_end hU
    obtain ⟨B1, B2, B3, B4⟩ := id B
    have hK : 0 < 3 + gc G := by omega
    have hbe := c2 sb xb vb (by omega) B1 (by rw [Nat.sub_zero]; exact Nat.div_eq_of_lt B2) (fun _ => Nat.mod_lt _ hK) B3 (fun i S _ q1 q2 => help_best hG hg hn B i S q1 q2)
    have hvb : 0 ≤ vb.toInt := by
      unfold vN at B3
      cases hr : runN G (3 + gc G) sb xb sb with
      | none => rw [hr] at B3; cases B3
      | some S =>
        obtain ⟨-, -, b1⟩ := runN_inv hG hg sb S (by omega) hr
        rw [hr, hh, o_cl (by omega)] at B3
        simp only [] at B3
        split at B3
        · cases B3
          exact (b1.1 h (by omega)).1
        · cases B3
    have hne : ¬ v' = -1 := by
      intro q
      rw [q] at hbe
      rcases hbe with q1 | ⟨q1, -⟩
      · have : (-1 : Int32).toInt = -1 := rfl
        omega
      · rw [q1] at hvb
        exact absurd hvb (by decide)
    obtain ⟨a1, a2⟩ := c1
    obtain ⟨a3, a4, a5, a6, a7⟩ := a2.resolve_left hne
    have hsn : s' ≤ n := by
      rcases c3 with ⟨q, -, -⟩ | ⟨-, q, -⟩
      · exact absurd q hne
      · exact q
    have BB : BestN G (3 + gc G) n v' s' x' := ⟨hsn, a6, a7, fun s2 x2 v2 q1 q2 q3 => BE_trans hbe (B4 s2 x2 v2 q1 q2 q3)⟩
    have fr : ∀ a, a < 117 ∨ a = 120 ∨ 151 ≤ a → I' a = I a := by
      intro a ha
      rw [← hI1 a (by omega), ← wr_keep hke (a := a) (by omega)]
      exact c5.1 a (by omega) (by omega) (by omega) (by omega)
    simp (disch := first | omega | (simp only [nar_0, nar_1, nar_b, and_self, Nat.reduceLeDiff, Nat.reduceLT, Int32.reduceToInt, KD_117, LN_117, P0_117_0, P0_117_1, P0_117_2, P0_117_3]; done) | fail) only [mSearch_mostHome, eSearch_mostHome_0, eSearch_mostHome_1, eSearch_mostHome_2, eSearch_mostHome_5, eSearch_mostHome_6, eSearch_mostHome_7, eSearch_mostHome_10, eSearch_mostHome_11, eSearch_mostHome_14, eSearch_mostHome_15, eSearch_mostHome_16, eSearch_mostHome_19, eSearch_mostHome_20, eSearch_mostHome_23, eSearch_mostHome_24, eSearch_mostHome_25, eSearch_mostHome_28, eSearch_mostHome_29, eSearch_mostHome_30, eSearch_mostHome_33, eSearch_mostHome_34, eSearch_mostHome_37, KD_117, LN_117, P0_117_0, P0_117_1, P0_117_2, P0_117_3, va_rf_some, xl_0, xl_1, xl_2, xl_3, xl_4, xl_5, xl_6, xl_7, xl_8, xl_458, xl_459, xl_460, and_false, false_and, tl_some, tl_none, xkl_int, xkl_ref, xkl_dm, xkl_long, true_and, and_true, o_cl, xin_o, lt_ti, le_ti, ito_o, t32_64, o_add1, oz, op0, op1, op2, op3, op4, op5, op6, op7, o8m, o3m, o161m, o461m, o48p, o66p, o72p, o136p, Int32.reduceToInt, Int32.reduceToNatClampNeg, i_10, i_01, le_om1, Int64.reduceToInt, ↓reduceIte, ite_n, ite_p, xu_hit, xu_miss, op11, not_true_eq_false, not_false_eq_true, decide_true, decide_false, bIt0, bIf0, and_self, Int.reduceLE, Int.reduceLT, Int32.reduceAdd, Nat.reduceLeDiff, Nat.reduceLT, Nat.reduceAdd, Nat.reduceMul, Nat.reduceEqDiff, Nat.add_zero, Nat.zero_add, a1]
    exact hQ v' s' x' I' BB a3 a5 fr
end
