/-! THE CLASS SEEKS -/
theorem Bef_up {K k x a s1 x1 : Nat} {v : Int32} (h : Bef K k (x + a) v s1 x1) : Bef K k (x + a + 1) v s1 x1 := by
  rcases h with h | h
  · exact Or.inl h
  · exact Or.inr (fun q => by have := h q; omega)
theorem New_trans {K n k x a s1 x1 s2 x2 s3 x3 : Nat} {v v2 v3 : Int32} (ha : a < K) (h : New K n (k + 1) (x * K + a) v s1 x1 v2 s2 x2) (h2 : New K n k x v2 s2 x2 v3 s3 x3) : New K n k x v s1 x1 v3 s3 x3 := by
  rcases h2 with ⟨e1, e2, e3⟩ | h2
  · rcases h with ⟨f1, f2, f3⟩ | ⟨f1, f2, f3⟩
    · exact Or.inl ⟨e1.trans f1, e2.trans f2, e3.trans f3⟩
    · rw [e2, e3]
      exact Or.inr ⟨by omega, f2, pre_up f3 ha f1⟩
  · exact Or.inr h2
theorem New_bef {K n k x a s1 x1 s2 x2 : Nat} {v v2 : Int32} (h : New K n k (x + a) v s1 x1 v2 s2 x2) (hB : Bef K k (x + a) v s1 x1) : Bef K k (x + a + 1) v2 s2 x2 := by
  rcases h with ⟨e1, e2, e3⟩ | ⟨f1, f2, f3⟩
  · rw [e1, e2, e3]
    exact Bef_up hB
  · exact Or.inr (fun _ => by omega)
theorem Cov_skip {G : Gv} {K n k x a s1 x1 : Nat} {v : Int32} (h : Cov G K n k x a v s1 x1) (hno : ∀ j y w, k < j → j ≤ n → y / K ^ (j - k) = x → dg K j y k = a → vN G K j y = some w → (∀ i S, k ≤ i → i < j → runN G K j y i = some S → help G n i (dg K j y i) S) → BE v s1 x1 w j y) : Cov G K n k x (a + 1) v s1 x1 := by
  intro j y w h1 h2 h3 h4 h5 h6
  by_cases q : k < j
  · by_cases u : dg K j y k = a
    · exact hno j y w q h2 h3 u h5 h6
    · exact h j y w h1 h2 h3 (fun _ => by have := h4 q; omega) h5 h6
  · exact h j y w h1 h2 h3 (fun z => absurd z q) h5 h6
theorem Cov_be {G : Gv} {K n k x a s1 x1 s2 x2 : Nat} {v v2 : Int32} (h : Cov G K n k x a v s1 x1) (hb : BE v2 s2 x2 v s1 x1) : Cov G K n k x a v2 s2 x2 := fun j y w h1 h2 h3 h4 h5 h6 => BE_trans hb (h j y w h1 h2 h3 h4 h5 h6)
/-- what seek does below stage k -/
def SeekC (E : XE) (d : Nat) (J : Jv) (G : Gv) (n k m : Nat) : Prop := ∀ (x : Nat) (S : Sv) (I : Iv) (v : Int32) (s1 x1 : Nat) (Q : XQt), Stg I k S → RF G I → runN G (3 + gc G) k x k = some S → x < (3 + gc G) ^ k → (∀ i, i < k → I 118 i = o (dg (3 + gc G) k x i)) → I 117 4 = o n → AccI G (3 + gc G) I v s1 x1 → Bef (3 + gc G) k x v s1 x1 →
  (∀ v' s' x' I', AccI G (3 + gc G) I' v' s' x' → Cov G (3 + gc G) n k x (3 + gc G) v' s' x' → New (3 + gc G) n k x v s1 x1 v' s' x' → BE v' s' x' v s1 x1 → FrZ k I I' → Q none I' J) → XM E (d + m + 4) 17 [.ref 117, .int (o k)] I J Q
section
variable {E : XE} {d : Nat} {J : Jv} {G : Gv}
theorem seek_loop {n k m x : Nat} {S : Sv} (hk : k < n) (hn : n ≤ 4) (hG : OkS G) (hg : 0 < gl G) (hr : runN G (3 + gc G) k x k = some S) (hx : x < (3 + gc G) ^ k) (child : SeekC E d J G n (k + 1) m) : ∀ (r a : Nat) (I : Iv) (v : Int32) (s1 x1 : Nat) (Q : XQt), a + r = 3 + gc G → Stg I k S → RF G I → (∀ i, i < k → I 118 i = o (dg (3 + gc G) k x i)) → I 117 4 = o n → AccI G (3 + gc G) I v s1 x1 → Bef (3 + gc G) (k + 1) (x * (3 + gc G) + a) v s1 x1 → Cov G (3 + gc G) n k x a v s1 x1 →
    (∀ v' s' x' I', AccI G (3 + gc G) I' v' s' x' → Cov G (3 + gc G) n k x (3 + gc G) v' s' x' → New (3 + gc G) n k x v s1 x1 v' s' x' → BE v' s' x' v s1 x1 → FrZ k I I' → Q none I' J) → X E (d + m + 4 + 1) 17 30 [.ref 117, .int (o k), .ref (121 + 6 * (k + 1)), .int (o a)] [] I J Q
  | 0, a, I, v, s1, x1, Q, ha, hS, hF, hac, h4, hA, hB, hC, hQ => by
    have g8 := hG.2.2.1.2
    have e : a = 3 + gc G := by omega
    subst e
    have f18 := hF.2.2.1
    have f3 : (3 : Int32) + o (gc G) = o (3 + gc G) := by rw [o_lit3, o_add]
    rw [eSearch_seek_30]
    have z : ((3 + gc G : Nat) : Int) ≤ ((3 + gc G : Nat) : Int) := by omega
    simp (disch := first | omega | (simp only [nar_0, nar_1, nar_b, and_self, Nat.reduceLeDiff, Nat.reduceLT, Int32.reduceToInt, KD_1, LN_1, P0_1_0, P0_1_1, P0_1_2, P0_1_3, P0_1_4, KD_18, LN_18, P0_18_0, KD_117, LN_117, P0_117_0, P0_117_1, P0_117_2, P0_117_3]; done) | fail) only [mSearch_seek, eSearch_seek_0, eSearch_seek_1, eSearch_seek_2, eSearch_seek_5, eSearch_seek_6, eSearch_seek_7, eSearch_seek_10, eSearch_seek_13, eSearch_seek_14, eSearch_seek_15, eSearch_seek_18, eSearch_seek_19, eSearch_seek_20, eSearch_seek_23, eSearch_seek_24, eSearch_seek_25, eSearch_seek_26, eSearch_seek_27, eSearch_seek_28, eSearch_seek_29, eSearch_seek_31, eSearch_seek_32, eSearch_seek_33, eSearch_seek_36, eSearch_seek_39, eSearch_seek_42, eSearch_seek_43, eSearch_seek_46, eSearch_seek_47, eSearch_seek_48, eSearch_seek_49, eSearch_seek_52, eSearch_seek_55, eSearch_seek_58, eSearch_seek_59, eSearch_seek_60, eSearch_seek_63, eSearch_seek_64, eSearch_seek_65, eSearch_seek_68, eSearch_seek_69, eSearch_seek_72, eSearch_seek_73, eSearch_seek_74, eSearch_seek_75, eSearch_seek_76, eSearch_seek_77, eSearch_seek_80, eSearch_seek_83, eSearch_seek_84, eSearch_seek_85, eSearch_seek_86, eSearch_seek_87, eSearch_seek_90, eSearch_seek_93, eSearch_seek_96, KD_1, LN_1, P0_1_0, P0_1_1, P0_1_2, P0_1_3, P0_1_4, KD_18, LN_18, P0_18_0, KD_117, LN_117, P0_117_0, P0_117_1, P0_117_2, P0_117_3, va_rf_some, xl_0, xl_1, xl_2, xl_3, xl_4, xl_5, xl_6, xl_7, xl_8, xl_458, xl_459, xl_460, and_false, false_and, tl_some, tl_none, xkl_int, xkl_ref, xkl_dm, xkl_long, true_and, and_true, o_cl, xin_o, lt_ti, le_ti, ito_o, t32_64, o_add1, oz, op0, op1, op2, op3, op4, op5, op6, op7, o8m, o3m, o161m, o461m, o48p, o66p, o72p, o136p, Int32.reduceToInt, Int32.reduceToNatClampNeg, i_10, i_01, le_om1, Int64.reduceToInt, ↓reduceIte, ite_n, ite_p, xu_hit, xu_miss, op11, not_true_eq_false, not_false_eq_true, decide_true, decide_false, bIt0, bIf0, and_self, Int.reduceLE, Int.reduceLT, Int32.reduceAdd, Nat.reduceLeDiff, Nat.reduceLT, Nat.reduceAdd, Nat.reduceMul, Nat.reduceEqDiff, Nat.add_zero, Nat.zero_add, f18, f3, z]
    exact hQ v s1 x1 I hA hC (Or.inl ⟨rfl, rfl, rfl⟩) BE_rfl FrZ_rfl
  | r + 1, a, I, v, s1, x1, Q, ha, hS, hF, hac, h4, hA, hB, hC, hQ => by
    have g8 := hG.2.2.1.2
    have f18 := hF.2.2.1
    have f3 : (3 : Int32) + o (gc G) = o (3 + gc G) := by rw [o_lit3, o_add]
    have haK : a < 3 + gc G := by omega
    have hK : 0 < 3 + gc G := by omega
    obtain ⟨h0, hl, -⟩ := runN_inv hG hg k S (by omega) hr
    have z : ¬ ((3 + gc G : Nat) : Int) ≤ (a : Int) := by omega
    have zz : (a : Int) < ((3 + gc G : Nat) : Int) := by omega
    obtain ⟨k1, hu⟩ := LK_V (by omega : k < 5)
    obtain ⟨-, hv⟩ := LK_V (by omega : k + 1 < 5)
    rw [eSearch_seek_30]
    simp (disch := first | omega | (simp only [nar_0, nar_1, nar_b, and_self, Nat.reduceLeDiff, Nat.reduceLT, Int32.reduceToInt, KD_1, LN_1, P0_1_0, P0_1_1, P0_1_2, P0_1_3, P0_1_4, KD_18, LN_18, P0_18_0, KD_117, LN_117, P0_117_0, P0_117_1, P0_117_2, P0_117_3]; done) | fail) only [mSearch_seek, eSearch_seek_0, eSearch_seek_1, eSearch_seek_2, eSearch_seek_5, eSearch_seek_6, eSearch_seek_7, eSearch_seek_10, eSearch_seek_13, eSearch_seek_14, eSearch_seek_15, eSearch_seek_18, eSearch_seek_19, eSearch_seek_20, eSearch_seek_23, eSearch_seek_24, eSearch_seek_25, eSearch_seek_26, eSearch_seek_27, eSearch_seek_28, eSearch_seek_29, eSearch_seek_31, eSearch_seek_32, eSearch_seek_33, eSearch_seek_36, eSearch_seek_39, eSearch_seek_42, eSearch_seek_43, eSearch_seek_46, eSearch_seek_47, eSearch_seek_48, eSearch_seek_49, eSearch_seek_52, eSearch_seek_55, eSearch_seek_58, eSearch_seek_59, eSearch_seek_60, eSearch_seek_63, eSearch_seek_64, eSearch_seek_65, eSearch_seek_68, eSearch_seek_69, eSearch_seek_72, eSearch_seek_73, eSearch_seek_74, eSearch_seek_75, eSearch_seek_76, eSearch_seek_77, eSearch_seek_80, eSearch_seek_83, eSearch_seek_84, eSearch_seek_85, eSearch_seek_86, eSearch_seek_87, eSearch_seek_90, eSearch_seek_93, eSearch_seek_96, KD_1, LN_1, P0_1_0, P0_1_1, P0_1_2, P0_1_3, P0_1_4, KD_18, LN_18, P0_18_0, KD_117, LN_117, P0_117_0, P0_117_1, P0_117_2, P0_117_3, va_rf_some, xl_0, xl_1, xl_2, xl_3, xl_4, xl_5, xl_6, xl_7, xl_8, xl_458, xl_459, xl_460, and_false, false_and, tl_some, tl_none, xkl_int, xkl_ref, xkl_dm, xkl_long, true_and, and_true, o_cl, xin_o, lt_ti, le_ti, ito_o, t32_64, o_add1, oz, op0, op1, op2, op3, op4, op5, op6, op7, o8m, o3m, o161m, o461m, o48p, o66p, o72p, o136p, Int32.reduceToInt, Int32.reduceToNatClampNeg, i_10, i_01, le_om1, Int64.reduceToInt, ↓reduceIte, ite_n, ite_p, xu_hit, xu_miss, op11, not_true_eq_false, not_false_eq_true, decide_true, decide_false, bIt0, bIf0, and_self, Int.reduceLE, Int.reduceLT, Int32.reduceAdd, Nat.reduceLeDiff, Nat.reduceLT, Nat.reduceAdd, Nat.reduceMul, Nat.reduceEqDiff, Nat.add_zero, Nat.zero_add, f18, f3, z]
    refine c_mayHelp (d := d + m + 2) hk hn haK hS h4 hl hF hG (fun b hb => ?_)
    -- the next act
    have next : ∀ (I2 : Iv) (v2 : Int32) (s2 x2 : Nat), FrZ k I I2 → AccI G (3 + gc G) I2 v2 s2 x2 → Bef (3 + gc G) (k + 1) (x * (3 + gc G) + (a + 1)) v2 s2 x2 → Cov G (3 + gc G) n k x (a + 1) v2 s2 x2 → New (3 + gc G) n (k + 1) (x * (3 + gc G) + a) v s1 x1 v2 s2 x2 → BE v2 s2 x2 v s1 x1 → X E (d + m + 4 + 1) 17 90 [.ref 117, .int (o k), .ref (121 + 6 * (k + 1)), .int (o a)] [] I2 J Q := by
      intro I2 v2 s2 x2 q1 q2 q3 q4 q5 q6
      simp (disch := first | omega | (simp only [nar_0, nar_1, nar_b, and_self, Nat.reduceLeDiff, Nat.reduceLT, Int32.reduceToInt]; done) | fail) only [mSearch_seek, eSearch_seek_0, eSearch_seek_1, eSearch_seek_2, eSearch_seek_5, eSearch_seek_6, eSearch_seek_7, eSearch_seek_10, eSearch_seek_13, eSearch_seek_14, eSearch_seek_15, eSearch_seek_18, eSearch_seek_19, eSearch_seek_20, eSearch_seek_23, eSearch_seek_24, eSearch_seek_25, eSearch_seek_26, eSearch_seek_27, eSearch_seek_28, eSearch_seek_29, eSearch_seek_31, eSearch_seek_32, eSearch_seek_33, eSearch_seek_36, eSearch_seek_39, eSearch_seek_42, eSearch_seek_43, eSearch_seek_46, eSearch_seek_47, eSearch_seek_48, eSearch_seek_49, eSearch_seek_52, eSearch_seek_55, eSearch_seek_58, eSearch_seek_59, eSearch_seek_60, eSearch_seek_63, eSearch_seek_64, eSearch_seek_65, eSearch_seek_68, eSearch_seek_69, eSearch_seek_72, eSearch_seek_73, eSearch_seek_74, eSearch_seek_75, eSearch_seek_76, eSearch_seek_77, eSearch_seek_80, eSearch_seek_83, eSearch_seek_84, eSearch_seek_85, eSearch_seek_86, eSearch_seek_87, eSearch_seek_90, eSearch_seek_93, eSearch_seek_96, va_rf_some, xl_0, xl_1, xl_2, xl_3, xl_4, xl_5, xl_6, xl_7, xl_8, xl_458, xl_459, xl_460, and_false, false_and, tl_some, tl_none, xkl_int, xkl_ref, xkl_dm, xkl_long, true_and, and_true, o_cl, xin_o, lt_ti, le_ti, ito_o, t32_64, o_add1, oz, op0, op1, op2, op3, op4, op5, op6, op7, o8m, o3m, o161m, o461m, o48p, o66p, o72p, o136p, Int32.reduceToInt, Int32.reduceToNatClampNeg, i_10, i_01, le_om1, Int64.reduceToInt, ↓reduceIte, ite_n, ite_p, xu_hit, xu_miss, op11, not_true_eq_false, not_false_eq_true, decide_true, decide_false, bIt0, bIf0, and_self, Int.reduceLE, Int.reduceLT, Int32.reduceAdd, Nat.reduceLeDiff, Nat.reduceLT, Nat.reduceAdd, Nat.reduceMul, Nat.reduceEqDiff, Nat.add_zero, Nat.zero_add]
      exact seek_loop hk hn hG hg hr hx child r (a + 1) I2 v2 s2 x2 Q (by omega) (Stg_fr hS q1) (RF_fr hG hF (fun b b1 b2 => q1.1 b (by omega) (by omega) (by omega) (by omega))) (fun i hi => (q1.2.2 i hi).trans (hac i hi)) ((q1.2.1 4 (by omega)).trans h4) q2 q3 q4 (fun v' s' x' I' c1 c2 c3 c4 c5 => hQ v' s' x' I' c1 c2 (New_trans haK q5 c3) (BE_trans c4 q6) (FrZ_trans q1 c5))
    have pre := fun j y (h1 : k < j) (h3 : y / (3 + gc G) ^ (j - k) = x) => (runN_pre (G := G) h3 (by omega) k (Nat.le_refl _)).trans hr
    cases b with
    | false =>
      have hnh : ¬ help G n k a S := fun q => absurd (hb.mpr q) (by decide)
      have b0 : bI false = 0 := rfl
      simp (disch := first | omega | (simp only [nar_0, nar_1, nar_b, and_self, Nat.reduceLeDiff, Nat.reduceLT, Int32.reduceToInt]; done) | fail) only [mSearch_seek, eSearch_seek_0, eSearch_seek_1, eSearch_seek_2, eSearch_seek_5, eSearch_seek_6, eSearch_seek_7, eSearch_seek_10, eSearch_seek_13, eSearch_seek_14, eSearch_seek_15, eSearch_seek_18, eSearch_seek_19, eSearch_seek_20, eSearch_seek_23, eSearch_seek_24, eSearch_seek_25, eSearch_seek_26, eSearch_seek_27, eSearch_seek_28, eSearch_seek_29, eSearch_seek_31, eSearch_seek_32, eSearch_seek_33, eSearch_seek_36, eSearch_seek_39, eSearch_seek_42, eSearch_seek_43, eSearch_seek_46, eSearch_seek_47, eSearch_seek_48, eSearch_seek_49, eSearch_seek_52, eSearch_seek_55, eSearch_seek_58, eSearch_seek_59, eSearch_seek_60, eSearch_seek_63, eSearch_seek_64, eSearch_seek_65, eSearch_seek_68, eSearch_seek_69, eSearch_seek_72, eSearch_seek_73, eSearch_seek_74, eSearch_seek_75, eSearch_seek_76, eSearch_seek_77, eSearch_seek_80, eSearch_seek_83, eSearch_seek_84, eSearch_seek_85, eSearch_seek_86, eSearch_seek_87, eSearch_seek_93, eSearch_seek_96, va_rf_some, xl_0, xl_1, xl_2, xl_3, xl_4, xl_5, xl_6, xl_7, xl_8, xl_458, xl_459, xl_460, and_false, false_and, tl_some, tl_none, xkl_int, xkl_ref, xkl_dm, xkl_long, true_and, and_true, o_cl, xin_o, lt_ti, le_ti, ito_o, t32_64, o_add1, oz, op0, op1, op2, op3, op4, op5, op6, op7, o8m, o3m, o161m, o461m, o48p, o66p, o72p, o136p, Int32.reduceToInt, Int32.reduceToNatClampNeg, i_10, i_01, le_om1, Int64.reduceToInt, ↓reduceIte, ite_n, ite_p, xu_hit, xu_miss, op11, not_true_eq_false, not_false_eq_true, decide_true, decide_false, bIt0, bIf0, and_self, Int.reduceLE, Int.reduceLT, Int32.reduceAdd, Nat.reduceLeDiff, Nat.reduceLT, Nat.reduceAdd, Nat.reduceMul, Nat.reduceEqDiff, Nat.add_zero, Nat.zero_add, b0]
      exact next I v s1 x1 FrZ_rfl hA (Bef_up hB) (Cov_skip hC (fun j y w h1 h2 h3 h4 h5 h6 => absurd (h4 ▸ h6 k S (Nat.le_refl _) h1 (pre j y h1 h3)) hnh)) (Or.inl ⟨rfl, rfl, rfl⟩) BE_rfl
    | true =>
      generalize hve : 121 + 6 * (k + 1) = u at *
      have hcp : ∀ Q', XM E (d + m + 4) 44 [.ref u, .ref (121 + 6 * k)] I J Q' = Q' none (wr u (copyF (fun b j => I (121 + 6 * k + b) j) (fun b j => I (u + b) j)) I) J := by
        intro Q'
        have := v_copy (E := E) (d := d + m + 3) (I := I) (J := J) (Q := Q') (S := fun b j => I (u + b) j) hu hv (by omega)
        rw [← wr_rd] at this
        exact this
      have hke : ∀ b j, 6 ≤ b → copyF (fun b j => I (121 + 6 * k + b) j) (fun b j => I (u + b) j) b j = I (u + b) j := fun b j hb => copy_keep hb
      have heq : Eqv (copyF (fun b j => I (121 + 6 * k + b) j) (fun b j => I (u + b) j)) S := eqv_trans (copy_eqv _ _) hS
      generalize copyF (fun b j => I (121 + 6 * k + b) j) (fun b j => I (u + b) j) = C at *
      have hxu : xuI (wr u C I) 118 k (o a) = wr u C (xuI I 118 k (o a)) := by
        have : 118 < u := by omega
        funext b j
        unfold wr xuI
        grind
      have k4 : k < 4 := by omega
      have hF1 : RF G (xuI I 118 k (o a)) := RF_fr hG hF (fun b b1 b2 => by funext j; simp (disch := omega) only [xu_hit, xu_miss, ite_n, ite_p, if_true, if_false, and_true, true_and, and_false, false_and, and_self, Nat.reduceEqDiff])
      have hlC : LdOk G C := by
        obtain ⟨p, p1, p2⟩ := hl
        exact ⟨p, (heq.1 6 (by omega) (by omega)).trans p1, p2⟩
      have hgo : ∀ Q', XM E (d + m + 4) 19 [.ref u, .int (o a)] (wr u C (xuI I 118 k (o a))) J Q' = Q' (some (.int (bI (actF G a C).1))) (wr u (actF G a C).2 (xuI I 118 k (o a))) J := fun Q' => c_goes (d := d + m + 1) (by omega) hlC hv hF1 hG
      obtain ⟨ea, eb⟩ := eqv_act (a := a) heq hG
      have hk2 : ∀ b j, 6 ≤ b → (actF G a C).2 b j = xuI I 118 k (o a) (u + b) j := by
        intro b j hb
        rw [act_keep hb, hke b j hb]
        simp (disch := omega) only [xu_hit, xu_miss, ite_n, ite_p, if_true, if_false, and_true, true_and, and_false, false_and, and_self, Nat.reduceEqDiff]
      rw [ea] at hgo
      generalize (actF G a C).2 = C2 at *
      have b1 : bI true = 1 := rfl
      have b10 : ¬ (1 : Int32) = 0 := by decide
      have v0 := hu.1
      have w0 := hv.1
      have k5 : k < 5 := by omega
      have hF2 : RF G (wr u C2 (xuI I 118 k (o a))) := RF_fr hG hF (fun b b1 b2 => by
        rw [wr_keep hk2 (by omega)]
        funext j
        simp (disch := omega) only [xu_hit, xu_miss, ite_n, ite_p, if_true, if_false, and_true, true_and, and_false, false_and, and_self, Nat.reduceEqDiff])
      have hI2 : ∀ b, ¬ b = 118 → b < u ∨ 151 ≤ b → wr u C2 (xuI I 118 k (o a)) b = I b := by
        intro b q1 q2
        rw [wr_keep hk2 (by omega)]
        funext j
        simp (disch := omega) only [xu_hit, xu_miss, ite_n, ite_p, if_true, if_false, and_true, true_and, and_false, false_and, and_self, Nat.reduceEqDiff]
      have hI118 : wr u C2 (xuI I 118 k (o a)) 118 = xuI I 118 k (o a) 118 := wr_keep hk2 (by omega)
      have hfr2 : FrZ k I (wr u C2 (xuI I 118 k (o a))) := ⟨fun b q1 q2 q3 q4 => hI2 b q2 (by omega), fun j hj => congrFun (hI2 117 (by omega) (by omega)) j, fun i hi => by
        rw [hI118]
        simp (disch := omega) only [xu_hit, xu_miss, ite_n, ite_p, if_true, if_false, and_true, true_and, and_false, false_and, and_self, Nat.reduceEqDiff]⟩
      have hA2 : AccI G (3 + gc G) (wr u C2 (xuI I 118 k (o a))) v s1 x1 := by
        unfold AccI at hA ⊢
        rw [hI2 117 (by omega) (by omega), hI2 119 (by omega) (by omega)]
        exact hA
      have hdl := dg_last (k := k) (x := x) haK
      have hpd := pre_div (x := x) haK
      have hx1 : (x * (3 + gc G) + a) / (3 + gc G) ^ (k + 1 - k) = x := by
        rw [show k + 1 - k = 1 by omega, Nat.pow_one]
        exact hpd
      have hr1 : runN G (3 + gc G) (k + 1) (x * (3 + gc G) + a) (k + 1) = if (actF G a S).1 = true then some (actF G a S).2 else none := by
        show (match runN G (3 + gc G) (k + 1) (x * (3 + gc G) + a) k with | some S => if (actF G (dg (3 + gc G) (k + 1) (x * (3 + gc G) + a) k) S).1 = true then some (actF G (dg (3 + gc G) (k + 1) (x * (3 + gc G) + a) k) S).2 else none | none => none) = _
        rw [pre (k + 1) _ (by omega) hx1, hdl]
      simp (disch := first | omega | (simp only [nar_0, nar_1, nar_b, and_self, Nat.reduceLeDiff, Nat.reduceLT, Int32.reduceToInt, KD_117, LN_117, P0_117_0, P0_117_1, P0_117_2, P0_117_3, KD_118, LN_118, KD_120, LN_120, P0_120_0, P0_120_1, P0_120_2, P0_120_3, P0_120_4]; done) | fail) only [mSearch_seek, eSearch_seek_0, eSearch_seek_1, eSearch_seek_2, eSearch_seek_5, eSearch_seek_6, eSearch_seek_7, eSearch_seek_10, eSearch_seek_13, eSearch_seek_14, eSearch_seek_15, eSearch_seek_18, eSearch_seek_19, eSearch_seek_20, eSearch_seek_23, eSearch_seek_24, eSearch_seek_25, eSearch_seek_26, eSearch_seek_27, eSearch_seek_28, eSearch_seek_29, eSearch_seek_31, eSearch_seek_32, eSearch_seek_33, eSearch_seek_36, eSearch_seek_39, eSearch_seek_42, eSearch_seek_43, eSearch_seek_46, eSearch_seek_47, eSearch_seek_48, eSearch_seek_49, eSearch_seek_52, eSearch_seek_55, eSearch_seek_58, eSearch_seek_59, eSearch_seek_60, eSearch_seek_63, eSearch_seek_64, eSearch_seek_65, eSearch_seek_68, eSearch_seek_69, eSearch_seek_72, eSearch_seek_73, eSearch_seek_74, eSearch_seek_75, eSearch_seek_76, eSearch_seek_77, eSearch_seek_80, eSearch_seek_83, eSearch_seek_84, eSearch_seek_85, eSearch_seek_86, eSearch_seek_93, eSearch_seek_96, KD_117, LN_117, P0_117_0, P0_117_1, P0_117_2, P0_117_3, KD_118, LN_118, KD_120, LN_120, P0_120_0, P0_120_1, P0_120_2, P0_120_3, P0_120_4, va_rf_some, xl_0, xl_1, xl_2, xl_3, xl_4, xl_5, xl_6, xl_7, xl_8, xl_458, xl_459, xl_460, and_false, false_and, tl_some, tl_none, xkl_int, xkl_ref, xkl_dm, xkl_long, true_and, and_true, o_cl, xin_o, lt_ti, le_ti, ito_o, t32_64, o_add1, oz, op0, op1, op2, op3, op4, op5, op6, op7, o8m, o3m, o161m, o461m, o48p, o66p, o72p, o136p, Int32.reduceToInt, Int32.reduceToNatClampNeg, i_10, i_01, le_om1, Int64.reduceToInt, ↓reduceIte, ite_n, ite_p, xu_hit, xu_miss, op11, not_true_eq_false, not_false_eq_true, decide_true, decide_false, bIt0, bIf0, and_self, Int.reduceLE, Int.reduceLT, Int32.reduceAdd, Nat.reduceLeDiff, Nat.reduceLT, Nat.reduceAdd, Nat.reduceMul, Nat.reduceEqDiff, Nat.add_zero, Nat.zero_add, b1, b10, k1, k5, k4, v0, w0, hcp, hxu, hgo]
      cases hok : (actF G a S).1 with
      | false =>
        rw [hok] at hr1
        have b0 : bI false = 0 := rfl
        simp (disch := first | omega | (simp only [nar_0, nar_1, nar_b, and_self, Nat.reduceLeDiff, Nat.reduceLT, Int32.reduceToInt]; done) | fail) only [mSearch_seek, eSearch_seek_0, eSearch_seek_1, eSearch_seek_2, eSearch_seek_5, eSearch_seek_6, eSearch_seek_7, eSearch_seek_10, eSearch_seek_13, eSearch_seek_14, eSearch_seek_15, eSearch_seek_18, eSearch_seek_19, eSearch_seek_20, eSearch_seek_23, eSearch_seek_24, eSearch_seek_25, eSearch_seek_26, eSearch_seek_27, eSearch_seek_28, eSearch_seek_29, eSearch_seek_31, eSearch_seek_32, eSearch_seek_33, eSearch_seek_36, eSearch_seek_39, eSearch_seek_42, eSearch_seek_43, eSearch_seek_46, eSearch_seek_47, eSearch_seek_48, eSearch_seek_49, eSearch_seek_52, eSearch_seek_55, eSearch_seek_58, eSearch_seek_59, eSearch_seek_60, eSearch_seek_63, eSearch_seek_64, eSearch_seek_65, eSearch_seek_68, eSearch_seek_69, eSearch_seek_72, eSearch_seek_73, eSearch_seek_74, eSearch_seek_75, eSearch_seek_76, eSearch_seek_77, eSearch_seek_80, eSearch_seek_83, eSearch_seek_84, eSearch_seek_85, eSearch_seek_86, eSearch_seek_93, eSearch_seek_96, va_rf_some, xl_0, xl_1, xl_2, xl_3, xl_4, xl_5, xl_6, xl_7, xl_8, xl_458, xl_459, xl_460, and_false, false_and, tl_some, tl_none, xkl_int, xkl_ref, xkl_dm, xkl_long, true_and, and_true, o_cl, xin_o, lt_ti, le_ti, ito_o, t32_64, o_add1, oz, op0, op1, op2, op3, op4, op5, op6, op7, o8m, o3m, o161m, o461m, o48p, o66p, o72p, o136p, Int32.reduceToInt, Int32.reduceToNatClampNeg, i_10, i_01, le_om1, Int64.reduceToInt, ↓reduceIte, ite_n, ite_p, xu_hit, xu_miss, op11, not_true_eq_false, not_false_eq_true, decide_true, decide_false, bIt0, bIf0, and_self, Int.reduceLE, Int.reduceLT, Int32.reduceAdd, Nat.reduceLeDiff, Nat.reduceLT, Nat.reduceAdd, Nat.reduceMul, Nat.reduceEqDiff, Nat.add_zero, Nat.zero_add, b0]
        refine next _ v s1 x1 hfr2 hA2 (Bef_up hB) (Cov_skip hC (fun j y w h1 h2 h3 h4 h5 h6 => ?_)) (Or.inl ⟨rfl, rfl, rfl⟩) BE_rfl
        have e := pre_dn hK h3 h1
        rw [h4] at e
        have e2 := (runN_pre (G := G) e (by omega) (k + 1) (Nat.le_refl _)).trans hr1
        rw [vN_none (e2.trans (if_neg (by decide))) (by omega)] at h5
        cases h5
      | true =>
        rw [hok] at hr1
        simp (disch := first | omega | (simp only [nar_0, nar_1, nar_b, and_self, Nat.reduceLeDiff, Nat.reduceLT, Int32.reduceToInt]; done) | fail) only [mSearch_seek, eSearch_seek_0, eSearch_seek_1, eSearch_seek_2, eSearch_seek_5, eSearch_seek_6, eSearch_seek_7, eSearch_seek_10, eSearch_seek_13, eSearch_seek_14, eSearch_seek_15, eSearch_seek_18, eSearch_seek_19, eSearch_seek_20, eSearch_seek_23, eSearch_seek_24, eSearch_seek_25, eSearch_seek_26, eSearch_seek_27, eSearch_seek_28, eSearch_seek_29, eSearch_seek_31, eSearch_seek_32, eSearch_seek_33, eSearch_seek_36, eSearch_seek_39, eSearch_seek_42, eSearch_seek_43, eSearch_seek_46, eSearch_seek_47, eSearch_seek_48, eSearch_seek_49, eSearch_seek_52, eSearch_seek_55, eSearch_seek_58, eSearch_seek_59, eSearch_seek_60, eSearch_seek_63, eSearch_seek_64, eSearch_seek_65, eSearch_seek_68, eSearch_seek_69, eSearch_seek_72, eSearch_seek_73, eSearch_seek_74, eSearch_seek_75, eSearch_seek_76, eSearch_seek_77, eSearch_seek_80, eSearch_seek_83, eSearch_seek_84, eSearch_seek_85, eSearch_seek_86, eSearch_seek_93, eSearch_seek_96, va_rf_some, xl_0, xl_1, xl_2, xl_3, xl_4, xl_5, xl_6, xl_7, xl_8, xl_458, xl_459, xl_460, and_false, false_and, tl_some, tl_none, xkl_int, xkl_ref, xkl_dm, xkl_long, true_and, and_true, o_cl, xin_o, lt_ti, le_ti, ito_o, t32_64, o_add1, oz, op0, op1, op2, op3, op4, op5, op6, op7, o8m, o3m, o161m, o461m, o48p, o66p, o72p, o136p, Int32.reduceToInt, Int32.reduceToNatClampNeg, i_10, i_01, le_om1, Int64.reduceToInt, ↓reduceIte, ite_n, ite_p, xu_hit, xu_miss, op11, not_true_eq_false, not_false_eq_true, decide_true, decide_false, bIt0, bIf0, and_self, Int.reduceLE, Int.reduceLT, Int32.reduceAdd, Nat.reduceLeDiff, Nat.reduceLT, Nat.reduceAdd, Nat.reduceMul, Nat.reduceEqDiff, Nat.add_zero, Nat.zero_add, b1, b10]
        rw [eSearch_seek_87]
        rw [if_pos rfl] at hr1
        refine child (x * (3 + gc G) + a) _ _ v s1 x1 _ ?_ hF2 hr1 ?_ (fun i hi => ?_) ?_ hA2 hB (fun v' s' x' I' c1 c2 c3 c4 c5 => ?_)
        · unfold Stg
          rw [hve, show (fun b j => wr u C2 (xuI I 118 k (o a)) (u + b) j) = C2 from funext fun b => funext fun j => wr_at]
          exact eb
        · have := Nat.mul_le_mul_right (3 + gc G) hx
          rw [Nat.pow_succ]
          rw [Nat.succ_mul] at this
          omega
        · rw [hI118]
          by_cases q : i = k
          · subst q
            rw [hdl]
            simp (disch := omega) only [xu_hit, xu_miss, ite_n, ite_p, if_true, if_false, and_true, true_and, and_false, false_and, and_self, Nat.reduceEqDiff]
          · rw [dg_pre hx1 (by omega) (by omega : i < k), ← hac i (by omega)]
            simp (disch := omega) only [xu_hit, xu_miss, ite_n, ite_p, if_true, if_false, and_true, true_and, and_false, false_and, and_self, Nat.reduceEqDiff]
        · rw [hI2 117 (by omega) (by omega)]
          exact h4
        · refine next I' v' s' x' (FrZ_trans hfr2 (FrZ_up c5)) c1 (New_bef c3 hB) (Cov_skip (Cov_be hC c4) (fun j y w h1 h2 h3 h4 h5 h6 => ?_)) c3 c4
          have e := pre_dn hK h3 h1
          rw [h4] at e
          exact c2 j y w h1 h2 e (fun _ => Nat.mod_lt _ hK) h5 (fun i S q => h6 i S (by omega))
end
