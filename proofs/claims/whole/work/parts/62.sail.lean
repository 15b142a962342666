/-! THE CLASS SAILS -/
theorem arr_keep {G : Gv} {l a k : Nat} {S : Sv} (h : 6 ≤ a) : arrF G l S a k = S a k := by
  unfold arrF
  try simp only []
  repeat' split
  all_goals first | rfl | (simp (disch := omega) only [xu_hit, xu_miss, ite_n, ite_p, if_true, if_false, and_true, true_and, and_false, false_and, and_self, Nat.reduceEqDiff])
theorem step_keep {G : Gv} {t c n : Int32} {a k : Nat} {S : Sv} (h : 6 ≤ a) : stepF G t c n S a k = S a k := by
  unfold stepF
  split
  · unfold goUpF
    split
    · rw [arr_keep h, pass_keep (by omega) (by omega) (by omega) (by omega)]
    · rw [xu_06 (by omega)]
  · split
    · unfold goDownF
      split
      · rw [arr_keep h, pass_keep (by omega) (by omega) (by omega) (by omega)]
      · rw [xu_06 (by omega)]
    · split
      · rw [pass_keep (by omega) (by omega) (by omega) (by omega)]
      · rw [doTimes_keep (by omega) (by omega) (by omega) (by omega) (by omega)]
theorem followL_keep {G : Gv} {a k : Nat} (h : 6 ≤ a) : ∀ (l : List (Int32 × Int32 × Int32)) (S : Sv), followL G l S a k = S a k
  | [], S => rfl
  | s :: l, S => by
    unfold followL
    split
    · rw [followL_keep h l]
      split
      · rw [xu_06 (by omega), step_keep h]
      · rw [step_keep h]
    · rfl
theorem dep_keep {G : Gv} {a k : Nat} {S : Sv} (h : 6 ≤ a) : departF G S a k = S a k := by
  rw [dep_at]
  simp (disch := omega) only [xu_hit, xu_miss, ite_n, ite_p, if_true, if_false, and_true, true_and, and_false, false_and, and_self, Nat.reduceEqDiff]
theorem unm_keep {a k : Nat} {S : Sv} (h : 6 ≤ a) : unmoveF S a k = S a k := by
  rw [unm_at]
  simp (disch := omega) only [xu_hit, xu_miss, ite_n, ite_p, if_true, if_false, and_true, true_and, and_false, false_and, and_self, Nat.reduceEqDiff]
theorem wr_keep {v a : Nat} {S : Sv} {I : Iv} (h : ∀ b k, 6 ≤ b → S b k = I (v + b) k) (ha : a < v ∨ v + 6 ≤ a) : wr v S I a = I a := by
  funext k
  unfold wr
  rcases ha with ha | ha
  · rw [if_neg (by omega)]
  · rw [if_pos (by omega), h _ _ (by omega)]
    congr 1
    omega
theorem LK_S {t : Nat} (h : t < 2) : P0 102 t = some (103 + 4 * t) ∧ SY (103 + 4 * t) := by
  match t, h with
  | 0, _ => exact ⟨P0_102_0, SY_103⟩
  | 1, _ => exact ⟨P0_102_1, SY_107⟩
  | k + 2, h => exact absurd h (by omega)
theorem TX_of {t : Nat} {G : Gv} {I : Iv} (ht : t < 2) (hF : RF G I) (hG : OkS G) : TX (30 + 2 * t) (ln G t) (bt G t) I := by
  obtain ⟨k1, k2, k3, k4, k5⟩ := LK_X ht
  obtain ⟨r2, r10, r18, rL, rT, rN, rC, rX⟩ := hF
  have e : 31 + 2 * t = 30 + 2 * t + 1 := by omega
  rw [e] at k3 k4 k5
  obtain ⟨x1, x2⟩ := rX t ht
  rw [e] at x2
  exact ⟨k2, k3, k4, k5, x1, (hG.2.2.2.1 t ht).2, x2⟩
theorem RF_fr {G : Gv} {I I' : Iv} (hG : OkS G) (hF : RF G I) (h : ∀ a, 1 < a → a < 34 → I' a = I a) : RF G I' := by
  obtain ⟨r2, r10, r18, rL, rT, rN, rC, rX⟩ := hF
  obtain ⟨⟨-, g1⟩, ⟨-, g2⟩, ⟨-, g3⟩, -⟩ := hG
  refine ⟨?_, ?_, ?_, fun l k hl hk => ?_, fun l k hl hk => ?_, fun k hk => ?_, fun l k hl hk => ?_, fun t ht => ⟨?_, fun i hi => ?_⟩⟩
  · rw [h _ (by omega) (by omega)]; exact r2
  · rw [h _ (by omega) (by omega)]; exact r10
  · rw [h _ (by omega) (by omega)]; exact r18
  · rw [h _ (by omega) (by omega)]; exact rL l k hl hk
  · rw [h _ (by omega) (by omega)]; exact rT l k hl hk
  · rw [h _ (by omega) (by omega)]; exact rN k hk
  · rw [h _ (by omega) (by omega)]; exact rC l k hl hk
  · rw [h _ (by omega) (by omega)]; exact (rX t ht).1
  · rw [h _ (by omega) (by omega)]; exact (rX t ht).2 i hi
/-- the steps of a text lie ready -/
def RdyS (G : Gv) (t : Nat) (I : Iv) : Prop := I (103 + 4 * t) 3 = o (tell G t).2.length ∧ Mat (fun a k => I (103 + 4 * t + a) k) 0 (tell G t).2
def okV (G : Gv) (t : Nat) : Prop := 0 < gl G ∧ (tell G t).1 = none
theorem frv_m1 {x : Option Nat} (h : ∀ q, x = some q → q < 2147483648) : (frv x = -1) = (x = none) := by
  cases x with
  | none => simp [frv]
  | some q =>
    refine propext ⟨fun e => ?_, fun e => by cases e⟩
    have e2 : o q = -1 := e
    have := ito_o q (h q rfl)
    rw [e2, show (-1 : Int32).toInt = -1 from rfl] at this
    omega
theorem Mat_cg {U U' : Sv} : ∀ (l : List (Int32 × Int32 × Int32)) (z : Nat), (∀ a k, 1 ≤ a → a ≤ 3 → U' a k = U a k) → Mat U z l → Mat U' z l
  | [], _, _, _ => True.intro
  | s :: l, z, h, ⟨⟨m1, m2, m3⟩, m4⟩ => ⟨⟨(h 1 z (by omega) (by omega)).trans m1, fun q => (h 2 z (by omega) (by omega)).trans (m2 q), fun q => (h 3 z (by omega) (by omega)).trans (m3 q)⟩, Mat_cg l (z + 1) h m4⟩
theorem tell_some {G : Gv} {t q : Nat} (hG : OkS G) (ht : t < 2) (h : (tell G t).1 = some q) : q < 2147483648 := by
  have l4 := (hG.2.2.2.1 t ht).2
  have key : ∀ f p, p ≤ ln G t → (rdl (bt G t) (ln G t) f p).1 = some q → q ≤ ln G t := by
    intro f
    induction f with
    | zero => intro p _ h; cases h
    | succ f ih =>
      intro p hp h
      by_cases hpn : p < ln G t
      · rw [rdl_s _ _ _ _ hpn] at h
        unfold cns at h
        cases hx : (stpP (bt G t) (ln G t) p).2 with
        | none =>
          rw [hx] at h
          have h' : (stpP (bt G t) (ln G t) p).1 = q := by cases h; rfl
          have hl := tkE_le (B := bt G t) hpn
          have hk := skp_le (B := bt G t) (n := ln G t) (p := tkE (bt G t) (ln G t) p) hl.2
          have e1 : ∀ p k c m, p ≤ ln G t → (stpE (bt G t) (ln G t) p k c m).1 ≤ ln G t := by
            intro p k c m hp
            unfold stpE
            split
            · next z =>
              have h1 := tkE_le (B := bt G t) z.1
              exact (skp_le (B := bt G t) (n := ln G t) (p := tkE (bt G t) (ln G t) p) h1.2).2
            · exact hp
          have e2 : ∀ p k c, p ≤ ln G t → (stpT (bt G t) (ln G t) p k c).1 ≤ ln G t := by
            intro p k c hp
            unfold stpT
            split
            · next z =>
              have h1 := tkE_le (B := bt G t) z.1
              exact e1 _ _ _ _ (skp_le (B := bt G t) (n := ln G t) (p := tkE (bt G t) (ln G t) p) h1.2).2
            · exact hp
          have e3 : ∀ p, p ≤ ln G t → (stpC (bt G t) (ln G t) p).1 ≤ ln G t := by
            intro p hp
            unfold stpC
            split
            · next z =>
              have h1 := tkE_le (B := bt G t) z.1
              exact e2 _ _ _ (skp_le (B := bt G t) (n := ln G t) (p := tkE (bt G t) (ln G t) p) h1.2).2
            · exact hp
          rw [← h']
          unfold stpP
          split
          · exact e1 _ _ _ _ hk.2
          · split
            · exact e1 _ _ _ _ hk.2
            · split
              · exact e2 _ _ _ hk.2
              · split
                · exact e3 _ hk.2
                · exact hp
        | some s =>
          rw [hx] at h
          exact ih _ (stpP_le hpn hx).2 h
      · rw [rdl, if_neg hpn] at h
        cases h
  have := key _ _ (skp_le (B := bt G t) (n := ln G t) (p := 0) (by omega)).2 h
  omega
section
variable {E : XE} {d : Nat} {I : Iv} {J : Jv} {Q : XQt} {G : Gv} {t : Nat}
theorem c_readT (ht : t < 2) (hF : RF G I) (hG : OkS G) (hQ : ∀ I', (∀ a, a < 103 + 4 * t ∨ 107 + 4 * t ≤ a → I' a = I a) → ((tell G t).1 = none → RdyS G t I') → Q (some (.int (frv (tell G t).1))) I' J) : XM E (d + 7) 22 [.ref (103 + 4 * t), .ref (30 + 2 * t)] I J Q := by
  rw [wr_rd (103 + 4 * t) I]
  refine c_read (LK_S ht).2 (by omega) (TX_of ht hF hG) (fun r U' hg => ?_)
  obtain ⟨rfl, g2, g3, g4⟩ := hg
  refine hQ _ (fun a ha => ?_) (fun hn => ?_)
  · funext k
    unfold wr
    rcases ha with ha | ha
    · rw [if_neg (by omega)]
    · rw [if_pos (by omega), g2 _ (by omega)]
      show I (103 + 4 * t + (a - (103 + 4 * t))) k = I a k
      congr 1
      omega
  · obtain ⟨g5, g6⟩ := g4 hn
    refine ⟨?_, ?_⟩
    · rw [wr_0, g5, Nat.zero_add]
      rfl
    · refine Mat_cg _ 0 (fun a k _ _ => ?_) g6
      rw [wr_at]
theorem c_isVoyage (ht : t < 2) (hF : RF G I) (hG : OkS G) (hQ : ∀ (b : Bool) I', (∀ a, a < 103 + 4 * t ∨ 107 + 4 * t ≤ a → I' a = I a) → (b = true ↔ okV G t) → (b = true → RdyS G t I') → Q (some (.int (bI b))) I' J) : XM E (d + 8) 77 [.ref 0, .int (o t)] I J Q := by
  obtain ⟨k1, k2⟩ := LK_S ht
  obtain ⟨x1, x2, -⟩ := LK_X ht
  have k3 := k2.1
  have r2 := hF.1
  have g1 := hG.1.2
  by_cases hg : 0 < gl G
  · have z : ¬ ((gl G : Nat) : Int) ≤ 0 := by omega
    simp (disch := first | omega | (simp only [nar_0, nar_1, nar_b, and_self, Nat.reduceLeDiff, Nat.reduceLT, Int32.reduceToInt, KD_0, LN_0, P0_0_0, P0_0_1, P0_0_2, P0_0_3, P0_0_4, P0_0_5, P0_0_6, P0_0_7, KD_1, LN_1, P0_1_0, P0_1_1, P0_1_2, P0_1_3, P0_1_4, KD_2, LN_2, P0_2_0, KD_29, LN_29, P0_29_0, P0_29_1, KD_102, LN_102, P0_102_0, P0_102_1]; done) | fail) only [mKT_isVoyage, eKT_isVoyage_0, eKT_isVoyage_1, eKT_isVoyage_4, eKT_isVoyage_7, eKT_isVoyage_10, eKT_isVoyage_13, eKT_isVoyage_14, eKT_isVoyage_17, eKT_isVoyage_18, eKT_isVoyage_19, eKT_isVoyage_20, eKT_isVoyage_23, eKT_isVoyage_26, eKT_isVoyage_27, eKT_isVoyage_28, eKT_isVoyage_31, eKT_isVoyage_32, eKT_isVoyage_35, eKT_isVoyage_36, eKT_isVoyage_39, eKT_isVoyage_40, KD_0, LN_0, P0_0_0, P0_0_1, P0_0_2, P0_0_3, P0_0_4, P0_0_5, P0_0_6, P0_0_7, KD_1, LN_1, P0_1_0, P0_1_1, P0_1_2, P0_1_3, P0_1_4, KD_2, LN_2, P0_2_0, KD_29, LN_29, P0_29_0, P0_29_1, KD_102, LN_102, P0_102_0, P0_102_1, va_rf_some, xl_0, xl_1, xl_2, xl_3, xl_4, xl_5, xl_6, xl_7, xl_8, xl_458, xl_459, xl_460, and_false, false_and, tl_some, tl_none, xkl_int, xkl_ref, xkl_dm, xkl_long, true_and, and_true, o_cl, xin_o, lt_ti, le_ti, ito_o, t32_64, o_add1, oz, op0, op1, op2, op3, op4, op5, op6, op7, o8m, o3m, o161m, o461m, o48p, o66p, o72p, o136p, Int32.reduceToInt, Int32.reduceToNatClampNeg, i_10, i_01, le_om1, Int64.reduceToInt, ↓reduceIte, ite_n, ite_p, xu_hit, xu_miss, op11, not_true_eq_false, not_false_eq_true, decide_true, decide_false, bIt0, bIf0, and_self, Int.reduceLE, Int.reduceLT, Int32.reduceAdd, Nat.reduceLeDiff, Nat.reduceLT, Nat.reduceAdd, Nat.reduceMul, Nat.reduceEqDiff, Nat.add_zero, Nat.zero_add, r2, z, ht, k1, x1]
    refine c_readT ht hF hG (fun I' hf hr => ?_)
    by_cases hn : (tell G t).1 = none
    · have e : frv (tell G t).1 = -1 := by rw [hn]; rfl
      rw [e]
      simp (disch := first | omega | (simp only [nar_0, nar_1, nar_b, and_self, Nat.reduceLeDiff, Nat.reduceLT, Int32.reduceToInt]; done) | fail) only [mKT_isVoyage, eKT_isVoyage_0, eKT_isVoyage_1, eKT_isVoyage_4, eKT_isVoyage_7, eKT_isVoyage_10, eKT_isVoyage_13, eKT_isVoyage_14, eKT_isVoyage_17, eKT_isVoyage_18, eKT_isVoyage_19, eKT_isVoyage_20, eKT_isVoyage_23, eKT_isVoyage_26, eKT_isVoyage_27, eKT_isVoyage_28, eKT_isVoyage_31, eKT_isVoyage_32, eKT_isVoyage_35, eKT_isVoyage_36, eKT_isVoyage_39, eKT_isVoyage_40, va_rf_some, xl_0, xl_1, xl_2, xl_3, xl_4, xl_5, xl_6, xl_7, xl_8, xl_458, xl_459, xl_460, and_false, false_and, tl_some, tl_none, xkl_int, xkl_ref, xkl_dm, xkl_long, true_and, and_true, o_cl, xin_o, lt_ti, le_ti, ito_o, t32_64, o_add1, oz, op0, op1, op2, op3, op4, op5, op6, op7, o8m, o3m, o161m, o461m, o48p, o66p, o72p, o136p, Int32.reduceToInt, Int32.reduceToNatClampNeg, i_10, i_01, le_om1, Int64.reduceToInt, ↓reduceIte, ite_n, ite_p, xu_hit, xu_miss, op11, not_true_eq_false, not_false_eq_true, decide_true, decide_false, bIt0, bIf0, and_self, Int.reduceLE, Int.reduceLT, Int32.reduceAdd, Nat.reduceLeDiff, Nat.reduceLT, Nat.reduceAdd, Nat.reduceMul, Nat.reduceEqDiff, Nat.add_zero, Nat.zero_add]
      exact hQ true I' hf ⟨fun _ => ⟨hg, hn⟩, fun _ => rfl⟩ (fun _ => hr hn)
    · have e : ¬ frv (tell G t).1 = -1 := by rw [frv_m1 (fun q hq => tell_some hG ht hq)]; exact hn
      simp (disch := first | omega | (simp only [nar_0, nar_1, nar_b, and_self, Nat.reduceLeDiff, Nat.reduceLT, Int32.reduceToInt]; done) | fail) only [mKT_isVoyage, eKT_isVoyage_0, eKT_isVoyage_1, eKT_isVoyage_4, eKT_isVoyage_7, eKT_isVoyage_10, eKT_isVoyage_13, eKT_isVoyage_14, eKT_isVoyage_17, eKT_isVoyage_18, eKT_isVoyage_19, eKT_isVoyage_20, eKT_isVoyage_23, eKT_isVoyage_26, eKT_isVoyage_27, eKT_isVoyage_28, eKT_isVoyage_31, eKT_isVoyage_32, eKT_isVoyage_35, eKT_isVoyage_36, eKT_isVoyage_39, eKT_isVoyage_40, va_rf_some, xl_0, xl_1, xl_2, xl_3, xl_4, xl_5, xl_6, xl_7, xl_8, xl_458, xl_459, xl_460, and_false, false_and, tl_some, tl_none, xkl_int, xkl_ref, xkl_dm, xkl_long, true_and, and_true, o_cl, xin_o, lt_ti, le_ti, ito_o, t32_64, o_add1, oz, op0, op1, op2, op3, op4, op5, op6, op7, o8m, o3m, o161m, o461m, o48p, o66p, o72p, o136p, Int32.reduceToInt, Int32.reduceToNatClampNeg, i_10, i_01, le_om1, Int64.reduceToInt, ↓reduceIte, ite_n, ite_p, xu_hit, xu_miss, op11, not_true_eq_false, not_false_eq_true, decide_true, decide_false, bIt0, bIf0, and_self, Int.reduceLE, Int.reduceLT, Int32.reduceAdd, Nat.reduceLeDiff, Nat.reduceLT, Nat.reduceAdd, Nat.reduceMul, Nat.reduceEqDiff, Nat.add_zero, Nat.zero_add, e]
      exact hQ false I' hf ⟨fun q => (by cases q), fun q => absurd q.2 hn⟩ (fun q => by cases q)
  · have z : ((gl G : Nat) : Int) ≤ 0 := by omega
    simp (disch := first | omega | (simp only [nar_0, nar_1, nar_b, and_self, Nat.reduceLeDiff, Nat.reduceLT, Int32.reduceToInt, KD_0, LN_0, P0_0_0, P0_0_1, P0_0_2, P0_0_3, P0_0_4, P0_0_5, P0_0_6, P0_0_7, KD_1, LN_1, P0_1_0, P0_1_1, P0_1_2, P0_1_3, P0_1_4, KD_2, LN_2, P0_2_0]; done) | fail) only [mKT_isVoyage, eKT_isVoyage_0, eKT_isVoyage_1, eKT_isVoyage_4, eKT_isVoyage_7, eKT_isVoyage_10, eKT_isVoyage_13, eKT_isVoyage_14, eKT_isVoyage_17, eKT_isVoyage_18, eKT_isVoyage_19, eKT_isVoyage_20, eKT_isVoyage_23, eKT_isVoyage_26, eKT_isVoyage_27, eKT_isVoyage_28, eKT_isVoyage_31, eKT_isVoyage_32, eKT_isVoyage_35, eKT_isVoyage_36, eKT_isVoyage_39, eKT_isVoyage_40, KD_0, LN_0, P0_0_0, P0_0_1, P0_0_2, P0_0_3, P0_0_4, P0_0_5, P0_0_6, P0_0_7, KD_1, LN_1, P0_1_0, P0_1_1, P0_1_2, P0_1_3, P0_1_4, KD_2, LN_2, P0_2_0, va_rf_some, xl_0, xl_1, xl_2, xl_3, xl_4, xl_5, xl_6, xl_7, xl_8, xl_458, xl_459, xl_460, and_false, false_and, tl_some, tl_none, xkl_int, xkl_ref, xkl_dm, xkl_long, true_and, and_true, o_cl, xin_o, lt_ti, le_ti, ito_o, t32_64, o_add1, oz, op0, op1, op2, op3, op4, op5, op6, op7, o8m, o3m, o161m, o461m, o48p, o66p, o72p, o136p, Int32.reduceToInt, Int32.reduceToNatClampNeg, i_10, i_01, le_om1, Int64.reduceToInt, ↓reduceIte, ite_n, ite_p, xu_hit, xu_miss, op11, not_true_eq_false, not_false_eq_true, decide_true, decide_false, bIt0, bIf0, and_self, Int.reduceLE, Int.reduceLT, Int32.reduceAdd, Nat.reduceLeDiff, Nat.reduceLT, Nat.reduceAdd, Nat.reduceMul, Nat.reduceEqDiff, Nat.add_zero, Nat.zero_add, r2, z]
    exact hQ false I (fun _ _ => rfl) ⟨fun q => (by cases q), fun q => absurd q.1 hg⟩ (fun q => by cases q)
theorem c_follow {S : Sv} {v : Nat} (ht : t < 2) (hr : RdyS G t I) (hl : LdOk G S) (hv : VY v) (hv2 : 111 ≤ v) (hF : RF G I) (hG : OkS G) : XM E (d + 4) 45 [.ref v, .ref (103 + 4 * t)] (wr v S I) J Q = Q none (wr v (followL G (tell G t).2 S) I) J := by
  obtain ⟨h1, h2⟩ := hr
  obtain ⟨l1, l2⟩ := tell_len hG ht
  have hok := Mat_ok (tell G t).2 0 l1 h2
  rw [v_follow (LK_S ht).2 (by omega) (by omega) h1 (fun i hi => by
    have := hok i hi
    rw [Nat.zero_add] at this
    exact this) hv hF hG hl]
  have e := follow_L (G := G) (U := fun a k => I (103 + 4 * t + a) k) (tell G t).2 0 S l1 h2
  rw [← e]
theorem c_sail (ht : t < 2) (hF : RF G I) (hG : OkS G) (hQf : ¬ okV G t → ∀ I', (∀ a, a < 103 + 4 * t ∨ 107 + 4 * t ≤ a → I' a = I a) → Q (some (.int (bI false))) I' J) (hQt : okV G t → ∀ (S : Sv) I', (∀ a, a < 103 + 4 * t ∨ 117 ≤ a ∨ (107 + 4 * t ≤ a ∧ a < 111) → wr 111 (followL G (tell G t).2 (departF G (unmoveF S))) I' a = I a) → (∀ a, a < 103 + 4 * t ∨ 107 + 4 * t ≤ a → I' a = I a) → Q (some (.int (bI true))) (wr 111 (followL G (tell G t).2 (departF G (unmoveF S))) I') J) : XM E (d + 9) 78 [.ref 0, .int (o t)] I J Q := by
  obtain ⟨k1, k2⟩ := LK_S ht
  have k3 := k2.1
  simp (disch := first | omega | (simp only [nar_0, nar_1, nar_b, and_self, Nat.reduceLeDiff, Nat.reduceLT, Int32.reduceToInt, KD_0, LN_0, P0_0_0, P0_0_1, P0_0_2, P0_0_3, P0_0_4, P0_0_5, P0_0_6, P0_0_7]; done) | fail) only [mKT_sail, eKT_sail_0, eKT_sail_1, eKT_sail_2, eKT_sail_5, eKT_sail_8, eKT_sail_9, eKT_sail_10, eKT_sail_11, eKT_sail_14, eKT_sail_17, eKT_sail_18, eKT_sail_21, eKT_sail_24, eKT_sail_25, eKT_sail_28, eKT_sail_29, eKT_sail_32, eKT_sail_33, eKT_sail_34, eKT_sail_37, eKT_sail_38, KD_0, LN_0, P0_0_0, P0_0_1, P0_0_2, P0_0_3, P0_0_4, P0_0_5, P0_0_6, P0_0_7, va_rf_some, xl_0, xl_1, xl_2, xl_3, xl_4, xl_5, xl_6, xl_7, xl_8, xl_458, xl_459, xl_460, and_false, false_and, tl_some, tl_none, xkl_int, xkl_ref, xkl_dm, xkl_long, true_and, and_true, o_cl, xin_o, lt_ti, le_ti, ito_o, t32_64, o_add1, oz, op0, op1, op2, op3, op4, op5, op6, op7, o8m, o3m, o161m, o461m, o48p, o66p, o72p, o136p, Int32.reduceToInt, Int32.reduceToNatClampNeg, i_10, i_01, le_om1, Int64.reduceToInt, ↓reduceIte, ite_n, ite_p, xu_hit, xu_miss, op11, not_true_eq_false, not_false_eq_true, decide_true, decide_false, bIt0, bIf0, and_self, Int.reduceLE, Int.reduceLT, Int32.reduceAdd, Nat.reduceLeDiff, Nat.reduceLT, Nat.reduceAdd, Nat.reduceMul, Nat.reduceEqDiff, Nat.add_zero, Nat.zero_add]
  refine c_isVoyage ht hF hG (fun b I1 hf hb hr => ?_)
  cases b with
  | false =>
    simp (disch := first | omega | (simp only [nar_0, nar_1, nar_b, and_self, Nat.reduceLeDiff, Nat.reduceLT, Int32.reduceToInt]; done) | fail) only [mKT_sail, eKT_sail_0, eKT_sail_1, eKT_sail_2, eKT_sail_5, eKT_sail_8, eKT_sail_9, eKT_sail_10, eKT_sail_11, eKT_sail_14, eKT_sail_17, eKT_sail_18, eKT_sail_21, eKT_sail_24, eKT_sail_25, eKT_sail_28, eKT_sail_29, eKT_sail_32, eKT_sail_33, eKT_sail_34, eKT_sail_37, eKT_sail_38, va_rf_some, xl_0, xl_1, xl_2, xl_3, xl_4, xl_5, xl_6, xl_7, xl_8, xl_458, xl_459, xl_460, and_false, false_and, tl_some, tl_none, xkl_int, xkl_ref, xkl_dm, xkl_long, true_and, and_true, o_cl, xin_o, lt_ti, le_ti, ito_o, t32_64, o_add1, oz, op0, op1, op2, op3, op4, op5, op6, op7, o8m, o3m, o161m, o461m, o48p, o66p, o72p, o136p, Int32.reduceToInt, Int32.reduceToNatClampNeg, i_10, i_01, le_om1, Int64.reduceToInt, ↓reduceIte, ite_n, ite_p, xu_hit, xu_miss, op11, not_true_eq_false, not_false_eq_true, decide_true, decide_false, bIt0, bIf0, and_self, Int.reduceLE, Int.reduceLT, Int32.reduceAdd, Nat.reduceLeDiff, Nat.reduceLT, Nat.reduceAdd, Nat.reduceMul, Nat.reduceEqDiff, Nat.add_zero, Nat.zero_add]
    exact hQf (fun q => by have := hb.mpr q; cases this) I1 hf
  | true =>
    have ho := hb.mp rfl
    have hF1 := RF_fr hG hF (fun a _ _ => hf a (by omega))
    have hr1 := hr rfl
    have hun := fun E d J Q => v_unmove (E := E) (d := d) (J := J) (Q := Q) (S := fun a k => I1 (111 + a) k) (I := I1) VY_111
    have hdp := fun E d J Q S => v_depart (E := E) (d := d) (J := J) (Q := Q) (S := S) (I := I1) VY_111 hF1 hG
    have hfo := fun E d J Q S hl => c_follow (E := E) (d := d) (J := J) (Q := Q) (S := S) (I := I1) ht hr1 hl VY_111 (by omega) hF1 hG
    rw [← wr_rd 111 I1] at hun
    have hfo' := fun E d J Q S => hfo E d J Q (departF G S) (ld_dep ho.1)
    simp (disch := first | omega | (simp only [nar_0, nar_1, nar_b, and_self, Nat.reduceLeDiff, Nat.reduceLT, Int32.reduceToInt, KD_0, LN_0, P0_0_0, P0_0_1, P0_0_2, P0_0_3, P0_0_4, P0_0_5, P0_0_6, P0_0_7, KD_102, LN_102, P0_102_0, P0_102_1, KD_111, LN_111, P0_111_0, P0_111_1, P0_111_2, P0_111_3, P0_111_4, P0_111_5]; done) | fail) only [mKT_sail, eKT_sail_0, eKT_sail_1, eKT_sail_2, eKT_sail_5, eKT_sail_8, eKT_sail_9, eKT_sail_10, eKT_sail_11, eKT_sail_14, eKT_sail_17, eKT_sail_18, eKT_sail_21, eKT_sail_24, eKT_sail_25, eKT_sail_28, eKT_sail_29, eKT_sail_32, eKT_sail_33, eKT_sail_34, eKT_sail_37, eKT_sail_38, KD_0, LN_0, P0_0_0, P0_0_1, P0_0_2, P0_0_3, P0_0_4, P0_0_5, P0_0_6, P0_0_7, KD_102, LN_102, P0_102_0, P0_102_1, KD_111, LN_111, P0_111_0, P0_111_1, P0_111_2, P0_111_3, P0_111_4, P0_111_5, va_rf_some, xl_0, xl_1, xl_2, xl_3, xl_4, xl_5, xl_6, xl_7, xl_8, xl_458, xl_459, xl_460, and_false, false_and, tl_some, tl_none, xkl_int, xkl_ref, xkl_dm, xkl_long, true_and, and_true, o_cl, xin_o, lt_ti, le_ti, ito_o, t32_64, o_add1, oz, op0, op1, op2, op3, op4, op5, op6, op7, o8m, o3m, o161m, o461m, o48p, o66p, o72p, o136p, Int32.reduceToInt, Int32.reduceToNatClampNeg, i_10, i_01, le_om1, Int64.reduceToInt, ↓reduceIte, ite_n, ite_p, xu_hit, xu_miss, op11, not_true_eq_false, not_false_eq_true, decide_true, decide_false, bIt0, bIf0, and_self, Int.reduceLE, Int.reduceLT, Int32.reduceAdd, Nat.reduceLeDiff, Nat.reduceLT, Nat.reduceAdd, Nat.reduceMul, Nat.reduceEqDiff, Nat.add_zero, Nat.zero_add, k1, ht, hun, hdp, hfo']
    refine hQt ho _ I1 (fun a ha => ?_) hf
    rw [wr_keep (fun b k hb => by rw [followL_keep hb, dep_keep hb, unm_keep hb]) (by omega)]
    exact hf a (by omega)
end
