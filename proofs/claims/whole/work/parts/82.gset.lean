/-! HOME BY THE BEST VOYAGE, AS A NUMBER; ONE CELL OF THE RIVER PUT OTHERWISE -/
def HomeV (G : Gv) (n : Nat) (v : Int32) : Prop := ∃ s x, BestN G (3 + gc G) n v s x
theorem HomeV_ex (G : Gv) (n : Nat) : ∃ v, HomeV G n v := by
  obtain ⟨v, s, x, h⟩ := BestN_ex G (3 + gc G) n
  exact ⟨v, s, x, BestU_end h⟩
theorem HomeV_uni {G : Gv} {n : Nat} {v v' : Int32} (h : HomeV G n v) (h2 : HomeV G n v') : v = v' := by
  obtain ⟨s, x, h⟩ := h
  obtain ⟨s2, x2, h2⟩ := h2
  exact (BestN_uni h h2).1
noncomputable def hvN (G : Gv) (n : Nat) : Int32 := Classical.choose (HomeV_ex G n)
theorem hvN_eq {G : Gv} {n : Nat} {v : Int32} (h : HomeV G n v) : v = hvN G n := HomeV_uni h (Classical.choose_spec (HomeV_ex G n))
theorem hvN_nn {G : Gv} {n h : Nat} (hn : n ≤ 4) (hG : OkS G) (hg : 0 < gl G) (hh : G 70 = o h) (hht : h < gt G) : 0 ≤ (hvN G n).toInt := by
  obtain ⟨s, x, a1, a2, a3, a4⟩ := Classical.choose_spec (HomeV_ex G n)
  have g2 := hG.2.1.2
  show 0 ≤ (Classical.choose (HomeV_ex G n)).toInt
  generalize Classical.choose (HomeV_ex G n) = v at *
  unfold vN at a3
  cases hr : runN G (3 + gc G) s x s with
  | none => rw [hr] at a3; cases a3
  | some S =>
    obtain ⟨-, -, b1⟩ := runN_inv hG hg s S (by omega) hr
    rw [hr, hh, o_cl (by omega)] at a3
    simp only [] at a3
    split at a3
    · cases a3
      exact (b1.1 h (by omega)).1
    · cases a3
def gset (G : Gv) (k : Nat) (x : Int32) : Gv := fun j => if j = k then x else G j
theorem gs_hit {G : Gv} {k j : Nat} {x : Int32} (h : j = k) : gset G k x j = x := if_pos h
theorem gs_miss {G : Gv} {k j : Nat} {x : Int32} (h : ¬ j = k) : gset G k x j = G j := if_neg h
theorem gs_gl {G : Gv} {k : Nat} {x : Int32} (h : ¬ k = 458) : gl (gset G k x) = gl G := by unfold gl; rw [gs_miss (by omega)]
theorem gs_gt {G : Gv} {k : Nat} {x : Int32} (h : ¬ k = 459) : gt (gset G k x) = gt G := by unfold gt; rw [gs_miss (by omega)]
theorem gs_gc {G : Gv} {k : Nat} {x : Int32} (h : ¬ k = 460) : gc (gset G k x) = gc G := by unfold gc; rw [gs_miss (by omega)]
theorem gs_ln {G : Gv} {k t : Nat} {x : Int32} (h : k < 136) : ln (gset G k x) t = ln G t := by unfold ln; rw [gs_miss (by omega)]
theorem RF_thing {G : Gv} {I I' : Iv} {t : Nat} {x : Int32} (hG : OkS G) (hF : RF G I) (ht : t < 6) (h1 : ∀ a, 1 < a → a < 34 → ¬ a = 12 + t → I' a = I a) (h2 : I' (12 + t) 2 = x) (h3 : ∀ k, k < 2 → I' (12 + t) k = I (12 + t) k) : RF (gset G (48 + 3 * t + 2) x) I' := by
  obtain ⟨r2, r10, r18, rL, rT, rN, rC, rX⟩ := hF
  obtain ⟨⟨-, g1⟩, ⟨-, g2⟩, ⟨-, g3⟩, g4, -⟩ := hG
  unfold RF
  rw [gs_gl (by omega), gs_gt (by omega), gs_gc (by omega)]
  refine ⟨?_, ?_, ?_, fun l k hl hk => ?_, fun l k hl hk => ?_, fun k hk => ?_, fun l k hl hk => ?_, fun u hu => ?_⟩
  · rw [h1 _ (by omega) (by omega) (by omega)]; exact r2
  · rw [h1 _ (by omega) (by omega) (by omega)]; exact r10
  · rw [h1 _ (by omega) (by omega) (by omega)]; exact r18
  · rw [h1 _ (by omega) (by omega) (by omega), gs_miss (by omega)]; exact rL l k hl hk
  · by_cases e : l = t
    · subst e
      by_cases e2 : k = 2
      · subst e2
        rw [gs_hit rfl]; exact h2
      · rw [gs_miss (by omega), h3 k (by omega)]; exact rT l k hl hk
    · rw [h1 _ (by omega) (by omega) (by omega), gs_miss (by omega)]; exact rT l k hl hk
  · rw [h1 _ (by omega) (by omega) (by omega), gs_miss (by omega)]; exact rN k hk
  · rw [h1 _ (by omega) (by omega) (by omega), gs_miss (by omega)]; exact rC l k hl hk
  · rw [gs_ln (by omega), h1 _ (by omega) (by omega) (by omega), h1 _ (by omega) (by omega) (by omega)]
    refine ⟨(rX u hu).1, fun i hi => ?_⟩
    rw [gs_miss (by omega)]; exact (rX u hu).2 i hi
theorem RF_num {G : Gv} {I I' : Iv} {t : Nat} {x : Int32} (hG : OkS G) (hF : RF G I) (ht : t < 6) (h1 : ∀ a, 1 < a → a < 34 → ¬ a = 28 → I' a = I a) (h2 : I' 28 t = x) (h3 : ∀ k, k < 6 → ¬ k = t → I' 28 k = I 28 k) : RF (gset G (66 + t) x) I' := by
  obtain ⟨r2, r10, r18, rL, rT, rN, rC, rX⟩ := hF
  obtain ⟨⟨-, g1⟩, ⟨-, g2⟩, ⟨-, g3⟩, g4, -⟩ := hG
  unfold RF
  rw [gs_gl (by omega), gs_gt (by omega), gs_gc (by omega)]
  refine ⟨?_, ?_, ?_, fun l k hl hk => ?_, fun l k hl hk => ?_, fun k hk => ?_, fun l k hl hk => ?_, fun u hu => ?_⟩
  · rw [h1 _ (by omega) (by omega) (by omega)]; exact r2
  · rw [h1 _ (by omega) (by omega) (by omega)]; exact r10
  · rw [h1 _ (by omega) (by omega) (by omega)]; exact r18
  · rw [h1 _ (by omega) (by omega) (by omega), gs_miss (by omega)]; exact rL l k hl hk
  · rw [h1 _ (by omega) (by omega) (by omega), gs_miss (by omega)]; exact rT l k hl hk
  · by_cases e : k = t
    · subst e
      rw [gs_hit rfl]; exact h2
    · rw [gs_miss (by omega), h3 k hk e]; exact rN k hk
  · rw [h1 _ (by omega) (by omega) (by omega), gs_miss (by omega)]; exact rC l k hl hk
  · rw [gs_ln (by omega), h1 _ (by omega) (by omega) (by omega), h1 _ (by omega) (by omega) (by omega)]
    refine ⟨(rX u hu).1, fun i hi => ?_⟩
    rw [gs_miss (by omega)]; exact (rX u hu).2 i hi
theorem OkS_thing {G : Gv} {t : Nat} {x : Int32} (hG : OkS G) (ht : t < 6) (hx : bw x 0 100) : OkS (gset G (48 + 3 * t + 2) x) := by
  obtain ⟨⟨e1, g1⟩, ⟨e2, g2⟩, ⟨e3, g3⟩, e4, oL, oT, oN, oC⟩ := hG
  have c1 : gl (gset G (48 + 3 * t + 2) x) = gl G := gs_gl (by omega)
  have c2 : gt (gset G (48 + 3 * t + 2) x) = gt G := gs_gt (by omega)
  have c3 : gc (gset G (48 + 3 * t + 2) x) = gc G := gs_gc (by omega)
  refine ⟨?_, ?_, ?_, fun u hu => ?_, ?_, fun u hu => ?_, ?_, ?_⟩
  · rw [c1, gs_miss (by omega)]; exact ⟨e1, g1⟩
  · rw [c2, gs_miss (by omega)]; exact ⟨e2, g2⟩
  · rw [c3, gs_miss (by omega)]; exact ⟨e3, g3⟩
  · rw [gs_ln (by omega), gs_miss (by omega)]; exact e4 u hu
  · exact OkL_of oL c1 (by omega) (fun k _ => gs_miss (by omega)) g1
  · rw [c2] at hu
    obtain ⟨b1, b2, b3⟩ := oT u hu
    rw [gs_miss (by omega), gs_miss (by omega)]
    refine ⟨b1, b2, ?_⟩
    by_cases e : u = t
    · rw [gs_hit (by omega)]; exact hx
    · rw [gs_miss (by omega)]; exact b3
  · exact OkN_of oN (by omega) (by omega) (fun k _ _ => gs_miss (by omega))
  · exact OkC_of oC c3 (by omega) (by omega) (fun k _ _ => gs_miss (by omega)) g3
theorem OkS_num {G : Gv} {t : Nat} {x : Int32} (hG : OkS G) (ht : t < 6) (hx : OkN (gset G (66 + t) x)) : OkS (gset G (66 + t) x) := by
  obtain ⟨⟨e1, g1⟩, ⟨e2, g2⟩, ⟨e3, g3⟩, e4, oL, oT, oN, oC⟩ := hG
  have c1 : gl (gset G (66 + t) x) = gl G := gs_gl (by omega)
  have c2 : gt (gset G (66 + t) x) = gt G := gs_gt (by omega)
  have c3 : gc (gset G (66 + t) x) = gc G := gs_gc (by omega)
  refine ⟨?_, ?_, ?_, fun u hu => ?_, ?_, fun u hu => ?_, hx, ?_⟩
  · rw [c1, gs_miss (by omega)]; exact ⟨e1, g1⟩
  · rw [c2, gs_miss (by omega)]; exact ⟨e2, g2⟩
  · rw [c3, gs_miss (by omega)]; exact ⟨e3, g3⟩
  · rw [gs_ln (by omega), gs_miss (by omega)]; exact e4 u hu
  · exact OkL_of oL c1 (by omega) (fun k _ => gs_miss (by omega)) g1
  · rw [c2] at hu
    rw [gs_miss (by omega), gs_miss (by omega), gs_miss (by omega)]
    exact oT u hu
  · exact OkC_of oC c3 (by omega) (by omega) (fun k _ _ => gs_miss (by omega)) g3
/-- cells that the class's search leaves -/
def FrC (I I' : Iv) : Prop := ∀ a, a < 117 ∨ a = 120 ∨ 151 ≤ a → I' a = I a
/-- cells that the model's search leaves -/
def FrM (I I' : Iv) : Prop := ∀ a, a < 157 ∨ (158 ≤ a ∧ a ≤ 160) → I' a = I a
section
variable {E : XE} {d : Nat} {I : Iv} {J : Jv} {Q : XQt} {G : Gv}
theorem c_homeV {n h : Nat} (hn : n ≤ 4) (hF : RF G I) (hG : OkS G) (hg : 0 < gl G) (hh : G 70 = o h) (hht : h < gt G) (hQ : ∀ I', FrC I I' → Q (some (.int (hvN G n))) I' J) : XM E (d + 10) 16 [.ref 117, .int (o n)] I J Q := by
  have cmh := c_mostHome (E := E) (d := d + 1 + (4 - n)) (J := J) (n := n) (I := I) (Q := Q) hn hF hG hg hh hht (fun v s x I' a1 a2 a3 a4 => by
    rw [hvN_eq ⟨s, x, a1⟩]
    exact hQ I' a4)
  rw [show d + 1 + (4 - n) + n + 5 = d + 10 by omega] at cmh
  exact cmh
theorem m_homeV {n h : Nat} (hn : n ≤ 4) (hI : I 158 = G) (hG : OkS G) (hg : 0 < gl G) (hh : G 70 = o h) (hht : h < gt G) (hQ : ∀ I', FrM I I' → Q (some (.int (hvN G n))) I' J) : XM E (d + 6) 161 [.ref 157, .int (o n)] I J Q := by
  rw [wr_rd 157 I]
  refine m_findBest hn hG hg hh hht (T := fun a k => I (157 + a) k) hI (fun v s x T' a1 a2 a3 => ?_)
  rw [hvN_eq ⟨s, x, a1⟩]
  refine hQ _ (fun a ha => ?_)
  rcases ha with ha | ha
  · funext k
    exact wr_lt (by omega)
  · obtain ⟨b, rfl⟩ : ∃ b, a = 157 + b := ⟨a - 157, by omega⟩
    funext k
    rw [wr_at, a3 b (by omega) (by omega)]
/-- home with so many more of a thing -/
theorem c_homeWith {n h t : Nat} {w : Int32} (hn : n ≤ 4) (hF : RF G I) (hG : OkS G) (hg : 0 < gl G) (hh : G 70 = o h) (hht : h < gt G) (ht : t < gt G) (hw : bw (G (48 + 3 * t + 2) + w) 0 100) (hQ : ∀ I', FrC I I' → Q (some (.int (hvN (gset G (48 + 3 * t + 2) (G (48 + 3 * t + 2) + w)) n))) I' J) : XM E (d + 11) 92 [.ref 0, .int (o t), .int w, .int (o n)] I J Q := by
  have g2 := hG.2.1.2
  have t6 : t < 6 := by omega
  obtain ⟨k1, k2, k3⟩ := LK_T t6
  have r2 : I (12 + t) 2 = G (48 + 3 * t + 2) := hF.2.2.2.2.1 t 2 ht (by omega)
  simp (disch := first | omega | (simp only [nar_0, nar_1, nar_b, and_self, Nat.reduceLeDiff, Nat.reduceLT, Int32.reduceToInt, KD_0, LN_0, P0_0_0, P0_0_1, P0_0_2, P0_0_3, P0_0_4, P0_0_5, P0_0_6, P0_0_7, KD_1, LN_1, P0_1_0, P0_1_1, P0_1_2, P0_1_3, P0_1_4, KD_10, LN_10, P0_10_0, KD_11, LN_11, P0_11_0, P0_11_1, P0_11_2, P0_11_3, P0_11_4, P0_11_5, KD_117, LN_117, P0_117_0, P0_117_1, P0_117_2, P0_117_3]; done) | fail) only [mKT_homeWith, eKT_homeWith_0, eKT_homeWith_1, eKT_homeWith_4, eKT_homeWith_7, eKT_homeWith_10, eKT_homeWith_11, eKT_homeWith_12, eKT_homeWith_14, eKT_homeWith_16, eKT_homeWith_17, eKT_homeWith_18, eKT_homeWith_19, eKT_homeWith_20, eKT_homeWith_21, eKT_homeWith_22, eKT_homeWith_23, eKT_homeWith_26, eKT_homeWith_27, eKT_homeWith_30, eKT_homeWith_32, eKT_homeWith_34, eKT_homeWith_35, eKT_homeWith_36, eKT_homeWith_37, eKT_homeWith_38, eKT_homeWith_39, eKT_homeWith_40, eKT_homeWith_42, KD_0, LN_0, P0_0_0, P0_0_1, P0_0_2, P0_0_3, P0_0_4, P0_0_5, P0_0_6, P0_0_7, KD_1, LN_1, P0_1_0, P0_1_1, P0_1_2, P0_1_3, P0_1_4, KD_10, LN_10, P0_10_0, KD_11, LN_11, P0_11_0, P0_11_1, P0_11_2, P0_11_3, P0_11_4, P0_11_5, KD_117, LN_117, P0_117_0, P0_117_1, P0_117_2, P0_117_3, va_rf_some, xl_0, xl_1, xl_2, xl_3, xl_4, xl_5, xl_6, xl_7, xl_8, xl_458, xl_459, xl_460, and_false, false_and, tl_some, tl_none, xkl_int, xkl_ref, xkl_dm, xkl_long, true_and, and_true, o_cl, xin_o, lt_ti, le_ti, ito_o, t32_64, o_add1, oz, op0, op1, op2, op3, op4, op5, op6, op7, o8m, o3m, o161m, o461m, o48p, o66p, o72p, o136p, Int32.reduceToInt, Int32.reduceToNatClampNeg, i_10, i_01, le_om1, Int64.reduceToInt, ↓reduceIte, ite_n, ite_p, xu_hit, xu_miss, op11, not_true_eq_false, not_false_eq_true, decide_true, decide_false, bIt0, bIf0, and_self, Int.reduceLE, Int.reduceLT, Int32.reduceAdd, Nat.reduceLeDiff, Nat.reduceLT, Nat.reduceAdd, Nat.reduceMul, Nat.reduceEqDiff, Nat.add_zero, Nat.zero_add, k1, k2, k3, r2, t6]
  refine c_homeV (G := gset G (48 + 3 * t + 2) (G (48 + 3 * t + 2) + w)) hn ?_ (OkS_thing hG t6 hw) (by rw [gs_gl (by omega)]; exact hg) (by rw [gs_miss (by omega)]; exact hh) (by rw [gs_gt (by omega)]; exact hht) (fun I' hf => ?_)
  · exact RF_thing hG hF t6 (fun a _ _ h3 => funext fun j => by simp (disch := omega) only [xu_hit, xu_miss, ite_n, ite_p, if_true, if_false, and_true, true_and, and_false, false_and, and_self, Nat.reduceEqDiff]) (by simp (disch := omega) only [xu_hit, xu_miss, ite_n, ite_p, if_true, if_false, and_true, true_and, and_false, false_and, and_self, Nat.reduceEqDiff]) (fun k hk => by simp (disch := omega) only [xu_hit, xu_miss, ite_n, ite_p, if_true, if_false, and_true, true_and, and_false, false_and, and_self, Nat.reduceEqDiff])
  have e12 : I' (12 + t) = xuI I (12 + t) 2 (G (48 + 3 * t + 2) + w) (12 + t) := hf _ (by omega)
  simp (disch := first | omega | (simp only [nar_0, nar_1, nar_b, and_self, Nat.reduceLeDiff, Nat.reduceLT, Int32.reduceToInt, KD_0, LN_0, P0_0_0, P0_0_1, P0_0_2, P0_0_3, P0_0_4, P0_0_5, P0_0_6, P0_0_7, KD_1, LN_1, P0_1_0, P0_1_1, P0_1_2, P0_1_3, P0_1_4, KD_10, LN_10, P0_10_0, KD_11, LN_11, P0_11_0, P0_11_1, P0_11_2, P0_11_3, P0_11_4, P0_11_5]; done) | fail) only [mKT_homeWith, eKT_homeWith_0, eKT_homeWith_1, eKT_homeWith_4, eKT_homeWith_7, eKT_homeWith_10, eKT_homeWith_11, eKT_homeWith_12, eKT_homeWith_14, eKT_homeWith_16, eKT_homeWith_17, eKT_homeWith_18, eKT_homeWith_19, eKT_homeWith_20, eKT_homeWith_21, eKT_homeWith_22, eKT_homeWith_23, eKT_homeWith_26, eKT_homeWith_27, eKT_homeWith_30, eKT_homeWith_32, eKT_homeWith_34, eKT_homeWith_35, eKT_homeWith_36, eKT_homeWith_37, eKT_homeWith_38, eKT_homeWith_39, eKT_homeWith_40, eKT_homeWith_42, KD_0, LN_0, P0_0_0, P0_0_1, P0_0_2, P0_0_3, P0_0_4, P0_0_5, P0_0_6, P0_0_7, KD_1, LN_1, P0_1_0, P0_1_1, P0_1_2, P0_1_3, P0_1_4, KD_10, LN_10, P0_10_0, KD_11, LN_11, P0_11_0, P0_11_1, P0_11_2, P0_11_3, P0_11_4, P0_11_5, va_rf_some, xl_0, xl_1, xl_2, xl_3, xl_4, xl_5, xl_6, xl_7, xl_8, xl_458, xl_459, xl_460, and_false, false_and, tl_some, tl_none, xkl_int, xkl_ref, xkl_dm, xkl_long, true_and, and_true, o_cl, xin_o, lt_ti, le_ti, ito_o, t32_64, o_add1, oz, op0, op1, op2, op3, op4, op5, op6, op7, o8m, o3m, o161m, o461m, o48p, o66p, o72p, o136p, Int32.reduceToInt, Int32.reduceToNatClampNeg, i_10, i_01, le_om1, Int64.reduceToInt, ↓reduceIte, ite_n, ite_p, xu_hit, xu_miss, op11, not_true_eq_false, not_false_eq_true, decide_true, decide_false, bIt0, bIf0, and_self, Int.reduceLE, Int.reduceLT, Int32.reduceAdd, Nat.reduceLeDiff, Nat.reduceLT, Nat.reduceAdd, Nat.reduceMul, Nat.reduceEqDiff, Nat.add_zero, Nat.zero_add, k1, k2, k3, e12]
  refine hQ _ (fun a ha => funext fun j => ?_)
  by_cases q : a = 12 + t
  · subst q
    by_cases q2 : j = 2
    · subst q2
      simp (disch := omega) only [xu_hit, xu_miss, ite_n, ite_p, if_true, if_false, and_true, true_and, and_false, false_and, and_self, Nat.reduceEqDiff]
      rw [Int32.add_sub_cancel, r2]
    · simp (disch := omega) only [xu_hit, xu_miss, ite_n, ite_p, if_true, if_false, and_true, true_and, and_false, false_and, and_self, Nat.reduceEqDiff]
      rw [e12]
      simp (disch := omega) only [xu_hit, xu_miss, ite_n, ite_p, if_true, if_false, and_true, true_and, and_false, false_and, and_self, Nat.reduceEqDiff]
  · simp (disch := omega) only [xu_hit, xu_miss, ite_n, ite_p, if_true, if_false, and_true, true_and, and_false, false_and, and_self, Nat.reduceEqDiff]
    rw [hf a ha]
    simp (disch := omega) only [xu_hit, xu_miss, ite_n, ite_p, if_true, if_false, and_true, true_and, and_false, false_and, and_self, Nat.reduceEqDiff]
end
