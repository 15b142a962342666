/-! THE RIVER AS THE MODEL HOLDS IT; THE CLASS'S RIVERS SHOW IT; WHAT HOLDS BETWEEN CALLS -/
def gl (G : Gv) : Nat := (G 458).toNatClampNeg
def gt (G : Gv) : Nat := (G 459).toNatClampNeg
def gc (G : Gv) : Nat := (G 460).toNatClampNeg
def ln (G : Gv) (t : Nat) : Nat := (G (136 + 161 * t)).toNatClampNeg
def OkL (G : Gv) : Prop := ∀ l, l < gl G → bw (G (8 * l)) 0 9 ∧ bw (G (8 * l + 1)) 0 9 ∧ (l = 0 ∨ (bw (G (8 * l)) 1 9 ∧ bw (G (8 * l + 1)) 1 9)) ∧ bw (G (8 * l + 2)) 0 5 ∧ bw (G (8 * l + 3)) 0 20 ∧ bw (G (8 * l + 4)) 0 5 ∧ bw (G (8 * l + 5)) 0 40 ∧ bw (G (8 * l + 6)) 0 90 ∧ ((G (8 * l + 7) = 1 ∧ bw (G (8 * l + 2)) 0 (gt G - 1) ∧ bw (G (8 * l + 4)) 0 (gt G - 1)) ∨ (G (8 * l + 7) = 0 ∧ G (8 * l + 3) = 0 ∧ G (8 * l + 5) = 0))
def OkT (G : Gv) : Prop := ∀ t, t < gt G → bw (G (48 + 3 * t)) 1 20 ∧ bw (G (48 + 3 * t + 1)) 0 50 ∧ bw (G (48 + 3 * t + 2)) 0 99
def OkTS (G : Gv) : Prop := ∀ t, t < gt G → bw (G (48 + 3 * t)) 1 20 ∧ bw (G (48 + 3 * t + 1)) 0 50 ∧ bw (G (48 + 3 * t + 2)) 0 100
def OkN (G : Gv) : Prop := bw (G 66) 1 500 ∧ bw (G 67) 1 6 ∧ bw (G 68) (-1) (gt G - 1) ∧ bw (G 69) 1 400 ∧ bw (G 70) 0 5 ∧ bw (G 71) (-1) (gl G - 1)
def OkC (G : Gv) : Prop := ∀ c, c < gc G → bw (G (72 + 8 * c)) 0 (gl G - 1) ∧ bw (G (72 + 8 * c + 1)) 0 (gt G - 1) ∧ bw (G (72 + 8 * c + 2)) 1 20 ∧ bw (G (72 + 8 * c + 3)) 0 (gt G - 1) ∧ bw (G (72 + 8 * c + 4)) 1 20 ∧ ¬ G (72 + 8 * c + 1) = G (72 + 8 * c + 3) ∧ bw (G (72 + 8 * c + 5)) 0 9 ∧ bw (G (72 + 8 * c + 6)) 0 30 ∧ bw (G (72 + 8 * c + 7)) 0 99
def Ok (G : Gv) : Prop := (G 458 = o (gl G) ∧ gl G ≤ 6) ∧ (G 459 = o (gt G) ∧ gt G ≤ 6) ∧ (G 460 = o (gc G) ∧ gc G ≤ 8) ∧ (∀ t, t < 2 → G (136 + 161 * t) = o (ln G t) ∧ ln G t ≤ 160) ∧ OkL G ∧ OkT G ∧ OkN G ∧ OkC G
def OkS (G : Gv) : Prop := (G 458 = o (gl G) ∧ gl G ≤ 6) ∧ (G 459 = o (gt G) ∧ gt G ≤ 6) ∧ (G 460 = o (gc G) ∧ gc G ≤ 8) ∧ (∀ t, t < 2 → G (136 + 161 * t) = o (ln G t) ∧ ln G t ≤ 160) ∧ OkL G ∧ OkTS G ∧ OkN G ∧ OkC G
theorem OkS_of {G : Gv} (h : Ok G) : OkS G := by
  obtain ⟨a1, a2, a3, a4, a5, a6, a7⟩ := h
  refine ⟨a1, a2, a3, a4, a5, fun t ht => ⟨(a6 t ht).1, (a6 t ht).2.1, ?_⟩, a7⟩
  have := (a6 t ht).2.2
  unfold bw at *
  omega
def RelC (R : Nat) (G : Gv) (I : Iv) : Prop :=
  I (R + 1) 2 = G 458 ∧ I (R + 9) 2 = G 459 ∧ I (R + 17) 2 = G 460 ∧
  (∀ l k, l < gl G → k < 7 → I (R + 3 + l) k = G (8 * l + k)) ∧
  (∀ t k, t < gt G → k < 3 → I (R + 11 + t) k = G (48 + 3 * t + k)) ∧
  (∀ k, k < 6 → I (R + 27) k = G (66 + k)) ∧
  (∀ c k, c < gc G → k < 8 → I (R + 19 + c) k = G (72 + 8 * c + k)) ∧
  (∀ t, t < 2 → I (R + 29 + 2 * t) 1 = G (136 + 161 * t) ∧ ∀ i, i < ln G t → I (R + 30 + 2 * t) i = G (137 + 161 * t + i))
def Wd (R : Nat) (I : Iv) : Prop := I (R + 1) 1 = o 7 ∧ I (R + 9) 1 = o 3 ∧ I (R + 17) 1 = o 8
def imG (I : Iv) (i : Nat) : Gv := fun k => I 159 (461 * i + k)
def Inv (I : Iv) (J : Jv) : Prop :=
  RelC 1 (I 158) I ∧ Ok (I 158) ∧ (J 156 0 = J 157 3 ∧ J 156 1 = J 157 4) ∧
  (∀ i, i < 2 → I 101 i = I 160 i ∧ (I 160 i = 0 ∨ (I 160 i = 1 ∧ RelC (35 + 33 * i) (imG I i) I ∧ Ok (imG I i)))) ∧
  Wd 1 I ∧ Wd 35 I ∧ Wd 68 I
theorem RelC_fr {R : Nat} {G : Gv} {I I' : Iv} (hG : Ok G) (h : ∀ a, R < a → a < R + 33 → I' a = I a) (hr : RelC R G I) : RelC R G I' := by
  obtain ⟨h1, h2, h3, h4, h5, h6, h7, h8⟩ := hr
  obtain ⟨⟨-, g1⟩, ⟨-, g2⟩, ⟨-, g3⟩, -⟩ := hG
  refine ⟨?_, ?_, ?_, fun l k hl hk => ?_, fun l k hl hk => ?_, fun k hk => ?_, fun l k hl hk => ?_, fun t ht => ⟨?_, fun i hi => ?_⟩⟩
  · rw [h _ (by omega) (by omega)]; exact h1
  · rw [h _ (by omega) (by omega)]; exact h2
  · rw [h _ (by omega) (by omega)]; exact h3
  · rw [h _ (by omega) (by omega)]; exact h4 l k hl hk
  · rw [h _ (by omega) (by omega)]; exact h5 l k hl hk
  · rw [h _ (by omega) (by omega)]; exact h6 k hk
  · rw [h _ (by omega) (by omega)]; exact h7 l k hl hk
  · rw [h _ (by omega) (by omega)]; exact (h8 t ht).1
  · rw [h _ (by omega) (by omega)]; exact (h8 t ht).2 i hi
theorem Wd_fr {R : Nat} {I I' : Iv} (h : ∀ a, R < a → a < R + 33 → I' a = I a) (hr : Wd R I) : Wd R I' := by
  unfold Wd at hr ⊢
  rw [h _ (by omega) (by omega), h _ (by omega) (by omega), h _ (by omega) (by omega)]
  exact hr
/-- what a call leaves, if it changes the river told alone -/
theorem inv_mut {I I' : Iv} {J J' : Jv} (h : Inv I J) (h1 : RelC 1 (I' 158) I') (h2 : Ok (I' 158)) (h3 : Wd 1 I') (hI : ∀ a, (34 ≤ a ∧ a ≤ 101) ∨ a = 159 ∨ a = 160 → I' a = I a) (hJ : J' 156 0 = J' 157 3 ∧ J' 156 1 = J' 157 4) : Inv I' J' := by
  obtain ⟨-, -, -, h4, -, h6, h7⟩ := h
  have e9 : imG I' = imG I := by funext i k; unfold imG; rw [hI 159 (by omega)]
  refine ⟨h1, h2, hJ, fun i hi => ?_, h3, Wd_fr (fun a _ _ => hI a (by omega)) h6, Wd_fr (fun a _ _ => hI a (by omega)) h7⟩
  rw [e9, hI 101 (by omega), hI 160 (by omega)]
  obtain ⟨g1, g2⟩ := h4 i hi
  refine ⟨g1, ?_⟩
  rcases g2 with g2 | ⟨g2, g3, g4⟩
  · exact Or.inl g2
  · exact Or.inr ⟨g2, RelC_fr g4 (fun a _ _ => hI a (by omega)) g3, g4⟩
theorem inv_fr {I I' : Iv} {J J' : Jv} (h : Inv I J) (hI : ∀ a, (1 ≤ a ∧ a ≤ 101) ∨ (158 ≤ a ∧ a ≤ 160) → I' a = I a) (hJ : J' 156 0 = J' 157 3 ∧ J' 156 1 = J' 157 4) : Inv I' J' := by
  have h0 := h
  obtain ⟨h1, h2, h3, h4, h5, h6, h7⟩ := h
  have e8 := hI 158 (by omega)
  refine inv_mut h0 ?_ ?_ (Wd_fr (fun a _ _ => hI a (by omega)) h5) (fun a ha => hI a (by omega)) hJ
  · rw [e8]
    exact RelC_fr h2 (fun a _ _ => hI a (by omega)) h1
  · rw [e8]
    exact h2
/-- the told river's cells, as a call reads them -/
def RF (G : Gv) (I : Iv) : Prop :=
  I 2 2 = o (gl G) ∧ I 10 2 = o (gt G) ∧ I 18 2 = o (gc G) ∧
  (∀ l k, l < gl G → k < 7 → I (4 + l) k = G (8 * l + k)) ∧
  (∀ t k, t < gt G → k < 3 → I (12 + t) k = G (48 + 3 * t + k)) ∧
  (∀ k, k < 6 → I 28 k = G (66 + k)) ∧
  (∀ c k, c < gc G → k < 8 → I (20 + c) k = G (72 + 8 * c + k)) ∧
  (∀ t, t < 2 → I (30 + 2 * t) 1 = o (ln G t) ∧ ∀ i, i < ln G t → I (31 + 2 * t) i = G (137 + 161 * t + i))
theorem RF_of {G : Gv} {I : Iv} (hG : Ok G) (hr : RelC 1 G I) : RF G I := by
  obtain ⟨h1, h2, h3, h4, h5, h6, h7, h8⟩ := hr
  obtain ⟨⟨e1, g1⟩, ⟨e2, g2⟩, ⟨e3, g3⟩, e4, -⟩ := hG
  refine ⟨h1.trans e1, h2.trans e2, h3.trans e3, h4, h5, h6, h7, fun t ht => ⟨((h8 t ht).1).trans (e4 t ht).1, (h8 t ht).2⟩⟩
/-! links of rows by their number -/
theorem TB_2 : TB 2 7 6 := by
  refine ⟨KD_2, P0_2_0, KD_3, LN_3, fun k hk => ?_⟩
  match k, hk with
  | 0, _ => exact ⟨P0_3_0, KD_4, LN_4⟩
  | 1, _ => exact ⟨P0_3_1, KD_5, LN_5⟩
  | 2, _ => exact ⟨P0_3_2, KD_6, LN_6⟩
  | 3, _ => exact ⟨P0_3_3, KD_7, LN_7⟩
  | 4, _ => exact ⟨P0_3_4, KD_8, LN_8⟩
  | 5, _ => exact ⟨P0_3_5, KD_9, LN_9⟩
  | k + 6, h => exact absurd h (by omega)
theorem TB_10 : TB 10 3 6 := by
  refine ⟨KD_10, P0_10_0, KD_11, LN_11, fun k hk => ?_⟩
  match k, hk with
  | 0, _ => exact ⟨P0_11_0, KD_12, LN_12⟩
  | 1, _ => exact ⟨P0_11_1, KD_13, LN_13⟩
  | 2, _ => exact ⟨P0_11_2, KD_14, LN_14⟩
  | 3, _ => exact ⟨P0_11_3, KD_15, LN_15⟩
  | 4, _ => exact ⟨P0_11_4, KD_16, LN_16⟩
  | 5, _ => exact ⟨P0_11_5, KD_17, LN_17⟩
  | k + 6, h => exact absurd h (by omega)
theorem TB_18 : TB 18 8 8 := by
  refine ⟨KD_18, P0_18_0, KD_19, LN_19, fun k hk => ?_⟩
  match k, hk with
  | 0, _ => exact ⟨P0_19_0, KD_20, LN_20⟩
  | 1, _ => exact ⟨P0_19_1, KD_21, LN_21⟩
  | 2, _ => exact ⟨P0_19_2, KD_22, LN_22⟩
  | 3, _ => exact ⟨P0_19_3, KD_23, LN_23⟩
  | 4, _ => exact ⟨P0_19_4, KD_24, LN_24⟩
  | 5, _ => exact ⟨P0_19_5, KD_25, LN_25⟩
  | 6, _ => exact ⟨P0_19_6, KD_26, LN_26⟩
  | 7, _ => exact ⟨P0_19_7, KD_27, LN_27⟩
  | k + 8, h => exact absurd h (by omega)
theorem TB_36 : TB 36 7 6 := by
  refine ⟨KD_36, P0_36_0, KD_37, LN_37, fun k hk => ?_⟩
  match k, hk with
  | 0, _ => exact ⟨P0_37_0, KD_38, LN_38⟩
  | 1, _ => exact ⟨P0_37_1, KD_39, LN_39⟩
  | 2, _ => exact ⟨P0_37_2, KD_40, LN_40⟩
  | 3, _ => exact ⟨P0_37_3, KD_41, LN_41⟩
  | 4, _ => exact ⟨P0_37_4, KD_42, LN_42⟩
  | 5, _ => exact ⟨P0_37_5, KD_43, LN_43⟩
  | k + 6, h => exact absurd h (by omega)
theorem TB_44 : TB 44 3 6 := by
  refine ⟨KD_44, P0_44_0, KD_45, LN_45, fun k hk => ?_⟩
  match k, hk with
  | 0, _ => exact ⟨P0_45_0, KD_46, LN_46⟩
  | 1, _ => exact ⟨P0_45_1, KD_47, LN_47⟩
  | 2, _ => exact ⟨P0_45_2, KD_48, LN_48⟩
  | 3, _ => exact ⟨P0_45_3, KD_49, LN_49⟩
  | 4, _ => exact ⟨P0_45_4, KD_50, LN_50⟩
  | 5, _ => exact ⟨P0_45_5, KD_51, LN_51⟩
  | k + 6, h => exact absurd h (by omega)
theorem TB_52 : TB 52 8 8 := by
  refine ⟨KD_52, P0_52_0, KD_53, LN_53, fun k hk => ?_⟩
  match k, hk with
  | 0, _ => exact ⟨P0_53_0, KD_54, LN_54⟩
  | 1, _ => exact ⟨P0_53_1, KD_55, LN_55⟩
  | 2, _ => exact ⟨P0_53_2, KD_56, LN_56⟩
  | 3, _ => exact ⟨P0_53_3, KD_57, LN_57⟩
  | 4, _ => exact ⟨P0_53_4, KD_58, LN_58⟩
  | 5, _ => exact ⟨P0_53_5, KD_59, LN_59⟩
  | 6, _ => exact ⟨P0_53_6, KD_60, LN_60⟩
  | 7, _ => exact ⟨P0_53_7, KD_61, LN_61⟩
  | k + 8, h => exact absurd h (by omega)
theorem TB_69 : TB 69 7 6 := by
  refine ⟨KD_69, P0_69_0, KD_70, LN_70, fun k hk => ?_⟩
  match k, hk with
  | 0, _ => exact ⟨P0_70_0, KD_71, LN_71⟩
  | 1, _ => exact ⟨P0_70_1, KD_72, LN_72⟩
  | 2, _ => exact ⟨P0_70_2, KD_73, LN_73⟩
  | 3, _ => exact ⟨P0_70_3, KD_74, LN_74⟩
  | 4, _ => exact ⟨P0_70_4, KD_75, LN_75⟩
  | 5, _ => exact ⟨P0_70_5, KD_76, LN_76⟩
  | k + 6, h => exact absurd h (by omega)
theorem TB_77 : TB 77 3 6 := by
  refine ⟨KD_77, P0_77_0, KD_78, LN_78, fun k hk => ?_⟩
  match k, hk with
  | 0, _ => exact ⟨P0_78_0, KD_79, LN_79⟩
  | 1, _ => exact ⟨P0_78_1, KD_80, LN_80⟩
  | 2, _ => exact ⟨P0_78_2, KD_81, LN_81⟩
  | 3, _ => exact ⟨P0_78_3, KD_82, LN_82⟩
  | 4, _ => exact ⟨P0_78_4, KD_83, LN_83⟩
  | 5, _ => exact ⟨P0_78_5, KD_84, LN_84⟩
  | k + 6, h => exact absurd h (by omega)
theorem TB_85 : TB 85 8 8 := by
  refine ⟨KD_85, P0_85_0, KD_86, LN_86, fun k hk => ?_⟩
  match k, hk with
  | 0, _ => exact ⟨P0_86_0, KD_87, LN_87⟩
  | 1, _ => exact ⟨P0_86_1, KD_88, LN_88⟩
  | 2, _ => exact ⟨P0_86_2, KD_89, LN_89⟩
  | 3, _ => exact ⟨P0_86_3, KD_90, LN_90⟩
  | 4, _ => exact ⟨P0_86_4, KD_91, LN_91⟩
  | 5, _ => exact ⟨P0_86_5, KD_92, LN_92⟩
  | 6, _ => exact ⟨P0_86_6, KD_93, LN_93⟩
  | 7, _ => exact ⟨P0_86_7, KD_94, LN_94⟩
  | k + 8, h => exact absurd h (by omega)
theorem LK_L {l : Nat} (h : l < 6) : P0 3 l = some (4 + l) ∧ KD (4 + l) = 10 ∧ LN (4 + l) = 7 := TB_2.2.2.2.2 l h
theorem LK_T {l : Nat} (h : l < 6) : P0 11 l = some (12 + l) ∧ KD (12 + l) = 10 ∧ LN (12 + l) = 3 := TB_10.2.2.2.2 l h
theorem LK_C {l : Nat} (h : l < 8) : P0 19 l = some (20 + l) ∧ KD (20 + l) = 10 ∧ LN (20 + l) = 8 := TB_18.2.2.2.2 l h
theorem LK_X {l : Nat} (h : l < 2) : P0 29 l = some (30 + 2 * l) ∧ KD (30 + 2 * l) = 6 ∧ P0 (30 + 2 * l) 0 = some (31 + 2 * l) ∧ KD (31 + 2 * l) = 10 ∧ LN (31 + 2 * l) = 160 := by
  match l, h with
  | 0, _ => exact ⟨P0_29_0, KD_30, P0_30_0, KD_31, LN_31⟩
  | 1, _ => exact ⟨P0_29_1, KD_32, P0_32_0, KD_33, LN_33⟩
  | k + 2, h => exact absurd h (by omega)
