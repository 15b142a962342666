/-! VOYAGES THAT SHOW THE SAME -/
def Eqv (S S' : Sv) : Prop := (∀ k, 6 ≤ k → k ≤ 9 → S 0 k = S' 0 k) ∧ (∀ k, k < 6 → S 1 k = S' 1 k) ∧ (∀ k, k < 6 → S 2 k = S' 2 k) ∧ (∀ a k, 3 ≤ a → a ≤ 5 → k < 8 → S a k = S' a k)
theorem eqv_rfl {S : Sv} : Eqv S S := ⟨fun _ _ _ => rfl, fun _ _ => rfl, fun _ _ => rfl, fun _ _ _ _ _ => rfl⟩
theorem eqv_trans {S S' S2 : Sv} (h : Eqv S S') (h2 : Eqv S' S2) : Eqv S S2 := ⟨fun k a b => (h.1 k a b).trans (h2.1 k a b), fun k a => (h.2.1 k a).trans (h2.2.1 k a), fun k a => (h.2.2.1 k a).trans (h2.2.2.1 k a), fun a k x y z => (h.2.2.2 a k x y z).trans (h2.2.2.2 a k x y z)⟩
theorem eqv_symm {S S' : Sv} (h : Eqv S S') : Eqv S' S := ⟨fun k a b => (h.1 k a b).symm, fun k a => (h.2.1 k a).symm, fun k a => (h.2.2.1 k a).symm, fun a k x y z => (h.2.2.2 a k x y z).symm⟩
theorem eqv_xu {S S' : Sv} {a k : Nat} {x : Int32} (h : Eqv S S') : Eqv (xuI S a k x) (xuI S' a k x) := by
  obtain ⟨h1, h2, h3, h4⟩ := h
  have key : ∀ b j, S b j = S' b j → xuI S a k x b j = xuI S' a k x b j := by
    intro b j e
    simp only [xuI_ap, e]
  exact ⟨fun k a b => key _ _ (h1 k a b), fun k a => key _ _ (h2 k a), fun k a => key _ _ (h3 k a), fun a k x y z => key _ _ (h4 a k x y z)⟩
theorem eqv_wt {G : Gv} {S S' : Sv} (h : Eqv S S') (hg : gt G ≤ 6) : wtF G S (gt G) = wtF G S' (gt G) := wtF_cg _ (fun k hk => h.2.1 k (by omega))
theorem eqv_spoil {G : Gv} {S S' : Sv} (h : Eqv S S') (hg : gt G ≤ 6) : Eqv (spoilF G S) (spoilF G S') := by
  obtain ⟨h1, h2, h3, h4⟩ := h
  refine ⟨fun k a b => ?_, fun k a => ?_, fun k a => ?_, fun a k x y z => ?_⟩
  · rw [spoil_keep (by omega), spoil_keep (by omega)]; exact h1 k a b
  · unfold spoilF
    rw [h2 k a]
  · rw [spoil_keep (by omega), spoil_keep (by omega)]; exact h3 k a
  · rw [spoil_keep (by omega), spoil_keep (by omega)]; exact h4 a k x y z
theorem fd_6 {G : Gv} (hG : OkS G) : (G 68).toNatClampNeg < 6 := by
  obtain ⟨⟨e1, g1⟩, ⟨e2, g2⟩, ⟨e3, g3⟩, e4, oL, oT, oN, oC⟩ := hG
  have := oN.2.2.1.2
  rw [cl_ti]
  omega
theorem eqv_eat {G : Gv} {S S' : Sv} (h : Eqv S S') (hG : OkS G) : Eqv (eatF G S) (eatF G S') := by
  unfold eatF
  rw [h.2.1 _ (fd_6 hG)]
  split
  · exact h
  · split
    · exact eqv_xu h
    · exact eqv_xu h
theorem eqv_come {G : Gv} {S S' : Sv} (h : Eqv S S') (hg : gc G ≤ 8) : Eqv (comeF G S) (comeF G S') := by
  obtain ⟨h1, h2, h3, h4⟩ := h
  refine ⟨fun k a b => ?_, fun k a => ?_, fun k a => ?_, fun a k x y z => ?_⟩
  · rw [come_keep (by omega), come_keep (by omega)]; exact h1 k a b
  · rw [come_keep (by omega), come_keep (by omega)]; exact h2 k a
  · rw [come_keep (by omega), come_keep (by omega)]; exact h3 k a
  · by_cases e : a = 3
    · subst e
      unfold comeF cbk
      rw [h4 3 k (by omega) (by omega) z, h1 7 (by omega) (by omega)]
    · rw [come_keep e, come_keep e]; exact h4 a k x y z
theorem eqv_pass1 {G : Gv} {S S' : Sv} (h : Eqv S S') (hG : OkS G) : Eqv (pass1F G S) (pass1F G S') := by
  have h2 : Eqv (eatF G (spoilF G (xuI S 0 7 (S 0 7 + 1)))) (eatF G (spoilF G (xuI S' 0 7 (S' 0 7 + 1)))) := by
    rw [h.1 7 (by omega) (by omega)]
    exact eqv_eat (eqv_spoil (eqv_xu h) hG.2.1.2) hG
  unfold pass1F
  generalize eatF G (spoilF G (xuI S 0 7 (S 0 7 + 1))) = A at h2 ⊢
  generalize eatF G (spoilF G (xuI S' 0 7 (S' 0 7 + 1))) = B at h2 ⊢
  try simp only []
  have h3 : Eqv (if A 0 8 = 0 ∧ (G 69).toInt < (A 0 7).toInt then xuI A 0 8 2 else A) (if B 0 8 = 0 ∧ (G 69).toInt < (B 0 7).toInt then xuI B 0 8 2 else B) := by
    rw [h2.1 8 (by omega) (by omega), h2.1 7 (by omega) (by omega)]
    split
    · exact eqv_xu h2
    · exact h2
  generalize (if A 0 8 = 0 ∧ (G 69).toInt < (A 0 7).toInt then xuI A 0 8 2 else A) = C at h3 ⊢
  generalize (if B 0 8 = 0 ∧ (G 69).toInt < (B 0 7).toInt then xuI B 0 8 2 else B) = D at h3 ⊢
  rw [h3.1 8 (by omega) (by omega)]
  split
  · exact eqv_come h3 hG.2.2.1.2
  · exact h3
theorem eqv_pass {G : Gv} (hG : OkS G) : ∀ (n : Nat) (S S' : Sv), Eqv S S' → Eqv (passF G n S) (passF G n S')
  | 0, S, S', h => h
  | n + 1, S, S', h => by
    unfold passF
    rw [h.1 8 (by omega) (by omega)]
    split
    · exact eqv_pass hG n _ _ (eqv_pass1 h hG)
    · exact h
theorem arr_ix {G : Gv} {l : Nat} (hl : l < gl G) (hG : OkS G) : (G (8 * l + 2)).toNatClampNeg < 6 ∧ (G (8 * l + 4)).toNatClampNeg < 6 := by
  obtain ⟨⟨e1, g1⟩, ⟨e2, g2⟩, ⟨e3, g3⟩, e4, oL, oT, oN, oC⟩ := hG
  obtain ⟨a1, a2, a3, a4, a5, a6, a7, a8, a9⟩ := oL l hl
  have h1 := a4.2
  have h2 := a6.2
  rw [cl_ti, cl_ti]
  omega
theorem eqv_arr {G : Gv} {l : Nat} {S S' : Sv} (h : Eqv S S') (hl : l < gl G) (hG : OkS G) : Eqv (arrF G l S) (arrF G l S') := by
  obtain ⟨x6, y6⟩ := arr_ix hl hG
  have l6 : l < 6 := by have := hG.1.2; omega
  by_cases h0 : S 0 8 = 0
  · have h0' : S' 0 8 = 0 := by rw [← h.1 8 (by omega) (by omega)]; exact h0
    rw [arrF_T h0, arrF_T h0']
    have h1 : Eqv (if S 2 l = -1 then xuI S 0 6 (o l) else if (S 2 l + G (8 * l + 6)).toInt ≤ (S 0 7).toInt then xuI (xuI S 0 6 (o l)) 1 (G (8 * l + 4)).toNatClampNeg (S 1 (G (8 * l + 4)).toNatClampNeg + G (8 * l + 5)) else xuI S 0 6 (o l)) (if S' 2 l = -1 then xuI S' 0 6 (o l) else if (S' 2 l + G (8 * l + 6)).toInt ≤ (S' 0 7).toInt then xuI (xuI S' 0 6 (o l)) 1 (G (8 * l + 4)).toNatClampNeg (S' 1 (G (8 * l + 4)).toNatClampNeg + G (8 * l + 5)) else xuI S' 0 6 (o l)) := by
      rw [h.2.2.1 l l6, h.1 7 (by omega) (by omega), h.2.1 _ y6]
      split
      · exact eqv_xu h
      · split
        · exact eqv_xu (eqv_xu h)
        · exact eqv_xu h
    generalize (if S 2 l = -1 then xuI S 0 6 (o l) else if (S 2 l + G (8 * l + 6)).toInt ≤ (S 0 7).toInt then xuI (xuI S 0 6 (o l)) 1 (G (8 * l + 4)).toNatClampNeg (S 1 (G (8 * l + 4)).toNatClampNeg + G (8 * l + 5)) else xuI S 0 6 (o l)) = A at h1 ⊢
    generalize (if S' 2 l = -1 then xuI S' 0 6 (o l) else if (S' 2 l + G (8 * l + 6)).toInt ≤ (S' 0 7).toInt then xuI (xuI S' 0 6 (o l)) 1 (G (8 * l + 4)).toNatClampNeg (S' 1 (G (8 * l + 4)).toNatClampNeg + G (8 * l + 5)) else xuI S' 0 6 (o l)) = B at h1 ⊢
    have e2 : Eqv (xuI (xuI A 1 (G (8 * l + 2)).toNatClampNeg (A 1 (G (8 * l + 2)).toNatClampNeg - G (8 * l + 3))) 2 l (A 0 7)) (xuI (xuI B 1 (G (8 * l + 2)).toNatClampNeg (B 1 (G (8 * l + 2)).toNatClampNeg - G (8 * l + 3))) 2 l (B 0 7)) := by
      rw [h1.2.1 _ x6, h1.1 7 (by omega) (by omega)]
      exact eqv_xu (eqv_xu h1)
    unfold arrT
    rw [eqv_wt e2 hG.2.1.2, h1.2.1 _ x6]
    split
    · exact eqv_xu h1
    · rw [h1.2.1 _ x6] at e2
      split
      · exact eqv_xu e2
      · exact e2
  · have h0' : ¬ S' 0 8 = 0 := by rw [← h.1 8 (by omega) (by omega)]; exact h0
    unfold arrF
    rw [if_neg h0, if_neg h0']
    exact h
theorem eqv_goUp {G : Gv} {S S' : Sv} (h : Eqv S S') (hG : OkS G) : Eqv (goUpF G S) (goUpF G S') := by
  unfold goUpF
  rw [h.1 6 (by omega) (by omega)]
  split
  · next z => exact eqv_arr (eqv_pass hG _ _ _ h) z hG
  · exact eqv_xu h
theorem eqv_goDown {G : Gv} {S S' : Sv} (h : Eqv S S') (hG : OkS G) : Eqv (goDownF G S) (goDownF G S') := by
  unfold goDownF
  rw [h.1 6 (by omega) (by omega)]
  split
  · next z => exact eqv_arr (eqv_pass hG _ _ _ h) (by omega) hG
  · exact eqv_xu h
theorem ch_ix {G : Gv} {k : Nat} (hk : k < gc G) (hG : OkS G) : (G (72 + 8 * k + 1)).toNatClampNeg < gt G ∧ (G (72 + 8 * k + 3)).toNatClampNeg < gt G ∧ gt G ≤ 6 ∧ k < 8 ∧ ¬ (G (72 + 8 * k + 1)).toNatClampNeg = (G (72 + 8 * k + 3)).toNatClampNeg := by
  obtain ⟨⟨e1, g1⟩, ⟨e2, g2⟩, ⟨e3, g3⟩, e4, oL, oT, oN, oC⟩ := hG
  obtain ⟨a1, a2, a3, a4, a5, a6, a7⟩ := oC k hk
  obtain ⟨x, hx, hx1, hx2, hx3⟩ := of_bw a2 (by omega)
  obtain ⟨y, hy, hy1, hy2, hy3⟩ := of_bw a4 (by omega)
  rw [hx, hy] at a6
  rw [hx, hy, o_cl hx3, o_cl hy3]
  refine ⟨by omega, by omega, g2, by omega, fun e => a6 (by rw [e])⟩
theorem eqv_can {G : Gv} {k : Nat} {S S' : Sv} (h : Eqv S S') (hG : OkS G) : canF G k S = canF G k S' := by
  by_cases hk : k < gc G
  · obtain ⟨x6, y6, g6, k8, -⟩ := ch_ix hk hG
    unfold canF
    rw [h.1 6 (by omega) (by omega), h.2.2.2 5 k (by omega) (by omega) k8, h.2.2.2 3 k (by omega) (by omega) k8, h.2.1 _ (by omega)]
  · have e : ∀ S, canF G k S = false := by
      intro S
      rw [← Bool.not_eq_true, can_iff]
      exact fun q => hk q.1
    rw [e, e]
theorem eqv_do {G : Gv} {k : Nat} {S S' : Sv} (hk : k < gc G) (h : Eqv S S') (hG : OkS G) : Eqv (doF G k S) (doF G k S') := by
  obtain ⟨x6, y6, g6, k8, -⟩ := ch_ix hk hG
  have a1 : Eqv (xuI S 1 (G (72 + 8 * k + 1)).toNatClampNeg (S 1 (G (72 + 8 * k + 1)).toNatClampNeg - (G (72 + 8 * k + 2) + S 3 k))) (xuI S' 1 (G (72 + 8 * k + 1)).toNatClampNeg (S' 1 (G (72 + 8 * k + 1)).toNatClampNeg - (G (72 + 8 * k + 2) + S' 3 k))) := by
    rw [h.2.1 _ (by omega), h.2.2.2 3 k (by omega) (by omega) k8]
    exact eqv_xu h
  unfold doF
  try simp only []
  generalize (xuI S 1 (G (72 + 8 * k + 1)).toNatClampNeg (S 1 (G (72 + 8 * k + 1)).toNatClampNeg - (G (72 + 8 * k + 2) + S 3 k))) = A at a1 ⊢
  generalize (xuI S' 1 (G (72 + 8 * k + 1)).toNatClampNeg (S' 1 (G (72 + 8 * k + 1)).toNatClampNeg - (G (72 + 8 * k + 2) + S' 3 k))) = B at a1 ⊢
  try simp only []
  have a2 : Eqv (xuI A 1 (G (72 + 8 * k + 3)).toNatClampNeg (A 1 (G (72 + 8 * k + 3)).toNatClampNeg + G (72 + 8 * k + 4))) (xuI B 1 (G (72 + 8 * k + 3)).toNatClampNeg (B 1 (G (72 + 8 * k + 3)).toNatClampNeg + G (72 + 8 * k + 4))) := by
    rw [a1.2.1 _ (by omega)]
    exact eqv_xu a1
  generalize (xuI A 1 (G (72 + 8 * k + 3)).toNatClampNeg (A 1 (G (72 + 8 * k + 3)).toNatClampNeg + G (72 + 8 * k + 4))) = C at a2 ⊢
  generalize (xuI B 1 (G (72 + 8 * k + 3)).toNatClampNeg (B 1 (G (72 + 8 * k + 3)).toNatClampNeg + G (72 + 8 * k + 4))) = D at a2 ⊢
  have a3 : Eqv (xuI C 5 k (C 5 k + 1)) (xuI D 5 k (D 5 k + 1)) := by
    rw [a2.2.2.2 5 k (by omega) (by omega) k8]
    exact eqv_xu a2
  generalize (xuI C 5 k (C 5 k + 1)) = A3 at a3 ⊢
  generalize (xuI D 5 k (D 5 k + 1)) = B3 at a3 ⊢
  split
  · exact a3
  · have a4 : Eqv (xuI A3 4 k (A3 4 k + 1)) (xuI B3 4 k (B3 4 k + 1)) := by
      rw [a3.2.2.2 4 k (by omega) (by omega) k8]
      exact eqv_xu a3
    generalize (xuI A3 4 k (A3 4 k + 1)) = A4 at a4 ⊢
    generalize (xuI B3 4 k (B3 4 k + 1)) = B4 at a4 ⊢
    rw [a4.2.2.2 4 k (by omega) (by omega) k8]
    split
    · have a5 : Eqv (xuI A4 4 k 0) (xuI B4 4 k 0) := eqv_xu a4
      generalize xuI A4 4 k 0 = A5 at a5 ⊢
      generalize xuI B4 4 k 0 = B5 at a5 ⊢
      rw [a5.2.2.2 3 k (by omega) (by omega) k8]
      exact eqv_xu a5
    · exact a4
theorem eqv_more {G : Gv} {k : Nat} {S S' : Sv} (hk : k < gc G) (h : Eqv S S') (hG : OkS G) : moreF G k S = moreF G k S' := by
  obtain ⟨x6, y6, g6, k8, -⟩ := ch_ix hk hG
  unfold moreF
  rw [h.2.2.2 3 k (by omega) (by omega) k8]
theorem eqv_daL {G : Gv} {k : Nat} (hG : OkS G) : ∀ (n : Nat) (f : Int32) (b : Bool) (S S' : Sv), Eqv S S' → (daL G k n f b S).1 = (daL G k n f b S').1 ∧ Eqv (daL G k n f b S).2 (daL G k n f b S').2
  | 0, f, b, S, S', h => ⟨rfl, h⟩
  | n + 1, f, b, S, S', h => by
    unfold daL
    rw [eqv_can h hG]
    by_cases hc : canF G k S' = true
    · have hk : k < gc G := by rw [can_iff] at hc; exact hc.1
      rw [if_pos hc, if_pos hc, eqv_more hk h hG]
      split
      · exact eqv_daL hG n _ _ _ _ (eqv_do hk h hG)
      · exact ⟨rfl, h⟩
    · rw [if_neg hc, if_neg hc]
      exact ⟨rfl, h⟩
theorem eqv_da {G : Gv} {k : Nat} {S S' : Sv} (h : Eqv S S') (hG : OkS G) : (daF G k S).1 = (daF G k S').1 ∧ Eqv (daF G k S).2 (daF G k S').2 := by
  unfold daF
  rw [eqv_wt h hG.2.1.2]
  exact eqv_daL hG 99 _ _ _ _ h
/-- one act: whether it goes right, and the voyage behind it -/
def actF (G : Gv) (a : Nat) (S : Sv) : Bool × Sv := if a = 0 then (decide (goUpF G S 0 8 = 0), goUpF G S) else if a = 1 then (decide (goDownF G S 0 8 = 0), goDownF G S) else if a = 2 then (decide (passF G 1 S 0 8 = 0), passF G 1 S) else daF G (a - 3) S
theorem eqv_act {G : Gv} {a : Nat} {S S' : Sv} (h : Eqv S S') (hG : OkS G) : (actF G a S).1 = (actF G a S').1 ∧ Eqv (actF G a S).2 (actF G a S').2 := by
  unfold actF
  split
  · have := eqv_goUp h hG
    exact ⟨by show decide _ = decide _; rw [this.1 8 (by omega) (by omega)], this⟩
  · split
    · have := eqv_goDown h hG
      exact ⟨by show decide _ = decide _; rw [this.1 8 (by omega) (by omega)], this⟩
    · split
      · have := eqv_pass hG 1 _ _ h
        exact ⟨by show decide _ = decide _; rw [this.1 8 (by omega) (by omega)], this⟩
      · exact eqv_da h hG
