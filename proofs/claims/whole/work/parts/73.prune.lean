/-! THE BEST ROW IS LEFT OUT BY NO RULE -/
theorem act_land {G : Gv} {a p : Nat} {S : Sv} (hp : S 0 6 = o p) (hpg : p < gl G) (hG : OkS G) (h0 : S 0 8 = 0) (h : (actF G a S).1 = true) : (actF G a S).2 0 6 = if a = 0 then o (p + 1) else if a = 1 then o (p - 1) else o p := by
  have g1 := hG.1.2
  have h8 := act_08 h0 h
  unfold actF at h8 ⊢
  by_cases a0 : a = 0
  · rw [if_pos a0] at h8 ⊢
    rw [if_pos a0]
    show goUpF G S 0 6 = _
    have h8' : goUpF G S 0 8 = 0 := h8
    unfold goUpF at h8' ⊢
    rw [hp, o_cl (by omega)] at h8' ⊢
    split
    · next z =>
      rw [if_pos z] at h8'
      rw [arr_06]
      by_cases w : passF G (upD G (p + 1)) S 0 8 = 0
      · rw [if_pos w]
      · exfalso
        unfold arrF at h8'
        rw [if_neg w] at h8'
        exact w h8'
    · next z =>
      rw [if_neg z, xu_self] at h8'
      exact absurd h8' (by decide)
  · rw [if_neg a0] at h8 ⊢
    rw [if_neg a0]
    by_cases a1 : a = 1
    · rw [if_pos a1] at h8 ⊢
      rw [if_pos a1]
      show goDownF G S 0 6 = _
      have h8' : goDownF G S 0 8 = 0 := h8
      unfold goDownF at h8' ⊢
      rw [hp, o_cl (by omega)] at h8' ⊢
      split
      · next z =>
        rw [if_pos z] at h8'
        rw [arr_06]
        by_cases w : passF G (G (8 * p + 1)).toNatClampNeg S 0 8 = 0
        · rw [if_pos w]
        · exfalso
          unfold arrF at h8'
          rw [if_neg w] at h8'
          exact w h8'
      · next z =>
        rw [if_neg z, xu_self] at h8'
        exact absurd h8' (by decide)
    · rw [if_neg a1] at h8 ⊢
      rw [if_neg a1]
      split
      · show passF G 1 S 0 6 = _
        rw [pass_keep (by omega) (by omega) (by omega) (by omega)]
        exact hp
      · unfold daF
        rw [da_keep (by omega) (by omega) (by omega) (by omega)]
        exact hp
theorem act_down {G : Gv} {p : Nat} {S : Sv} (hp : S 0 6 = o p) (hpg : p < gl G) (hG : OkS G) (h : (actF G 1 S).1 = true) : 0 < p := by
  have g1 := hG.1.2
  have h8' : goDownF G S 0 8 = 0 := by
    unfold actF at h
    rw [if_neg (by omega), if_pos rfl] at h
    exact of_decide_eq_true h
  unfold goDownF at h8'
  rw [hp, o_cl (by omega)] at h8'
  by_cases z : 1 ≤ p ∧ p < gl G
  · omega
  · rw [if_neg z, xu_self] at h8'
    exact absurd h8' (by decide)
theorem act_can {G : Gv} {a : Nat} {S : Sv} (ha : 3 ≤ a) (h : (actF G a S).1 = true) : canF G (a - 3) S = true := by
  unfold actF at h
  rw [if_neg (by omega), if_neg (by omega), if_neg (by omega)] at h
  unfold daF daL at h
  by_cases hc : canF G (a - 3) S = true
  · exact hc
  · rw [if_neg hc] at h
    cases h
theorem pass1_home {G : Gv} {b h : Nat} {S : Sv} (hB : Bs b S) (hb : b < 1000000) (hh : h < 6) (hG : OkS G) : (pass1F G S 1 h).toInt ≤ (S 1 h).toInt := by
  obtain ⟨⟨e1, g1⟩, ⟨e2, g2⟩, ⟨e3, g3⟩, e4, oL, oT, oN, oC⟩ := id hG
  have hB1 := bs_day hB (by omega : b < 4000000)
  have hB2 := bs_spoil hB1 (by omega) hG
  have s1 : (spoilF G (xuI S 0 7 (S 0 7 + 1)) 1 h).toInt ≤ (S 1 h).toInt := by
    unfold spoilF
    by_cases hg : h < gt G
    · rw [if_pos ⟨rfl, hg⟩, xu_06 (by omega)]
      exact (spoil_rng (hB.1 h hh) (oT h hg).2.1 (by omega)).2
    · rw [if_neg (fun q => hg q.2), xu_06 (by omega)]
      omega
  have s2 : (eatF G (spoilF G (xuI S 0 7 (S 0 7 + 1))) 1 h).toInt ≤ (S 1 h).toInt := by
    generalize spoilF G (xuI S 0 7 (S 0 7 + 1)) = A at s1 hB2 ⊢
    unfold eatF
    split
    · exact s1
    · split
      · rw [xu_06 (by omega)]; exact s1
      · next z =>
        by_cases e : h = (G 68).toNatClampNeg
        · rw [← e, xu_self]
          rw [← e] at z
          have h1 := oN.2.1.1
          have h2 := hB2.1 h hh
          have h3 := ti_rng (A 1 h)
          rw [ti_sub (by omega)]
          omega
        · rw [xu_06 (by omega)]; exact s1
  unfold pass1F
  generalize eatF G (spoilF G (xuI S 0 7 (S 0 7 + 1))) = A at s2 ⊢
  try simp only []
  have s3 : ((if A 0 8 = 0 ∧ (G 69).toInt < (A 0 7).toInt then xuI A 0 8 2 else A) 1 h).toInt ≤ (S 1 h).toInt := by
    split
    · rw [xu_06 (by omega)]; exact s2
    · exact s2
  generalize (if A 0 8 = 0 ∧ (G 69).toInt < (A 0 7).toInt then xuI A 0 8 2 else A) = B at s3 ⊢
  split
  · rw [come_keep (by omega)]; exact s3
  · exact s3
theorem do_home {G : Gv} {k b h : Nat} {S : Sv} (hc : canF G k S = true) (hB : Bs b S) (hb : b < 1000000) (hh : h < 6) (hG : OkS G) (hy : ¬ (G (72 + 8 * k + 3)).toNatClampNeg = h) : (doF G k S 1 h).toInt ≤ (S 1 h).toInt := by
  rw [can_iff] at hc
  obtain ⟨c1, c2, c3, c4⟩ := hc
  obtain ⟨x6, y6, g6, k8, hxy⟩ := ch_ix c1 hG
  have a3 := (hG.2.2.2.2.2.2.2 k c1).2.2.1
  unfold bw at a3
  have hm := hB.2.1 k k8
  rw [do_loads, xu_06 (by omega)]
  by_cases e : h = (G (72 + 8 * k + 1)).toNatClampNeg
  · rw [← e] at c4 ⊢
    rw [xu_self]
    have eA : (G (72 + 8 * k + 2) + S 3 k).toInt = (G (72 + 8 * k + 2)).toInt + (S 3 k).toInt := ti_add (by omega)
    have h3 := ti_rng (S 1 h)
    rw [ti_sub (by omega)]
    omega
  · rw [xu_06 (by omega)]
    omega
theorem da_home {G : Gv} {k h : Nat} (hh : h < 6) (hG : OkS G) (hy : ¬ (G (72 + 8 * k + 3)).toNatClampNeg = h) : ∀ (n b : Nat) (f : Int32) (x : Bool) (S : Sv), Bs b S → b + 20 * n < 1000000 → ((daL G k n f x S).2 1 h).toInt ≤ (S 1 h).toInt
  | 0, b, f, x, S, _, _ => by show (S 1 h).toInt ≤ (S 1 h).toInt; omega
  | n + 1, b, f, x, S, hB, hb => by
    unfold daL
    split
    · next hc =>
      split
      · have h1 := do_home hc hB (by omega) hh hG hy
        have h2 := da_home hh hG hy n (b + 20) (f - moreF G k S) true _ (bs_do hc hB (by omega) hG) (by omega)
        omega
      · show (S 1 h).toInt ≤ (S 1 h).toInt; omega
    · show (S 1 h).toInt ≤ (S 1 h).toInt; omega
theorem runN_some {G : Gv} {K s x i : Nat} {S : Sv} (h : runN G K s x (i + 1) = some S) : ∃ S1, runN G K s x i = some S1 ∧ (actF G (dg K s x i) S1).1 = true ∧ S = (actF G (dg K s x i) S1).2 := by
  have h' : (match runN G K s x i with | some S => if (actF G (dg K s x i) S).1 = true then some (actF G (dg K s x i) S).2 else none | none => none) = some S := h
  cases hr : runN G K s x i with
  | none => rw [hr] at h'; cases h'
  | some S1 =>
    rw [hr] at h'
    simp only [] at h'
    split at h'
    · next z => cases h'; exact ⟨S1, rfl, z, rfl⟩
    · cases h'
theorem runN_dn {G : Gv} {K s x : Nat} : ∀ (m i : Nat) (S : Sv), runN G K s x (i + m) = some S → ∃ S1, runN G K s x i = some S1
  | 0, i, S, h => ⟨S, h⟩
  | m + 1, i, S, h => by
    obtain ⟨S1, h1, -⟩ := runN_some (i := i + m) h
    exact runN_dn m i S1 h1
theorem land_dn {G : Gv} {K s x : Nat} (hG : OkS G) (hg : 0 < gl G) : ∀ (m i : Nat) (S S2 : Sv), i + m ≤ 4 → runN G K s x i = some S → runN G K s x (i + m) = some S2 → (S 0 6).toInt ≤ (S2 0 6).toInt + m
  | 0, i, S, S2, _, h, h2 => by
    have h2' : runN G K s x i = some S2 := h2
    rw [h] at h2'
    cases h2'
    omega
  | m + 1, i, S, S2, him, h, h2 => by
    obtain ⟨S1, h1, ha, rfl⟩ := runN_some (i := i + m) h2
    have ih := land_dn hG hg m i S S1 (by omega) h h1
    obtain ⟨w8, ⟨p, hp, hp6, hpg⟩, -⟩ := runN_inv hG hg (i + m) S1 (by omega) h1
    have := act_land hp hpg hG w8 ha
    rw [this]
    rw [hp, ito_o _ (by omega)] at ih
    split
    · rw [ito_o _ (by omega)]; omega
    · split
      · rw [ito_o _ (by omega)]; omega
      · rw [ito_o _ (by omega)]; omega
