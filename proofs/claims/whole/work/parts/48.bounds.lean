/-! BOUNDS OF A VOYAGE -/
def Bs (b : Nat) (S : Sv) : Prop := (∀ k, k < 6 → 0 ≤ (S 1 k).toInt ∧ (S 1 k).toInt ≤ b) ∧ (∀ c, c < 8 → 0 ≤ (S 3 c).toInt ∧ (S 3 c).toInt ≤ b) ∧ (∀ c, c < 8 → 0 ≤ (S 5 c).toInt ∧ (S 5 c).toInt ≤ 99) ∧ 0 ≤ (S 0 7).toInt ∧ (S 0 7).toInt ≤ b
theorem Bs_mono {b b' : Nat} {S : Sv} (h : Bs b S) (hb : b ≤ b') : Bs b' S := by
  obtain ⟨h1, h2, h3, h4, h5⟩ := h
  exact ⟨fun k hk => ⟨(h1 k hk).1, by have := (h1 k hk).2; omega⟩, fun c hc => ⟨(h2 c hc).1, by have := (h2 c hc).2; omega⟩, h3, h4, by omega⟩
theorem ti_1 : (1 : Int32).toInt = 1 := rfl
theorem ti_0 : (0 : Int32).toInt = 0 := rfl
theorem spoil_rng {l s : Int32} {b : Nat} (hl : 0 ≤ l.toInt ∧ l.toInt ≤ b) (hs : 0 ≤ s.toInt ∧ s.toInt ≤ 50) (hb : b < 4000000) : 0 ≤ (l - l * s / 100).toInt ∧ (l - l * s / 100).toInt ≤ l.toInt := by
  have h1 : l.toInt * s.toInt ≤ (b : Int) * 50 := Int.mul_le_mul hl.2 hs.2 hs.1 (by omega)
  have h2 : 0 ≤ l.toInt * s.toInt := Int.mul_nonneg hl.1 hs.1
  have e1 : (l * s).toInt = l.toInt * s.toInt := ti_mul (by omega)
  have h3 : l.toInt * s.toInt ≤ l.toInt * 50 := Int.mul_le_mul_of_nonneg_left hs.2 hl.1
  have e2 : (l * s / 100).toInt = l.toInt * s.toInt / 100 := by
    rw [Int32.toInt_div, e1, show (100 : Int32).toInt = 100 from rfl, Int.tdiv_eq_ediv_of_nonneg h2]
    exact bm32 (by omega)
  have h4 : 0 ≤ l.toInt * s.toInt / 100 := by omega
  have h5 : l.toInt * s.toInt / 100 ≤ l.toInt := by omega
  rw [ti_sub (by rw [e2]; omega), e2]
  omega
theorem bs_spoil {b : Nat} {G : Gv} {S : Sv} (h : Bs b S) (hb : b < 4000000) (hG : OkS G) : Bs b (spoilF G S) := by
  obtain ⟨h1, h2, h3, h4, h5⟩ := h
  obtain ⟨⟨e1, g1⟩, ⟨e2, g2⟩, ⟨e3, g3⟩, e4, oL, oT, oN, oC⟩ := id hG
  refine ⟨fun k hk => ?_, fun c hc => ?_, fun c hc => ?_, ?_, ?_⟩
  · unfold spoilF
    by_cases hk2 : k < gt G
    · rw [if_pos ⟨rfl, hk2⟩]
      have := spoil_rng (h1 k hk) (oT k hk2).2.1 hb
      have := (h1 k hk).2
      omega
    · rw [if_neg (fun q => hk2 q.2)]
      exact h1 k hk
  · rw [spoil_keep (by omega)]; exact h2 c hc
  · rw [spoil_keep (by omega)]; exact h3 c hc
  · rw [spoil_keep (by omega)]; exact h4
  · rw [spoil_keep (by omega)]; exact h5
theorem bs_eat {b : Nat} {G : Gv} {S : Sv} (h : Bs b S) (hG : OkS G) : Bs b (eatF G S) := by
  obtain ⟨h1, h2, h3, h4, h5⟩ := id h
  obtain ⟨⟨e1, g1⟩, ⟨e2, g2⟩, ⟨e3, g3⟩, e4, oL, oT, oN, oC⟩ := id hG
  obtain ⟨o1, o2, o3, o4, o5, o6⟩ := oN
  unfold eatF
  split
  · exact h
  · split
    · exact ⟨fun k hk => by rw [xu_06 (by omega)]; exact h1 k hk, fun k hk => by rw [xu_06 (by omega)]; exact h2 k hk, fun k hk => by rw [xu_06 (by omega)]; exact h3 k hk, by rw [xu_06 (by omega)]; exact h4, by rw [xu_06 (by omega)]; exact h5⟩
    · next hz =>
      generalize (G 68).toNatClampNeg = f at hz ⊢
      refine ⟨fun k hk => ?_, fun k hk => by rw [xu_06 (by omega)]; exact h2 k hk, fun k hk => by rw [xu_06 (by omega)]; exact h3 k hk, by rw [xu_06 (by omega)]; exact h4, by rw [xu_06 (by omega)]; exact h5⟩
      by_cases e : k = f
      · subst e
        have h6 := h1 k hk
        have h7 := o2.1
        have h8 := ti_rng (S 1 k)
        rw [xu_self, ti_sub (by omega)]
        omega
      · rw [xu_06 (by omega)]; exact h1 k hk
theorem bs_come {b : Nat} {G : Gv} {S : Sv} (h : Bs b S) : Bs b (comeF G S) := by
  obtain ⟨h1, h2, h3, h4, h5⟩ := id h
  refine ⟨fun k hk => by rw [come_keep (by omega)]; exact h1 k hk, fun k hk => ?_, fun k hk => by rw [come_keep (by omega)]; exact h3 k hk, by rw [come_keep (by omega)]; exact h4, by rw [come_keep (by omega)]; exact h5⟩
  have h6 := h2 k hk
  unfold comeF
  by_cases hc : 3 = 3 ∧ k < gc G ∧ cbk G S k = true
  · rw [if_pos hc]
    have h7 := hc.2.2
    unfold cbk at h7
    rw [decide_eq_true_eq] at h7
    have h8 := h7.1
    have h9 := ti_rng (S 3 k)
    rw [ti_sub (by rw [ti_1]; omega), ti_1]
    omega
  · rw [if_neg hc]
    exact h6
theorem bs_wrong {b : Nat} {S : Sv} {x : Int32} (h : Bs b S) : Bs b (xuI S 0 8 x) := by
  obtain ⟨h1, h2, h3, h4, h5⟩ := id h
  exact ⟨fun k hk => by rw [xu_06 (by omega)]; exact h1 k hk, fun k hk => by rw [xu_06 (by omega)]; exact h2 k hk, fun k hk => by rw [xu_06 (by omega)]; exact h3 k hk, by rw [xu_06 (by omega)]; exact h4, by rw [xu_06 (by omega)]; exact h5⟩
theorem bs_right {b : Nat} {S : Sv} {x : Int32} (h : Bs b S) : Bs b (xuI S 0 9 x) := by
  obtain ⟨h1, h2, h3, h4, h5⟩ := id h
  exact ⟨fun k hk => by rw [xu_06 (by omega)]; exact h1 k hk, fun k hk => by rw [xu_06 (by omega)]; exact h2 k hk, fun k hk => by rw [xu_06 (by omega)]; exact h3 k hk, by rw [xu_06 (by omega)]; exact h4, by rw [xu_06 (by omega)]; exact h5⟩
theorem bs_day {b : Nat} {S : Sv} (h : Bs b S) (hb : b < 4000000) : Bs (b + 1) (xuI S 0 7 (S 0 7 + 1)) := by
  obtain ⟨h1, h2, h3, h4, h5⟩ := Bs_mono h (by omega : b ≤ b + 1)
  have h6 := h.2.2.2.2
  refine ⟨fun k hk => by rw [xu_06 (by omega)]; exact h1 k hk, fun k hk => by rw [xu_06 (by omega)]; exact h2 k hk, fun k hk => by rw [xu_06 (by omega)]; exact h3 k hk, ?_, ?_⟩
  · rw [xu_self, ti_add (by rw [ti_1]; omega), ti_1]; omega
  · rw [xu_self, ti_add (by rw [ti_1]; omega), ti_1]; omega
theorem bs_pass1 {b : Nat} {G : Gv} {S : Sv} (h : Bs b S) (hb : b < 3000000) (hG : OkS G) : Bs (b + 1) (pass1F G S) := by
  have h2 := bs_eat (bs_spoil (bs_day h (by omega)) (by omega) hG) hG
  unfold pass1F
  generalize eatF G (spoilF G (xuI S 0 7 (S 0 7 + 1))) = S2 at h2 ⊢
  try simp only []
  have h3 : Bs (b + 1) (if S2 0 8 = 0 ∧ (G 69).toInt < (S2 0 7).toInt then xuI S2 0 8 2 else S2) := by
    split
    · exact bs_wrong h2
    · exact h2
  generalize (if S2 0 8 = 0 ∧ (G 69).toInt < (S2 0 7).toInt then xuI S2 0 8 2 else S2) = S3 at h3 ⊢
  split
  · exact bs_come h3
  · exact h3
theorem bs_pass {G : Gv} (hG : OkS G) : ∀ (n b : Nat) (S : Sv), Bs b S → b + n < 3000000 → Bs (b + n) (passF G n S)
  | 0, b, S, h, _ => h
  | n + 1, b, S, h, hb => by
    unfold passF
    split
    · have := bs_pass hG n (b + 1) _ (bs_pass1 h (by omega) hG) (by omega)
      rw [show b + (n + 1) = b + 1 + n by omega]
      exact this
    · exact Bs_mono h (by omega)
theorem bs_comes {G : Gv} : ∀ (n b : Nat) (S : Sv), Bs b S → b + n < 3000000 → Bs (b + n) (comesF G n S)
  | 0, b, S, h, _ => h
  | n + 1, b, S, h, hb => by
    have := bs_comes (G := G) n (b + 1) _ (bs_come (G := G) (bs_day h (by omega))) (by omega)
    rw [show b + (n + 1) = b + 1 + n by omega]
    exact this
theorem bs_load {b : Nat} {S : Sv} {j : Nat} {x : Int32} (h : Bs b S) (hx : 0 ≤ x.toInt ∧ x.toInt ≤ b) : Bs b (xuI S 1 j x) := by
  obtain ⟨h1, h2, h3, h4, h5⟩ := h
  refine ⟨fun k hk => ?_, fun k hk => by rw [xu_06 (by omega)]; exact h2 k hk, fun k hk => by rw [xu_06 (by omega)]; exact h3 k hk, by rw [xu_06 (by omega)]; exact h4, by rw [xu_06 (by omega)]; exact h5⟩
  by_cases e : k = j
  · subst e
    rw [xu_self]; exact hx
  · rw [xu_06 (by omega)]; exact h1 k hk
theorem bs_land {b : Nat} {S : Sv} {x : Int32} (h : Bs b S) : Bs b (xuI S 0 6 x) := by
  obtain ⟨h1, h2, h3, h4, h5⟩ := id h
  exact ⟨fun k hk => by rw [xu_06 (by omega)]; exact h1 k hk, fun k hk => by rw [xu_06 (by omega)]; exact h2 k hk, fun k hk => by rw [xu_06 (by omega)]; exact h3 k hk, by rw [xu_06 (by omega)]; exact h4, by rw [xu_06 (by omega)]; exact h5⟩
theorem bs_owed {b : Nat} {S : Sv} {l : Nat} {x : Int32} (h : Bs b S) : Bs b (xuI S 2 l x) := by
  obtain ⟨h1, h2, h3, h4, h5⟩ := id h
  exact ⟨fun k hk => by rw [xu_06 (by omega)]; exact h1 k hk, fun k hk => by rw [xu_06 (by omega)]; exact h2 k hk, fun k hk => by rw [xu_06 (by omega)]; exact h3 k hk, by rw [xu_06 (by omega)]; exact h4, by rw [xu_06 (by omega)]; exact h5⟩
theorem bs_arr {b l : Nat} {G : Gv} {S : Sv} (hl : l < gl G) (h : Bs b S) (hb : b < 3000000) (hG : OkS G) : Bs (b + 40) (arrF G l S) := by
  obtain ⟨⟨e1, g1⟩, ⟨e2, g2⟩, ⟨e3, g3⟩, e4, oL, oT, oN, oC⟩ := id hG
  obtain ⟨a1, a2, a3, a4, a5, a6, a7, a8, a9⟩ := oL l hl
  obtain ⟨x, hx, hx1, hx2, hx3⟩ := of_bw a4 (by omega)
  obtain ⟨y, hy, hy1, hy2, hy3⟩ := of_bw a6 (by omega)
  by_cases h0 : S 0 8 = 0
  · rw [arrF_T h0]
    have h1 : Bs (b + 40) (if S 2 l = -1 then xuI S 0 6 (o l) else if (S 2 l + G (8 * l + 6)).toInt ≤ (S 0 7).toInt then xuI (xuI S 0 6 (o l)) 1 (G (8 * l + 4)).toNatClampNeg (S 1 (G (8 * l + 4)).toNatClampNeg + G (8 * l + 5)) else xuI S 0 6 (o l)) := by
      split
      · exact bs_land (Bs_mono h (by omega))
      · split
        · rw [hy, o_cl hy3]
          have h6 := h.1 y (by omega)
          have h7 := a7.1
          have h8 := a7.2
          refine bs_load (bs_land (Bs_mono h (by omega))) ?_
          rw [ti_add (by omega)]
          omega
        · exact bs_land (Bs_mono h (by omega))
    generalize (if S 2 l = -1 then xuI S 0 6 (o l) else if (S 2 l + G (8 * l + 6)).toInt ≤ (S 0 7).toInt then xuI (xuI S 0 6 (o l)) 1 (G (8 * l + 4)).toNatClampNeg (S 1 (G (8 * l + 4)).toNatClampNeg + G (8 * l + 5)) else xuI S 0 6 (o l)) = S2 at h1 ⊢
    unfold arrT
    rw [hx, o_cl hx3]
    split
    · exact bs_wrong h1
    · next hz =>
      have h2 : Bs (b + 40) (xuI (xuI S2 1 x (S2 1 x - G (8 * l + 3))) 2 l (S2 0 7)) := by
        refine bs_owed (bs_load h1 ?_)
        have h6 := h1.1 x (by omega)
        have h7 := a5.1
        rw [ti_sub (by omega)]
        omega
      split
      · exact bs_wrong h2
      · exact h2
  · have e : arrF G l S = S := by unfold arrF; rw [if_neg h0]
    rw [e]
    exact Bs_mono h (by omega)
theorem can_iff {G : Gv} {k : Nat} {S : Sv} : (canF G k S = true) = (k < gc G ∧ G (72 + 8 * k) = S 0 6 ∧ (S 5 k).toInt < (G (72 + 8 * k + 7)).toInt ∧ (G (72 + 8 * k + 2) + S 3 k).toInt ≤ (S 1 (G (72 + 8 * k + 1)).toNatClampNeg).toInt) := by
  unfold canF
  rw [decide_eq_true_eq]
theorem bs_do {b k : Nat} {G : Gv} {S : Sv} (hc : canF G k S = true) (h : Bs b S) (hb : b < 3000000) (hG : OkS G) : Bs (b + 20) (doF G k S) := by
  obtain ⟨⟨e1, g1⟩, ⟨e2, g2⟩, ⟨e3, g3⟩, e4, oL, oT, oN, oC⟩ := id hG
  rw [can_iff] at hc
  obtain ⟨c1, c2, c3, c4⟩ := hc
  obtain ⟨a1, a2, a3, a4, a5, a6, a7, a8, a9⟩ := oC k c1
  obtain ⟨x, hx, hx1, hx2, hx3⟩ := of_bw a2 (by omega)
  obtain ⟨y, hy, hy1, hy2, hy3⟩ := of_bw a4 (by omega)
  have hxy : ¬ x = y := by
    intro e
    rw [hx, hy, e] at a6
    exact a6 rfl
  have k8 : k < 8 := by omega
  rw [hx, o_cl hx3] at c4
  have m1 := h.2.1 k k8
  have t1 := h.2.2.1 k k8
  have q3 := a3.1
  have q3' := a3.2
  have q5 := a5.1
  have q5' := a5.2
  have q9 := a9.2
  have lx := h.1 x (by omega)
  have ly := h.1 y (by omega)
  have eA : (G (72 + 8 * k + 2) + S 3 k).toInt = (G (72 + 8 * k + 2)).toInt + (S 3 k).toInt := ti_add (by omega)
  rw [eA] at c4
  have n1 : (S 1 x - (G (72 + 8 * k + 2) + S 3 k)).toInt = (S 1 x).toInt - ((G (72 + 8 * k + 2)).toInt + (S 3 k).toInt) := by rw [ti_sub (by rw [eA]; omega), eA]
  have n2 : (S 1 y + G (72 + 8 * k + 4)).toInt = (S 1 y).toInt + (G (72 + 8 * k + 4)).toInt := ti_add (by omega)
  have n3 : (S 5 k + 1).toInt = (S 5 k).toInt + 1 := by rw [ti_add (by rw [ti_1]; omega), ti_1]
  have n4 : (S 3 k + 1).toInt = (S 3 k).toInt + 1 := by rw [ti_add (by rw [ti_1]; omega), ti_1]
  obtain ⟨h1, h2, h3, h4, h5⟩ := Bs_mono h (by omega : b ≤ b + 20)
  have base : Bs (b + 20) (xuI (xuI (xuI S 1 x (S 1 x - (G (72 + 8 * k + 2) + S 3 k))) 1 y (S 1 y + G (72 + 8 * k + 4))) 5 k (S 5 k + 1)) := by
    have z := bs_load (j := y) (x := S 1 y + G (72 + 8 * k + 4)) (bs_load (j := x) (x := S 1 x - (G (72 + 8 * k + 2) + S 3 k)) (Bs_mono h (by omega : b ≤ b + 20)) (by rw [n1]; omega)) (by rw [n2]; omega)
    obtain ⟨z1, z2, z3, z4, z5⟩ := z
    refine ⟨fun j hj => by rw [xu_06 (by omega)]; exact z1 j hj, fun j hj => by rw [xu_06 (by omega)]; exact z2 j hj, fun j hj => ?_, by rw [xu_06 (by omega)]; exact z4, by rw [xu_06 (by omega)]; exact z5⟩
    by_cases e : j = k
    · subst e
      rw [xu_self, n3]; omega
    · rw [xu_06 (by omega)]; exact z3 j hj
  unfold doF
  rw [hx, hy, o_cl hx3, o_cl hy3]
  try simp only []
  rw [show xuI S 1 x (S 1 x - (G (72 + 8 * k + 2) + S 3 k)) 1 y = S 1 y from xu_06 (by omega), show xuI (xuI S 1 x (S 1 x - (G (72 + 8 * k + 2) + S 3 k))) 1 y (S 1 y + G (72 + 8 * k + 4)) 5 k = S 5 k from by rw [xu_06 (by omega), xu_06 (by omega)]]
  have e3 : xuI (xuI (xuI S 1 x (S 1 x - (G (72 + 8 * k + 2) + S 3 k))) 1 y (S 1 y + G (72 + 8 * k + 4))) 5 k (S 5 k + 1) 3 k = S 3 k := by rw [xu_06 (by omega), xu_06 (by omega), xu_06 (by omega)]
  generalize xuI (xuI (xuI S 1 x (S 1 x - (G (72 + 8 * k + 2) + S 3 k))) 1 y (S 1 y + G (72 + 8 * k + 4))) 5 k (S 5 k + 1) = S3 at base e3 ⊢
  split
  · exact base
  · obtain ⟨z1, z2, z3, z4, z5⟩ := base
    have base4 : ∀ w, Bs (b + 20) (xuI S3 4 k w) := fun w => ⟨fun j hj => by rw [xu_06 (by omega)]; exact z1 j hj, fun j hj => by rw [xu_06 (by omega)]; exact z2 j hj, fun j hj => by rw [xu_06 (by omega)]; exact z3 j hj, by rw [xu_06 (by omega)]; exact z4, by rw [xu_06 (by omega)]; exact z5⟩
    split
    · have e5 : xuI (xuI S3 4 k (S3 4 k + 1)) 4 k 0 3 k = S 3 k := by rw [xu_06 (by omega), xu_06 (by omega)]; exact e3
      have b5 : Bs (b + 20) (xuI (xuI S3 4 k (S3 4 k + 1)) 4 k 0) := by
        obtain ⟨y1, y2, y3, y4, y5⟩ := base4 (S3 4 k + 1)
        exact ⟨fun j hj => by rw [xu_06 (by omega)]; exact y1 j hj, fun j hj => by rw [xu_06 (by omega)]; exact y2 j hj, fun j hj => by rw [xu_06 (by omega)]; exact y3 j hj, by rw [xu_06 (by omega)]; exact y4, by rw [xu_06 (by omega)]; exact y5⟩
      rw [e5]
      obtain ⟨y1, y2, y3, y4, y5⟩ := b5
      refine ⟨fun j hj => by rw [xu_06 (by omega)]; exact y1 j hj, fun j hj => ?_, fun j hj => by rw [xu_06 (by omega)]; exact y3 j hj, by rw [xu_06 (by omega)]; exact y4, by rw [xu_06 (by omega)]; exact y5⟩
      by_cases e : j = k
      · subst e
        rw [xu_self, n4]; omega
      · rw [xu_06 (by omega)]; exact y2 j hj
    · exact base4 _
theorem bs_doTimes {k : Nat} {G : Gv} (hG : OkS G) : ∀ (n b : Nat) (S : Sv), Bs b S → b + 20 * n < 3000000 → Bs (b + 20 * n) (doTimesF G k n S)
  | 0, b, S, h, _ => h
  | n + 1, b, S, h, hb => by
    unfold doTimesF
    split
    · split
      · next hc =>
        have h1 := bs_do hc h (by omega) hG
        have h2 : Bs (b + 20) (if (G 66).toInt < (wtF G (doF G k S) (gt G)).toInt then xuI (doF G k S) 0 8 4 else doF G k S) := by
          split
          · exact bs_wrong h1
          · exact h1
        have := bs_doTimes (k := k) hG n (b + 20) _ h2 (by omega)
        rw [show b + 20 * (n + 1) = b + 20 + 20 * n by omega]
        exact this
      · exact bs_wrong (Bs_mono h (by omega))
    · exact Bs_mono h (by omega)
