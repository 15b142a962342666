/-! RIVERS: landing, change -/
theorem OkL_of {G G' : Gv} (h : OkL G) (hl : gl G' = gl G) (ht : gt G ≤ gt G') (hk : ∀ k, k < 48 → G' k = G k) (g1 : gl G ≤ 6) : OkL G' := by
  intro l hl'
  rw [hl] at hl'
  obtain ⟨a1, a2, a3, a4, a5, a6, a7, a8, a9⟩ := h l hl'
  rw [hk (8 * l) (by omega), hk (8 * l + 1) (by omega), hk (8 * l + 2) (by omega), hk (8 * l + 3) (by omega), hk (8 * l + 4) (by omega), hk (8 * l + 5) (by omega), hk (8 * l + 6) (by omega), hk (8 * l + 7) (by omega)]
  refine ⟨a1, a2, a3, a4, a5, a6, a7, a8, ?_⟩
  rcases a9 with ⟨b1, b2, b3⟩ | b
  · exact Or.inl ⟨b1, ⟨b2.1, by have := b2.2; omega⟩, ⟨b3.1, by have := b3.2; omega⟩⟩
  · exact Or.inr b
theorem OkT_of {G G' : Gv} (h : OkT G) (ht : gt G' = gt G) (hk : ∀ k, 48 ≤ k → k < 66 → G' k = G k) (g1 : gt G ≤ 6) : OkT G' := by
  intro l hl'
  rw [ht] at hl'
  rw [hk (48 + 3 * l) (by omega) (by omega), hk (48 + 3 * l + 1) (by omega) (by omega), hk (48 + 3 * l + 2) (by omega) (by omega)]
  exact h l hl'
theorem OkN_of {G G' : Gv} (h : OkN G) (hl : gl G ≤ gl G') (ht : gt G ≤ gt G') (hk : ∀ k, 66 ≤ k → k < 72 → G' k = G k) : OkN G' := by
  obtain ⟨a1, a2, a3, a4, a5, a6⟩ := h
  unfold OkN
  rw [hk 66 (by omega) (by omega), hk 67 (by omega) (by omega), hk 68 (by omega) (by omega), hk 69 (by omega) (by omega), hk 70 (by omega) (by omega), hk 71 (by omega) (by omega)]
  exact ⟨a1, a2, ⟨a3.1, by have := a3.2; omega⟩, a4, a5, ⟨a6.1, by have := a6.2; omega⟩⟩
theorem OkC_of {G G' : Gv} (h : OkC G) (hc : gc G' = gc G) (hl : gl G ≤ gl G') (ht : gt G ≤ gt G') (hk : ∀ k, 72 ≤ k → k < 136 → G' k = G k) (g3 : gc G ≤ 8) : OkC G' := by
  intro l hl'
  rw [hc] at hl'
  obtain ⟨a1, a2, a3, a4, a5⟩ := h l hl'
  rw [hk (72 + 8 * l) (by omega) (by omega), hk (72 + 8 * l + 1) (by omega) (by omega), hk (72 + 8 * l + 2) (by omega) (by omega), hk (72 + 8 * l + 3) (by omega) (by omega), hk (72 + 8 * l + 4) (by omega) (by omega), hk (72 + 8 * l + 5) (by omega) (by omega), hk (72 + 8 * l + 6) (by omega) (by omega), hk (72 + 8 * l + 7) (by omega) (by omega)]
  exact ⟨⟨a1.1, by have := a1.2; omega⟩, ⟨a2.1, by have := a2.2; omega⟩, a3, ⟨a4.1, by have := a4.2; omega⟩, a5⟩
theorem inv_landing {I I2 : Iv} {J : Jv} {n : Nat} {u w : Int32} (h : Inv I J) (hn : gl (I 158) = n) (h6 : n < 6) (hu : (n = 0 ∧ u = 0 ∧ w = 0) ∨ (bw u 1 9 ∧ bw w 1 9))
    (p1 : ∀ b, ¬ b = 158 → ¬ b = 2 → ¬ b = 4 + n → I2 b = I b) (p2 : I2 2 2 = o (n + 1) ∧ I2 2 1 = I 2 1) (p3 : I2 (4 + n) 0 = u ∧ I2 (4 + n) 1 = w ∧ ∀ k, 2 ≤ k → k < 7 → I2 (4 + n) k = 0) (p4 : I2 158 (8 * n) = u ∧ I2 158 (8 * n + 1) = w ∧ ∀ k, 2 ≤ k → k < 8 → I2 158 (8 * n + k) = 0) (p5 : I2 158 458 = o (n + 1)) (p6 : ∀ k, ¬ k = 458 → ¬ (8 * n ≤ k ∧ k < 8 * n + 8) → I2 158 k = I 158 k) : Inv I2 J := by
  obtain ⟨hR, hG, hJ, -, hW, -, -⟩ := id h
  obtain ⟨r2, r10, r18, rL, rT, rN, rC, rX⟩ := RF_of hG hR
  obtain ⟨⟨e1, g1⟩, ⟨e2, g2⟩, ⟨e3, g3⟩, e4, oL, oT, oN, oC⟩ := id hG
  have c1 : gl (I2 158) = n + 1 := by
    show (I2 158 458).toNatClampNeg = _
    rw [p5, o_cl (by omega)]
  have c2 : gt (I2 158) = gt (I 158) := by unfold gt; rw [p6 _ (by omega) (by omega)]
  have c3 : gc (I2 158) = gc (I 158) := by unfold gc; rw [p6 _ (by omega) (by omega)]
  have c4 : ∀ t, t < 2 → ln (I2 158) t = ln (I 158) t := by intro t ht; unfold ln; rw [p6 _ (by omega) (by omega)]
  obtain ⟨q1, q2, q3, q4, q5, q6, q7, q8⟩ := hR
  refine inv_mut h ?_ ?_ ?_ ?_ ?_
  · refine ⟨?_, ?_, ?_, ?_, ?_, ?_, ?_, ?_⟩
    · rw [p5]; exact p2.1
    · rw [p6 _ (by omega) (by omega), p1 _ (by omega) (by omega) (by omega)]; exact q2
    · rw [p6 _ (by omega) (by omega), p1 _ (by omega) (by omega) (by omega)]; exact q3
    · intro l k hl hk; rw [c1] at hl
      by_cases e : l = n
      · subst e
        match k, hk with
        | 0, _ => exact p3.1.trans p4.1.symm
        | 1, _ => exact p3.2.1.trans p4.2.1.symm
        | k + 2, h => rw [p4.2.2 (k + 2) (by omega) (by omega)]; exact p3.2.2 _ (by omega) h
      · rw [p6 _ (by omega) (by omega), p1 _ (by omega) (by omega) (by omega)]; exact q4 l k (by omega) hk
    · intro l k hl hk; rw [c2] at hl; rw [p6 _ (by omega) (by omega), p1 _ (by omega) (by omega) (by omega)]; exact q5 l k hl hk
    · intro k hk; rw [p6 _ (by omega) (by omega), p1 _ (by omega) (by omega) (by omega)]; exact q6 k hk
    · intro l k hl hk; rw [c3] at hl; rw [p6 _ (by omega) (by omega), p1 _ (by omega) (by omega) (by omega)]; exact q7 l k hl hk
    · intro t ht; rw [c4 t ht]
      have := (e4 t ht).2
      refine ⟨?_, fun i hi => ?_⟩
      · rw [p6 _ (by omega) (by omega), p1 _ (by omega) (by omega) (by omega)]; exact (q8 t ht).1
      · rw [p6 _ (by omega) (by omega), p1 _ (by omega) (by omega) (by omega)]; exact (q8 t ht).2 i hi
  · refine ⟨⟨?_, ?_⟩, ⟨?_, ?_⟩, ⟨?_, ?_⟩, ?_, ?_, ?_, ?_, ?_⟩
    · rw [c1]; exact p5
    · omega
    · rw [c2, p6 _ (by omega) (by omega)]; exact e2
    · omega
    · rw [c3, p6 _ (by omega) (by omega)]; exact e3
    · omega
    · intro t ht; rw [c4 t ht, p6 _ (by omega) (by omega)]; exact e4 t ht
    · intro l hl
      rw [c1] at hl
      by_cases e : l = n
      · subst e
        rw [p4.1, p4.2.1, p4.2.2 2 (by omega) (by omega), p4.2.2 3 (by omega) (by omega), p4.2.2 4 (by omega) (by omega), p4.2.2 5 (by omega) (by omega), p4.2.2 6 (by omega) (by omega), p4.2.2 7 (by omega) (by omega)]
        have z : bw 0 0 5 ∧ bw 0 0 20 ∧ bw 0 0 40 ∧ bw 0 0 90 := ⟨⟨by decide, by decide⟩, ⟨by decide, by decide⟩, ⟨by decide, by decide⟩, ⟨by decide, by decide⟩⟩
        rcases hu with ⟨rfl, rfl, rfl⟩ | ⟨b1, b2⟩
        · exact ⟨⟨by decide, by decide⟩, ⟨by decide, by decide⟩, Or.inl rfl, z.1, z.2.1, z.1, z.2.2.1, z.2.2.2, Or.inr ⟨rfl, rfl, rfl⟩⟩
        · exact ⟨⟨by have := b1.1; omega, b1.2⟩, ⟨by have := b2.1; omega, b2.2⟩, Or.inr ⟨b1, b2⟩, z.1, z.2.1, z.1, z.2.2.1, z.2.2.2, Or.inr ⟨rfl, rfl, rfl⟩⟩
      · have := oL l (by omega)
        rw [p6 (8 * l) (by omega) (by omega), p6 (8 * l + 1) (by omega) (by omega), p6 (8 * l + 2) (by omega) (by omega), p6 (8 * l + 3) (by omega) (by omega), p6 (8 * l + 4) (by omega) (by omega), p6 (8 * l + 5) (by omega) (by omega), p6 (8 * l + 6) (by omega) (by omega), p6 (8 * l + 7) (by omega) (by omega), c2]
        exact this
    · exact OkT_of oT c2 (fun k _ _ => p6 _ (by omega) (by omega)) g2
    · exact OkN_of oN (by omega) (by omega) (fun k _ _ => p6 _ (by omega) (by omega))
    · exact OkC_of oC c3 (by omega) (by omega) (fun k _ _ => p6 _ (by omega) (by omega)) g3
  · unfold Wd at hW ⊢
    rw [p1 (1 + 9) (by omega) (by omega) (by omega), p1 (1 + 17) (by omega) (by omega) (by omega), p2.2]; exact hW
  · intro a ha; exact p1 a (by omega) (by omega) (by omega)
  · exact hJ
theorem inv_change {I I2 : Iv} {J : Jv} {n : Nat} {v : Nat → Int32} (h : Inv I J) (hn : gc (I 158) = n) (h6 : n < 8) (hl : bw (v 0) 0 (gl (I 158) - 1)) (hx : bw (v 1) 0 (gt (I 158) - 1)) (ha : bw (v 2) 1 20) (hy : bw (v 3) 0 (gt (I 158) - 1)) (hb : bw (v 4) 1 20) (hxy : ¬ v 1 = v 3) (hm : v 5 = 0 ∧ v 6 = 0 ∧ v 7 = 99)
    (p1 : ∀ b, ¬ b = 158 → ¬ b = 18 → ¬ b = 20 + n → I2 b = I b) (p2 : I2 18 2 = o (n + 1) ∧ I2 18 1 = I 18 1) (p3 : ∀ k, k < 8 → I2 (20 + n) k = v k) (p4 : ∀ k, k < 8 → I2 158 (72 + 8 * n + k) = v k) (p5 : I2 158 460 = o (n + 1)) (p6 : ∀ k, ¬ k = 460 → ¬ (72 + 8 * n ≤ k ∧ k < 72 + 8 * n + 8) → I2 158 k = I 158 k) : Inv I2 J := by
  obtain ⟨hR, hG, hJ, -, hW, -, -⟩ := id h
  obtain ⟨r2, r10, r18, rL, rT, rN, rC, rX⟩ := RF_of hG hR
  obtain ⟨⟨e1, g1⟩, ⟨e2, g2⟩, ⟨e3, g3⟩, e4, oL, oT, oN, oC⟩ := id hG
  have c1 : gl (I2 158) = gl (I 158) := by unfold gl; rw [p6 _ (by omega) (by omega)]
  have c3 : gc (I2 158) = n + 1 := by
    show (I2 158 460).toNatClampNeg = _
    rw [p5, o_cl (by omega)]
  have c2 : gt (I2 158) = gt (I 158) := by unfold gt; rw [p6 _ (by omega) (by omega)]
  have c4 : ∀ t, t < 2 → ln (I2 158) t = ln (I 158) t := by intro t ht; unfold ln; rw [p6 _ (by omega) (by omega)]
  obtain ⟨q1, q2, q3, q4, q5, q6, q7, q8⟩ := hR
  refine inv_mut h ?_ ?_ ?_ ?_ ?_
  · refine ⟨?_, ?_, ?_, ?_, ?_, ?_, ?_, ?_⟩
    · rw [p6 _ (by omega) (by omega), p1 _ (by omega) (by omega) (by omega)]; exact q1
    · rw [p6 _ (by omega) (by omega), p1 _ (by omega) (by omega) (by omega)]; exact q2
    · rw [p5]; exact p2.1
    · intro l k hl hk; rw [c1] at hl; rw [p6 _ (by omega) (by omega), p1 _ (by omega) (by omega) (by omega)]; exact q4 l k hl hk
    · intro l k hl hk; rw [c2] at hl; rw [p6 _ (by omega) (by omega), p1 _ (by omega) (by omega) (by omega)]; exact q5 l k hl hk
    · intro k hk; rw [p6 _ (by omega) (by omega), p1 _ (by omega) (by omega) (by omega)]; exact q6 k hk
    · intro l k hl hk; rw [c3] at hl
      by_cases e : l = n
      · subst e
        rw [p4 k hk]
        exact p3 k hk
      · rw [p6 _ (by omega) (by omega), p1 _ (by omega) (by omega) (by omega)]; exact q7 l k (by omega) hk
    · intro t ht; rw [c4 t ht]
      have := (e4 t ht).2
      refine ⟨?_, fun i hi => ?_⟩
      · rw [p6 _ (by omega) (by omega), p1 _ (by omega) (by omega) (by omega)]; exact (q8 t ht).1
      · rw [p6 _ (by omega) (by omega), p1 _ (by omega) (by omega) (by omega)]; exact (q8 t ht).2 i hi
  · refine ⟨⟨?_, ?_⟩, ⟨?_, ?_⟩, ⟨?_, ?_⟩, ?_, ?_, ?_, ?_, ?_⟩
    · rw [c1, p6 _ (by omega) (by omega)]; exact e1
    · omega
    · rw [c2, p6 _ (by omega) (by omega)]; exact e2
    · omega
    · rw [c3]; exact p5
    · omega
    · intro t ht; rw [c4 t ht, p6 _ (by omega) (by omega)]; exact e4 t ht
    · exact OkL_of oL c1 (by omega) (fun k _ => p6 _ (by omega) (by omega)) g1
    · exact OkT_of oT c2 (fun k _ _ => p6 _ (by omega) (by omega)) g2
    · exact OkN_of oN (by omega) (by omega) (fun k _ _ => p6 _ (by omega) (by omega))
    · intro m hm'
      rw [c3] at hm'
      by_cases e : m = n
      · subst e
        rw [show I2 158 (72 + 8 * m) = v 0 from p4 0 (by omega), p4 1 (by omega), p4 2 (by omega), p4 3 (by omega), p4 4 (by omega), p4 5 (by omega), p4 6 (by omega), p4 7 (by omega), c1, c2, hm.1, hm.2.1, hm.2.2]
        exact ⟨hl, hx, ha, hy, hb, hxy, ⟨by decide, by decide⟩, ⟨by decide, by decide⟩, ⟨by decide, by decide⟩⟩
      · have := oC m (by omega)
        rw [p6 (72 + 8 * m) (by omega) (by omega), p6 (72 + 8 * m + 1) (by omega) (by omega), p6 (72 + 8 * m + 2) (by omega) (by omega), p6 (72 + 8 * m + 3) (by omega) (by omega), p6 (72 + 8 * m + 4) (by omega) (by omega), p6 (72 + 8 * m + 5) (by omega) (by omega), p6 (72 + 8 * m + 6) (by omega) (by omega), p6 (72 + 8 * m + 7) (by omega) (by omega), c1, c2]
        exact this
  · unfold Wd at hW ⊢
    rw [p1 (1 + 1) (by omega) (by omega) (by omega), p1 (1 + 9) (by omega) (by omega) (by omega), p2.2]; exact hW
  · intro a ha; exact p1 a (by omega) (by omega) (by omega)
  · exact hJ
