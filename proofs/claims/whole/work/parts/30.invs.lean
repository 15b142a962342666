/-! WHAT HOLDS BETWEEN CALLS, BEHIND A CHANGE OF ONE ROW -/
theorem inv_moves {I I2 : Iv} {J : Jv} {n : Nat} (h : Inv I J) (hn : n < gc (I 158)) (hv : bw (I2 158 (72 + 8 * n + 5)) 0 9 ∧ bw (I2 158 (72 + 8 * n + 6)) 0 30 ∧ bw (I2 158 (72 + 8 * n + 7)) 0 99) (p3 : ∀ k, k < 8 → I2 (20 + n) k = I2 158 (72 + 8 * n + k)) (p1 : ∀ b, ¬ b = 158 → ¬ b = 20 + n → I2 b = I b) (p6 : ∀ k, ¬ (72 + 8 * n + 5 ≤ k ∧ k < 72 + 8 * n + 8) → I2 158 k = I 158 k) : Inv I2 J := by
  obtain ⟨hR, hG, hJ, -, hW, -, -⟩ := id h
  obtain ⟨r2, r10, r18, rL, rT, rN, rC, rX⟩ := RF_of hG hR
  obtain ⟨⟨e1, g1⟩, ⟨e2, g2⟩, ⟨e3, g3⟩, e4, oL, oT, oN, oC⟩ := id hG
  have c1 : gl (I2 158) = gl (I 158) := by unfold gl; rw [p6 _ (by omega)]
  have c2 : gt (I2 158) = gt (I 158) := by unfold gt; rw [p6 _ (by omega)]
  have c3 : gc (I2 158) = gc (I 158) := by unfold gc; rw [p6 _ (by omega)]
  have c4 : ∀ t, t < 2 → ln (I2 158) t = ln (I 158) t := by intro t ht; unfold ln; rw [p6 _ (by omega)]
  obtain ⟨q1, q2, q3, q4, q5, q6, q7, q8⟩ := hR
  refine inv_mut h ?_ ?_ ?_ ?_ ?_
  · refine ⟨?_, ?_, ?_, ?_, ?_, ?_, ?_, ?_⟩
    · rw [p6 _ (by omega), p1 _ (by omega) (by omega)]; exact q1
    · rw [p6 _ (by omega), p1 _ (by omega) (by omega)]; exact q2
    · rw [p6 _ (by omega), p1 _ (by omega) (by omega)]; exact q3
    · intro l k hl hk; rw [c1] at hl; rw [p6 _ (by omega), p1 _ (by omega) (by omega)]; exact q4 l k hl hk
    · intro l k hl hk; rw [c2] at hl; rw [p6 _ (by omega), p1 _ (by omega) (by omega)]; exact q5 l k hl hk
    · intro k hk; rw [p6 _ (by omega), p1 _ (by omega) (by omega)]; exact q6 k hk
    · intro l k hl hk; rw [c3] at hl
      by_cases e : l = n
      · subst e
        exact p3 k hk
      · rw [p6 _ (by omega), p1 _ (by omega) (by omega)]; exact q7 l k (by omega) hk
    · intro t ht; rw [c4 t ht]
      have := (e4 t ht).2
      refine ⟨?_, fun i hi => ?_⟩
      · rw [p6 _ (by omega), p1 _ (by omega) (by omega)]; exact (q8 t ht).1
      · rw [p6 _ (by omega), p1 _ (by omega) (by omega)]; exact (q8 t ht).2 i hi
  · refine ⟨⟨?_, ?_⟩, ⟨?_, ?_⟩, ⟨?_, ?_⟩, ?_, ?_, ?_, ?_, ?_⟩
    · rw [c1, p6 _ (by omega)]; exact e1
    · omega
    · rw [c2, p6 _ (by omega)]; exact e2
    · omega
    · rw [c3, p6 _ (by omega)]; exact e3
    · omega
    · intro t ht; rw [c4 t ht, p6 _ (by omega)]; exact e4 t ht
    · exact OkL_of oL c1 (by omega) (fun k _ => p6 _ (by omega)) g1
    · exact OkT_of oT c2 (fun k _ _ => p6 _ (by omega)) g2
    · exact OkN_of oN (by omega) (by omega) (fun k _ _ => p6 _ (by omega))
    · intro m hm
      rw [c3] at hm
      obtain ⟨a1, a2, a3, a4, a5, a6, a7⟩ := oC m hm
      rw [p6 (72 + 8 * m) (by omega), p6 (72 + 8 * m + 1) (by omega), p6 (72 + 8 * m + 2) (by omega), p6 (72 + 8 * m + 3) (by omega), p6 (72 + 8 * m + 4) (by omega), c1, c2]
      refine ⟨a1, a2, a3, a4, a5, a6, ?_⟩
      by_cases e : m = n
      · subst e
        exact hv
      · rw [p6 (72 + 8 * m + 5) (by omega), p6 (72 + 8 * m + 6) (by omega), p6 (72 + 8 * m + 7) (by omega)]
        exact a7
  · unfold Wd at hW ⊢
    rw [p1 (1 + 1) (by omega) (by omega), p1 (1 + 9) (by omega) (by omega), p1 (1 + 17) (by omega) (by omega)]; exact hW
  · intro a ha; exact p1 a (by omega) (by omega)
  · exact hJ
theorem inv_greeting {I I2 : Iv} {J : Jv} {n : Nat} (h : Inv I J) (hn : n < gl (I 158)) (hv : bw (I2 158 (8 * n + 2)) 0 (gt (I 158) - 1) ∧ bw (I2 158 (8 * n + 3)) 0 20 ∧ bw (I2 158 (8 * n + 4)) 0 (gt (I 158) - 1) ∧ bw (I2 158 (8 * n + 5)) 0 40 ∧ bw (I2 158 (8 * n + 6)) 0 90 ∧ I2 158 (8 * n + 7) = 1) (p3 : ∀ k, k < 7 → I2 (4 + n) k = I2 158 (8 * n + k)) (p1 : ∀ b, ¬ b = 158 → ¬ b = 4 + n → I2 b = I b) (p6 : ∀ k, ¬ (8 * n + 2 ≤ k ∧ k < 8 * n + 8) → I2 158 k = I 158 k) : Inv I2 J := by
  obtain ⟨hR, hG, hJ, -, hW, -, -⟩ := id h
  obtain ⟨r2, r10, r18, rL, rT, rN, rC, rX⟩ := RF_of hG hR
  obtain ⟨⟨e1, g1⟩, ⟨e2, g2⟩, ⟨e3, g3⟩, e4, oL, oT, oN, oC⟩ := id hG
  have c1 : gl (I2 158) = gl (I 158) := by unfold gl; rw [p6 _ (by omega)]
  have c2 : gt (I2 158) = gt (I 158) := by unfold gt; rw [p6 _ (by omega)]
  have c3 : gc (I2 158) = gc (I 158) := by unfold gc; rw [p6 _ (by omega)]
  have c4 : ∀ t, t < 2 → ln (I2 158) t = ln (I 158) t := by intro t ht; unfold ln; rw [p6 _ (by omega)]
  obtain ⟨q1, q2, q3, q4, q5, q6, q7, q8⟩ := hR
  refine inv_mut h ?_ ?_ ?_ ?_ ?_
  · refine ⟨?_, ?_, ?_, ?_, ?_, ?_, ?_, ?_⟩
    · rw [p6 _ (by omega), p1 _ (by omega) (by omega)]; exact q1
    · rw [p6 _ (by omega), p1 _ (by omega) (by omega)]; exact q2
    · rw [p6 _ (by omega), p1 _ (by omega) (by omega)]; exact q3
    · intro l k hl hk; rw [c1] at hl
      by_cases e : l = n
      · subst e
        exact p3 k hk
      · rw [p6 _ (by omega), p1 _ (by omega) (by omega)]; exact q4 l k (by omega) hk
    · intro l k hl hk; rw [c2] at hl; rw [p6 _ (by omega), p1 _ (by omega) (by omega)]; exact q5 l k hl hk
    · intro k hk; rw [p6 _ (by omega), p1 _ (by omega) (by omega)]; exact q6 k hk
    · intro l k hl hk; rw [c3] at hl; rw [p6 _ (by omega), p1 _ (by omega) (by omega)]; exact q7 l k hl hk
    · intro t ht; rw [c4 t ht]
      have := (e4 t ht).2
      refine ⟨?_, fun i hi => ?_⟩
      · rw [p6 _ (by omega), p1 _ (by omega) (by omega)]; exact (q8 t ht).1
      · rw [p6 _ (by omega), p1 _ (by omega) (by omega)]; exact (q8 t ht).2 i hi
  · refine ⟨⟨?_, ?_⟩, ⟨?_, ?_⟩, ⟨?_, ?_⟩, ?_, ?_, ?_, ?_, ?_⟩
    · rw [c1, p6 _ (by omega)]; exact e1
    · omega
    · rw [c2, p6 _ (by omega)]; exact e2
    · omega
    · rw [c3, p6 _ (by omega)]; exact e3
    · omega
    · intro t ht; rw [c4 t ht, p6 _ (by omega)]; exact e4 t ht
    · intro m hm
      rw [c1] at hm
      obtain ⟨a1, a2, a3, a4, a5, a6, a7, a8, a9⟩ := oL m hm
      rw [p6 (8 * m) (by omega), p6 (8 * m + 1) (by omega), c2]
      refine ⟨a1, a2, a3, ?_⟩
      by_cases e : m = n
      · subst e
        obtain ⟨b1, b2, b3, b4, b5, b6⟩ := hv
        exact ⟨⟨b1.1, by have := b1.2; omega⟩, b2, ⟨b3.1, by have := b3.2; omega⟩, b4, b5, Or.inl ⟨b6, b1, b3⟩⟩
      · rw [p6 (8 * m + 2) (by omega), p6 (8 * m + 3) (by omega), p6 (8 * m + 4) (by omega), p6 (8 * m + 5) (by omega), p6 (8 * m + 6) (by omega), p6 (8 * m + 7) (by omega)]
        exact ⟨a4, a5, a6, a7, a8, a9⟩
    · exact OkT_of oT c2 (fun k _ _ => p6 _ (by omega)) g2
    · exact OkN_of oN (by omega) (by omega) (fun k _ _ => p6 _ (by omega))
    · exact OkC_of oC c3 (by omega) (by omega) (fun k _ _ => p6 _ (by omega)) g3
  · unfold Wd at hW ⊢
    rw [p1 (1 + 1) (by omega) (by omega), p1 (1 + 9) (by omega) (by omega), p1 (1 + 17) (by omega) (by omega)]; exact hW
  · intro a ha; exact p1 a (by omega) (by omega)
  · exact hJ
theorem inv_start {I I2 : Iv} {J : Jv} {n : Nat} (h : Inv I J) (hn : n < gt (I 158)) (hv : bw (I2 158 (48 + 3 * n + 2)) 0 99) (p3 : ∀ k, k < 3 → I2 (12 + n) k = I2 158 (48 + 3 * n + k)) (p1 : ∀ b, ¬ b = 158 → ¬ b = 12 + n → I2 b = I b) (p6 : ∀ k, ¬ (k = 48 + 3 * n + 2) → I2 158 k = I 158 k) : Inv I2 J := by
  obtain ⟨hR, hG, hJ, -, hW, -, -⟩ := id h
  obtain ⟨r2, r10, r18, rL, rT, rN, rC, rX⟩ := RF_of hG hR
  obtain ⟨⟨e1, g1⟩, ⟨e2, g2⟩, ⟨e3, g3⟩, e4, oL, oT, oN, oC⟩ := id hG
  have c1 : gl (I2 158) = gl (I 158) := by unfold gl; rw [p6 _ (by omega)]
  have c2 : gt (I2 158) = gt (I 158) := by unfold gt; rw [p6 _ (by omega)]
  have c3 : gc (I2 158) = gc (I 158) := by unfold gc; rw [p6 _ (by omega)]
  have c4 : ∀ t, t < 2 → ln (I2 158) t = ln (I 158) t := by intro t ht; unfold ln; rw [p6 _ (by omega)]
  obtain ⟨q1, q2, q3, q4, q5, q6, q7, q8⟩ := hR
  refine inv_mut h ?_ ?_ ?_ ?_ ?_
  · refine ⟨?_, ?_, ?_, ?_, ?_, ?_, ?_, ?_⟩
    · rw [p6 _ (by omega), p1 _ (by omega) (by omega)]; exact q1
    · rw [p6 _ (by omega), p1 _ (by omega) (by omega)]; exact q2
    · rw [p6 _ (by omega), p1 _ (by omega) (by omega)]; exact q3
    · intro l k hl hk; rw [c1] at hl; rw [p6 _ (by omega), p1 _ (by omega) (by omega)]; exact q4 l k hl hk
    · intro l k hl hk; rw [c2] at hl
      by_cases e : l = n
      · subst e
        exact p3 k hk
      · rw [p6 _ (by omega), p1 _ (by omega) (by omega)]; exact q5 l k (by omega) hk
    · intro k hk; rw [p6 _ (by omega), p1 _ (by omega) (by omega)]; exact q6 k hk
    · intro l k hl hk; rw [c3] at hl; rw [p6 _ (by omega), p1 _ (by omega) (by omega)]; exact q7 l k hl hk
    · intro t ht; rw [c4 t ht]
      have := (e4 t ht).2
      refine ⟨?_, fun i hi => ?_⟩
      · rw [p6 _ (by omega), p1 _ (by omega) (by omega)]; exact (q8 t ht).1
      · rw [p6 _ (by omega), p1 _ (by omega) (by omega)]; exact (q8 t ht).2 i hi
  · refine ⟨⟨?_, ?_⟩, ⟨?_, ?_⟩, ⟨?_, ?_⟩, ?_, ?_, ?_, ?_, ?_⟩
    · rw [c1, p6 _ (by omega)]; exact e1
    · omega
    · rw [c2, p6 _ (by omega)]; exact e2
    · omega
    · rw [c3, p6 _ (by omega)]; exact e3
    · omega
    · intro t ht; rw [c4 t ht, p6 _ (by omega)]; exact e4 t ht
    · exact OkL_of oL c1 (by omega) (fun k _ => p6 _ (by omega)) g1
    · intro m hm
      rw [c2] at hm
      obtain ⟨a1, a2, a3⟩ := oT m hm
      rw [p6 (48 + 3 * m) (by omega), p6 (48 + 3 * m + 1) (by omega)]
      refine ⟨a1, a2, ?_⟩
      by_cases e : m = n
      · subst e
        exact hv
      · rw [p6 _ (by omega)]
        exact a3
    · exact OkN_of oN (by omega) (by omega) (fun k _ _ => p6 _ (by omega))
    · exact OkC_of oC c3 (by omega) (by omega) (fun k _ _ => p6 _ (by omega)) g3
  · unfold Wd at hW ⊢
    rw [p1 (1 + 1) (by omega) (by omega), p1 (1 + 9) (by omega) (by omega), p1 (1 + 17) (by omega) (by omega)]; exact hW
  · intro a ha; exact p1 a (by omega) (by omega)
  · exact hJ
theorem inv_number {I I2 : Iv} {J : Jv} {n : Nat} (h : Inv I J) (hn : n < 6) (hv : OkN (I2 158)) (p3 : ∀ k, k < 6 → I2 28 k = I2 158 (66 + k)) (p1 : ∀ b, ¬ b = 158 → ¬ b = 28 → I2 b = I b) (p6 : ∀ k, ¬ (k = 66 + n) → I2 158 k = I 158 k) : Inv I2 J := by
  obtain ⟨hR, hG, hJ, -, hW, -, -⟩ := id h
  obtain ⟨r2, r10, r18, rL, rT, rN, rC, rX⟩ := RF_of hG hR
  obtain ⟨⟨e1, g1⟩, ⟨e2, g2⟩, ⟨e3, g3⟩, e4, oL, oT, oN, oC⟩ := id hG
  have c1 : gl (I2 158) = gl (I 158) := by unfold gl; rw [p6 _ (by omega)]
  have c2 : gt (I2 158) = gt (I 158) := by unfold gt; rw [p6 _ (by omega)]
  have c3 : gc (I2 158) = gc (I 158) := by unfold gc; rw [p6 _ (by omega)]
  have c4 : ∀ t, t < 2 → ln (I2 158) t = ln (I 158) t := by intro t ht; unfold ln; rw [p6 _ (by omega)]
  obtain ⟨q1, q2, q3, q4, q5, q6, q7, q8⟩ := hR
  refine inv_mut h ?_ ?_ ?_ ?_ ?_
  · refine ⟨?_, ?_, ?_, ?_, ?_, ?_, ?_, ?_⟩
    · rw [p6 _ (by omega), p1 _ (by omega) (by omega)]; exact q1
    · rw [p6 _ (by omega), p1 _ (by omega) (by omega)]; exact q2
    · rw [p6 _ (by omega), p1 _ (by omega) (by omega)]; exact q3
    · intro l k hl hk; rw [c1] at hl; rw [p6 _ (by omega), p1 _ (by omega) (by omega)]; exact q4 l k hl hk
    · intro l k hl hk; rw [c2] at hl; rw [p6 _ (by omega), p1 _ (by omega) (by omega)]; exact q5 l k hl hk
    · intro k hk; exact p3 k hk
    · intro l k hl hk; rw [c3] at hl; rw [p6 _ (by omega), p1 _ (by omega) (by omega)]; exact q7 l k hl hk
    · intro t ht; rw [c4 t ht]
      have := (e4 t ht).2
      refine ⟨?_, fun i hi => ?_⟩
      · rw [p6 _ (by omega), p1 _ (by omega) (by omega)]; exact (q8 t ht).1
      · rw [p6 _ (by omega), p1 _ (by omega) (by omega)]; exact (q8 t ht).2 i hi
  · refine ⟨⟨?_, ?_⟩, ⟨?_, ?_⟩, ⟨?_, ?_⟩, ?_, ?_, ?_, ?_, ?_⟩
    · rw [c1, p6 _ (by omega)]; exact e1
    · omega
    · rw [c2, p6 _ (by omega)]; exact e2
    · omega
    · rw [c3, p6 _ (by omega)]; exact e3
    · omega
    · intro t ht; rw [c4 t ht, p6 _ (by omega)]; exact e4 t ht
    · exact OkL_of oL c1 (by omega) (fun k _ => p6 _ (by omega)) g1
    · exact OkT_of oT c2 (fun k _ _ => p6 _ (by omega)) g2
    · exact hv
    · exact OkC_of oC c3 (by omega) (by omega) (fun k _ _ => p6 _ (by omega)) g3
  · unfold Wd at hW ⊢
    rw [p1 (1 + 1) (by omega) (by omega), p1 (1 + 9) (by omega) (by omega), p1 (1 + 17) (by omega) (by omega)]; exact hW
  · intro a ha; exact p1 a (by omega) (by omega)
  · exact hJ
theorem inv_text {I I2 : Iv} {J : Jv} {n : Nat} (h : Inv I J) (hn : n < 2) (hv : I2 158 (136 + 161 * n) = o (ln (I2 158) n) ∧ ln (I2 158) n ≤ 160) (p3 : I2 (1 + 29 + 2 * n) 1 = I2 158 (136 + 161 * n) ∧ ∀ i, i < ln (I2 158) n → I2 (1 + 30 + 2 * n) i = I2 158 (137 + 161 * n + i)) (p1 : ∀ b, ¬ b = 158 → ¬ b = 30 + 2 * n → ¬ b = 31 + 2 * n → I2 b = I b) (p6 : ∀ k, ¬ (136 + 161 * n ≤ k ∧ k < 297 + 161 * n) → I2 158 k = I 158 k) : Inv I2 J := by
  obtain ⟨hR, hG, hJ, -, hW, -, -⟩ := id h
  obtain ⟨r2, r10, r18, rL, rT, rN, rC, rX⟩ := RF_of hG hR
  obtain ⟨⟨e1, g1⟩, ⟨e2, g2⟩, ⟨e3, g3⟩, e4, oL, oT, oN, oC⟩ := id hG
  have c1 : gl (I2 158) = gl (I 158) := by unfold gl; rw [p6 _ (by omega)]
  have c2 : gt (I2 158) = gt (I 158) := by unfold gt; rw [p6 _ (by omega)]
  have c3 : gc (I2 158) = gc (I 158) := by unfold gc; rw [p6 _ (by omega)]
  obtain ⟨q1, q2, q3, q4, q5, q6, q7, q8⟩ := hR
  refine inv_mut h ?_ ?_ ?_ ?_ ?_
  · refine ⟨?_, ?_, ?_, ?_, ?_, ?_, ?_, ?_⟩
    · rw [p6 _ (by omega), p1 _ (by omega) (by omega) (by omega)]; exact q1
    · rw [p6 _ (by omega), p1 _ (by omega) (by omega) (by omega)]; exact q2
    · rw [p6 _ (by omega), p1 _ (by omega) (by omega) (by omega)]; exact q3
    · intro l k hl hk; rw [c1] at hl; rw [p6 _ (by omega), p1 _ (by omega) (by omega) (by omega)]; exact q4 l k hl hk
    · intro l k hl hk; rw [c2] at hl; rw [p6 _ (by omega), p1 _ (by omega) (by omega) (by omega)]; exact q5 l k hl hk
    · intro k hk; rw [p6 _ (by omega), p1 _ (by omega) (by omega) (by omega)]; exact q6 k hk
    · intro l k hl hk; rw [c3] at hl; rw [p6 _ (by omega), p1 _ (by omega) (by omega) (by omega)]; exact q7 l k hl hk
    · intro t ht
      have := (e4 t ht).2
      by_cases e : t = n
      · subst e
        exact p3
      · have c4 : ln (I2 158) t = ln (I 158) t := by unfold ln; rw [p6 _ (by omega)]
        rw [c4]
        refine ⟨?_, fun i hi => ?_⟩
        · rw [p6 _ (by omega), p1 _ (by omega) (by omega) (by omega)]; exact (q8 t ht).1
        · rw [p6 _ (by omega), p1 _ (by omega) (by omega) (by omega)]; exact (q8 t ht).2 i hi
  · refine ⟨⟨?_, ?_⟩, ⟨?_, ?_⟩, ⟨?_, ?_⟩, ?_, ?_, ?_, ?_, ?_⟩
    · rw [c1, p6 _ (by omega)]; exact e1
    · omega
    · rw [c2, p6 _ (by omega)]; exact e2
    · omega
    · rw [c3, p6 _ (by omega)]; exact e3
    · omega
    · intro t ht
      by_cases e : t = n
      · subst e
        exact hv
      · have c4 : ln (I2 158) t = ln (I 158) t := by unfold ln; rw [p6 _ (by omega)]
        rw [c4, p6 _ (by omega)]; exact e4 t ht
    · exact OkL_of oL c1 (by omega) (fun k _ => p6 _ (by omega)) g1
    · exact OkT_of oT c2 (fun k _ _ => p6 _ (by omega)) g2
    · exact OkN_of oN (by omega) (by omega) (fun k _ _ => p6 _ (by omega))
    · exact OkC_of oC c3 (by omega) (by omega) (fun k _ _ => p6 _ (by omega)) g3
  · unfold Wd at hW ⊢
    rw [p1 (1 + 1) (by omega) (by omega) (by omega), p1 (1 + 9) (by omega) (by omega) (by omega), p1 (1 + 17) (by omega) (by omega) (by omega)]; exact hW
  · intro a ha; exact p1 a (by omega) (by omega) (by omega)
  · exact hJ
