/-! THE BEST ROW IS LEFT OUT BY NO RULE: the whole -/
theorem hm_6 {G : Gv} (hG : OkS G) : (G 70).toNatClampNeg < 6 ∧ G 70 = o (G 70).toNatClampNeg := by
  have h := hG.2.2.2.2.2.2.1.2.2.2.2.1
  have h2 := h.2
  have h1 := h.1
  refine ⟨?_, of_cl h1⟩
  rw [cl_ti]
  omega
theorem help_best {G : Gv} {n s x : Nat} {v : Int32} (hG : OkS G) (hg : 0 < gl G) (hn : n ≤ 4) (hB : BestN G (3 + gc G) n v s x) : ∀ i S, i < s → runN G (3 + gc G) s x i = some S → help G n i (dg (3 + gc G) s x i) S := by
  intro i S hi hr
  obtain ⟨b1, b2, b3, b4⟩ := hB
  obtain ⟨h6, -⟩ := hm_6 hG
  have g1 := hG.1.2
  -- the end
  unfold vN at b3
  cases hrs : runN G (3 + gc G) s x s with
  | none => rw [hrs] at b3; cases b3
  | some S' =>
    rw [hrs] at b3
    simp only [] at b3
    by_cases hz : S' 0 6 = 0
    · rw [if_pos hz] at b3
      obtain ⟨S1, h1⟩ := runN_dn (G := G) (K := 3 + gc G) (s := s) (x := x) (s - (i + 1)) (i + 1) S' (by rw [show i + 1 + (s - (i + 1)) = s by omega]; exact hrs)
      obtain ⟨S0, h0, ha, hS1⟩ := runN_some h1
      rw [hr] at h0
      cases h0
      have hld := land_dn hG hg (s - (i + 1)) (i + 1) S1 S' (by omega) h1 (by rw [show i + 1 + (s - (i + 1)) = s by omega]; exact hrs)
      rw [hz, ti_0] at hld
      obtain ⟨w8, ⟨p, hp, hp6, hpg⟩, hBs⟩ := runN_inv hG hg i S (by omega) hr
      have hal := act_land hp hpg hG w8 ha
      rw [← hS1] at hal
      rw [hal] at hld
      have hpt : (S 0 6).toInt = p := by rw [hp, ito_o _ (by omega)]
      generalize hda : dg (3 + gc G) s x i = a at *
      -- a row that is one shorter
      have shorter : n ≤ i + 1 → S 0 6 = 0 → (S' 1 (G 70).toNatClampNeg).toInt ≤ (S 1 (G 70).toNatClampNeg).toInt → False := by
        intro hni hS0 hle
        have hsi : s = i + 1 := by omega
        have hpre : runN G (3 + gc G) i (x / (3 + gc G) ^ (s - i)) i = some S := by
          rw [← runN_pre (G := G) (K := 3 + gc G) (j := s) (k := i) (y := x) rfl (by omega) i (Nat.le_refl _)]
          exact hr
        have hv : vN G (3 + gc G) i (x / (3 + gc G) ^ (s - i)) = some (S 1 (G 70).toNatClampNeg) := by
          unfold vN
          rw [hpre]
          simp only []
          rw [if_pos hS0]
        have hx : x / (3 + gc G) ^ (s - i) < (3 + gc G) ^ i := by
          rw [Nat.div_lt_iff_lt_mul (Nat.pow_pos (by omega)), ← Nat.pow_add, show i + (s - i) = s by omega]
          exact b2
        cases b3
        rcases b4 i _ _ (by omega) hx hv with q | ⟨-, q⟩ <;> omega
      have hS1' : s = i + 1 → S' = S1 := by
        intro e
        subst e
        rw [hrs] at h1
        cases h1
        rfl
      unfold help
      by_cases a0 : a = 0
      · rw [if_pos a0] at hld ⊢
        rw [ito_o _ (by omega)] at hld
        omega
      · rw [if_neg a0] at hld ⊢
        by_cases a1 : a = 1
        · rw [if_pos a1]
          rw [a1] at ha
          have := act_down hp hpg hG ha
          omega
        · rw [if_neg a1] at hld ⊢
          rw [ito_o _ (by omega)] at hld
          refine ⟨by omega, ?_⟩
          have hS00 : n ≤ i + 1 → S 0 6 = 0 := by
            intro hni
            have : p = 0 := by omega
            rw [hp, this]
            rfl
          by_cases a2 : a = 2
          · rw [if_pos a2]
            by_cases hlt : i + 1 < n
            · exact hlt
            · exfalso
              refine shorter (by omega) (hS00 (by omega)) ?_
              rw [hS1' (by omega), hS1]
              unfold actF
              rw [if_neg a0, if_neg a1, if_pos a2]
              show (passF G 1 S 1 _).toInt ≤ _
              have ep : passF G 1 S = pass1F G S := by
                show (if S 0 8 = 0 then passF G 0 (pass1F G S) else S) = _
                rw [if_pos w8]
                rfl
              rw [ep]
              exact pass1_home hBs (by omega) h6 hG
          · rw [if_neg a2]
            refine ⟨?_, act_can (by omega) ha⟩
            by_cases hlt : i + 1 < n
            · exact Or.inl hlt
            · right
              refine Classical.byContradiction (fun hY => ?_)
              refine shorter (by omega) (hS00 (by omega)) ?_
              rw [hS1' (by omega), hS1]
              unfold actF
              rw [if_neg a0, if_neg a1, if_neg a2]
              unfold daF
              have hc := act_can (by omega) ha
              rw [can_iff] at hc
              have hy0 := (hG.2.2.2.2.2.2.2 (a - 3) hc.1).2.2.2.1.1
              refine da_home h6 hG (fun e => hY ?_) 99 (100 + 2000 * i) _ _ S hBs (by omega)
              rw [of_cl hy0, e]
              exact (hm_6 hG).2.symm
    · rw [if_neg hz] at b3
      cases b3
