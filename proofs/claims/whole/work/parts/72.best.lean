/-! ROWS: prefixes; the best row is left out by no rule -/
theorem dg_pre {K j k y x i : Nat} (h : y / K ^ (j - k) = x) (hk : k ≤ j) (hi : i < k) : dg K j y i = dg K k x i := by
  unfold dg
  rw [← h, Nat.div_div_eq_div_mul, ← Nat.pow_add, show j - k + (k - 1 - i) = j - 1 - i by omega]
theorem runN_pre {G : Gv} {K j k y x : Nat} (h : y / K ^ (j - k) = x) (hk : k ≤ j) : ∀ i, i ≤ k → runN G K j y i = runN G K k x i
  | 0, _ => rfl
  | i + 1, hi => by
    show (match runN G K j y i with | some S => if (actF G (dg K j y i) S).1 = true then some (actF G (dg K j y i) S).2 else none | none => none) = _
    rw [runN_pre h hk i (by omega), dg_pre h hk (by omega)]
    rfl
theorem dg_last {K k x a : Nat} (ha : a < K) : dg K (k + 1) (x * K + a) k = a := by
  unfold dg
  rw [show k + 1 - 1 - k = 0 by omega, Nat.pow_zero, Nat.div_one, Nat.add_comm, Nat.add_mul_mod_self_right, Nat.mod_eq_of_lt ha]
theorem pre_div {K x a : Nat} (ha : a < K) : (x * K + a) / K = x := by
  rw [Nat.add_comm, Nat.add_mul_div_right _ _ (by omega), Nat.div_eq_of_lt ha, Nat.zero_add]
theorem pre_up {K j k y x a : Nat} (h : y / K ^ (j - (k + 1)) = x * K + a) (ha : a < K) (hk : k + 1 ≤ j) : y / K ^ (j - k) = x := by
  rw [show j - k = j - (k + 1) + 1 by omega, Nat.pow_succ, ← Nat.div_div_eq_div_mul, h, pre_div ha]
theorem pre_dn {K j k y x : Nat} (hK : 0 < K) (h : y / K ^ (j - k) = x) (hk : k + 1 ≤ j) : y / K ^ (j - (k + 1)) = x * K + dg K j y k := by
  have e : y / K ^ (j - (k + 1)) / K = x := by
    rw [Nat.div_div_eq_div_mul, ← Nat.pow_succ, show (j - (k + 1)).succ = j - k by omega]
    exact h
  have h2 := Nat.div_add_mod (y / K ^ (j - (k + 1))) K
  have h3 : dg K j y k = y / K ^ (j - (k + 1)) % K := by
    unfold dg
    rw [show j - 1 - k = j - (k + 1) by omega]
  rw [e, Nat.mul_comm] at h2
  rw [h3]
  omega
theorem pre_lt {K j k y x : Nat} (hK : 0 < K) (h : y / K ^ (j - k) = x) (hk : k ≤ j) (hx : x < K ^ k) : y < K ^ j := by
  have h1 : y < (x + 1) * K ^ (j - k) := by
    have hp : 0 < K ^ (j - k) := Nat.pow_pos hK
    rw [← h]
    exact (Nat.div_lt_iff_lt_mul hp).mp (Nat.lt_succ_self _)
  have h2 : (x + 1) * K ^ (j - k) ≤ K ^ k * K ^ (j - k) := Nat.mul_le_mul_right _ hx
  rw [← Nat.pow_add, show k + (j - k) = j by omega] at h2
  omega
/-- an act that the class tries -/
def help (G : Gv) (n i a : Nat) (S : Sv) : Prop :=
  if a = 0 then (S 0 6).toInt + 1 ≤ (n : Int) - i - 1 else if a = 1 then 0 < (S 0 6).toInt else (S 0 6).toInt ≤ (n : Int) - i - 1 ∧ (if a = 2 then i + 1 < n else (i + 1 < n ∨ G (72 + 8 * (a - 3) + 3) = G 70) ∧ canF G (a - 3) S = true)
def BE (v : Int32) (s x : Nat) (v' : Int32) (s' x' : Nat) : Prop := v'.toInt < v.toInt ∨ (v' = v ∧ (s < s' ∨ (s = s' ∧ x ≤ x')))
theorem BE_rfl {v : Int32} {s x : Nat} : BE v s x v s x := Or.inr ⟨rfl, Or.inr ⟨rfl, Nat.le_refl _⟩⟩
theorem BE_trans {v v' v2 : Int32} {s x s' x' s2 x2 : Nat} (h : BE v s x v' s' x') (h2 : BE v' s' x' v2 s2 x2) : BE v s x v2 s2 x2 := by
  unfold BE at *
  rcases h with h | ⟨rfl, h⟩
  · rcases h2 with h2 | ⟨rfl, h2⟩
    · exact Or.inl (by omega)
    · exact Or.inl h
  · rcases h2 with h2 | ⟨rfl, h2⟩
    · exact Or.inl h2
    · exact Or.inr ⟨rfl, by omega⟩
theorem BestU_ex {G : Gv} {K : Nat} (s : Nat) (h : ∃ v s1 x1, BestU G K s 0 v s1 x1) : ∀ x, x ≤ K ^ s → ∃ v s1 x1, BestU G K s x v s1 x1
  | 0, _ => h
  | x + 1, hx => by
    obtain ⟨v, s1, x1, hU⟩ := BestU_ex s h x (by omega)
    cases hv : vN G K s x with
    | none => exact ⟨v, s1, x1, BestU_skip hU (fun w hw => by rw [hv] at hw; cases hw)⟩
    | some w =>
      by_cases y : w.toInt ≤ v.toInt
      · exact ⟨v, s1, x1, BestU_skip hU (fun w' hw => by rw [hv] at hw; cases hw; exact y)⟩
      · exact ⟨w, s, x, BestU_new hU (by omega) hv (by omega)⟩
theorem v00 {G : Gv} {K : Nat} : vN G K 0 0 = some (S00 G 1 (G 70).toNatClampNeg) := by
  show (if S00 G 0 6 = 0 then some (S00 G 1 (G 70).toNatClampNeg) else none) = _
  have e0 : S00 G 0 6 = 0 := by unfold S00; rw [dep_at]; rfl
  rw [if_pos e0]
theorem BestN_ex (G : Gv) (K : Nat) : ∀ n, ∃ v s1 x1, BestU G K (n + 1) 0 v s1 x1
  | 0 => by
    refine ⟨_, 0, 0, by omega, by rw [Nat.pow_zero]; omega, v00, fun s' x' v' hs hx hv' => ?_⟩
    have e1 : s' = 0 := by omega
    subst e1
    rw [Nat.pow_zero] at hx
    have e2 : x' = 0 := by omega
    subst e2
    rw [v00] at hv'
    cases hv'
    exact Or.inr ⟨rfl, by omega⟩
  | n + 1 => by
    obtain ⟨v, s1, x1, h⟩ := BestU_ex (n + 1) (BestN_ex G K n) (K ^ (n + 1)) (Nat.le_refl _)
    exact ⟨v, s1, x1, BestU_next h⟩
