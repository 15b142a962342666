/-! THE CLASS SEEKS: what it keeps -/
theorem act_keep {G : Gv} {a b k : Nat} {S : Sv} (h : 6 ≤ b) : (actF G a S).2 b k = S b k := by
  unfold actF
  split
  · show goUpF G S b k = _
    unfold goUpF
    split
    · rw [arr_keep h, pass_keep (by omega) (by omega) (by omega) (by omega)]
    · rw [xu_06 (by omega)]
  · split
    · show goDownF G S b k = _
      unfold goDownF
      split
      · rw [arr_keep h, pass_keep (by omega) (by omega) (by omega) (by omega)]
      · rw [xu_06 (by omega)]
    · split
      · show passF G 1 S b k = _
        rw [pass_keep (by omega) (by omega) (by omega) (by omega)]
      · exact da_keep (by omega) (by omega) (by omega) (by omega) _ _ _ _
theorem copy_keep {b k : Nat} {T S : Sv} (h : 6 ≤ b) : copyF T S b k = S b k := by
  unfold copyF cpF
  simp (disch := omega) only [xu_hit, xu_miss, ite_n, ite_p, if_true, if_false, and_true, true_and, and_false, false_and, and_self, Nat.reduceEqDiff]
theorem copy_eqv (T S : Sv) : Eqv (copyF T S) T := by
  unfold copyF cpF
  refine ⟨fun k h1 h2 => ?_, fun k h => ?_, fun k h => ?_, fun a k h1 h2 h3 => ?_⟩
  · match k, h1, h2 with
    | 6, _, _ => rfl
    | 7, _, _ => rfl
    | 8, _, _ => rfl
    | 9, _, _ => rfl
  · simp (disch := omega) only [xu_hit, xu_miss, ite_n, ite_p, if_true, if_false, and_true, true_and, and_false, false_and, and_self, Nat.reduceEqDiff]
  · simp (disch := omega) only [xu_hit, xu_miss, ite_n, ite_p, if_true, if_false, and_true, true_and, and_false, false_and, and_self, Nat.reduceEqDiff]
  · match a, h1, h2 with
    | 3, _, _ => simp (disch := omega) only [xu_hit, xu_miss, ite_n, ite_p, if_true, if_false, and_true, true_and, and_false, false_and, and_self, Nat.reduceEqDiff]
    | 4, _, _ => simp (disch := omega) only [xu_hit, xu_miss, ite_n, ite_p, if_true, if_false, and_true, true_and, and_false, false_and, and_self, Nat.reduceEqDiff]
    | 5, _, _ => simp (disch := omega) only [xu_hit, xu_miss, ite_n, ite_p, if_true, if_false, and_true, true_and, and_false, false_and, and_self, Nat.reduceEqDiff]
theorem vN_none {G : Gv} {K s x i : Nat} (h : runN G K s x i = none) (hi : i ≤ s) : vN G K s x = none := by
  have := runN_none h (s - i)
  rw [show i + (s - i) = s by omega] at this
  unfold vN
  rw [this]
/-- what the class holds as the best so far -/
def AccI (G : Gv) (K : Nat) (I : Iv) (v : Int32) (s1 x1 : Nat) : Prop := I 117 6 = v ∧ (v = -1 ∨ (I 117 5 = o s1 ∧ s1 ≤ 4 ∧ (∀ i, i < s1 → I 119 i = o (dg K s1 x1 i)) ∧ x1 < K ^ s1 ∧ vN G K s1 x1 = some v))
/-- it comes before the rows below (k, x) -/
def Bef (K k x : Nat) (v : Int32) (s1 x1 : Nat) : Prop := v = -1 ∨ (k ≤ s1 → x1 / K ^ (s1 - k) < x)
/-- no row below (k, x) whose act number k is less than a, and that `help` lets through, is better -/
def Cov (G : Gv) (K n k x a : Nat) (v : Int32) (s1 x1 : Nat) : Prop := ∀ j y w, k ≤ j → j ≤ n → y / K ^ (j - k) = x → (k < j → dg K j y k < a) → vN G K j y = some w → (∀ i S, k ≤ i → i < j → runN G K j y i = some S → help G n i (dg K j y i) S) → BE v s1 x1 w j y
/-- the new best is the old one, or lies below (k, x) -/
def New (K n k x : Nat) (v : Int32) (s1 x1 : Nat) (v' : Int32) (s' x' : Nat) : Prop := (v' = v ∧ s' = s1 ∧ x' = x1) ∨ (k ≤ s' ∧ s' ≤ n ∧ x' / K ^ (s' - k) = x)
/-- what a call at stage k leaves as it was -/
def FrZ (k : Nat) (I I' : Iv) : Prop := (∀ a, ¬ a = 117 → ¬ a = 118 → ¬ a = 119 → a < 127 + 6 * k ∨ 151 ≤ a → I' a = I a) ∧ (∀ j, j < 5 → I' 117 j = I 117 j) ∧ (∀ i, i < k → I' 118 i = I 118 i)
theorem FrZ_rfl {k : Nat} {I : Iv} : FrZ k I I := ⟨fun _ _ _ _ _ => rfl, fun _ _ => rfl, fun _ _ => rfl⟩
theorem FrZ_trans {k : Nat} {I I' I2 : Iv} (h : FrZ k I I') (h2 : FrZ k I' I2) : FrZ k I I2 := ⟨fun a a1 a2 a3 a4 => (h2.1 a a1 a2 a3 a4).trans (h.1 a a1 a2 a3 a4), fun j hj => (h2.2.1 j hj).trans (h.2.1 j hj), fun i hi => (h2.2.2 i hi).trans (h.2.2 i hi)⟩
theorem FrZ_up {k : Nat} {I I' : Iv} (h : FrZ (k + 1) I I') : FrZ k I I' := ⟨fun a a1 a2 a3 a4 => h.1 a a1 a2 a3 (by omega), h.2.1, fun i hi => h.2.2 i (by omega)⟩
theorem Stg_fr {k : Nat} {I I' : Iv} {S : Sv} (h : Stg I k S) (hf : FrZ k I I') : Stg I' k S := by
  have e : ∀ a j, a < 6 → I' (121 + 6 * k + a) j = I (121 + 6 * k + a) j := fun a j ha => congrFun (hf.1 _ (by omega) (by omega) (by omega) (by omega)) j
  exact ⟨fun j h1 h2 => (e 0 j (by omega)).trans (h.1 j h1 h2), fun j h1 => (e 1 j (by omega)).trans (h.2.1 j h1), fun j h1 => (e 2 j (by omega)).trans (h.2.2.1 j h1), fun a j h1 h2 h3 => (e a j (by omega)).trans (h.2.2.2 a j h1 h2 h3)⟩
/-- the class weighs the row (k, x) -/
theorem c_weighG {E : XE} {d : Nat} {I : Iv} {J : Jv} {Q : XQt} {G : Gv} {n k h x s1 x1 : Nat} {S : Sv} {v : Int32} (hk : k ≤ n) (hn : n ≤ 4) (hS : Stg I k S) (hF : RF G I) (hG : OkS G) (hg : 0 < gl G) (hh : G 70 = o h) (hht : h < gt G) (hr : runN G (3 + gc G) k x k = some S) (hx : x < (3 + gc G) ^ k) (hac : ∀ i, i < k → I 118 i = o (dg (3 + gc G) k x i)) (hA : AccI G (3 + gc G) I v s1 x1) (hB : Bef (3 + gc G) k x v s1 x1)
    (hQ : ∀ v' s' x' I', AccI G (3 + gc G) I' v' s' x' → Bef (3 + gc G) (k + 1) (x * (3 + gc G)) v' s' x' → Cov G (3 + gc G) n k x 0 v' s' x' → New (3 + gc G) n k x v s1 x1 v' s' x' → BE v' s' x' v s1 x1 → FrZ k I I' → Q none I' J) : XM E (d + 1) 20 [.ref 117, .int (o k)] I J Q := by
  have g2 := hG.2.1.2
  obtain ⟨-, -, hb⟩ := runN_inv hG hg k S (by omega) hr
  have hp := (hb.1 h (by omega)).1
  have hK : 0 < 3 + gc G := by omega
  generalize 3 + gc G = K at *
  obtain ⟨a1, a2⟩ := hA
  have hv0 : vN G K k x = if S 0 6 = 0 then some (S 1 h) else none := by
    unfold vN
    rw [hr, hh, o_cl (by omega)]
  have hx0 : x / K ^ (k - k) = x := by rw [Nat.sub_self, Nat.pow_zero, Nat.div_one]
  have cov : ∀ v' s' x', (∀ w, vN G K k x = some w → BE v' s' x' w k x) → Cov G K n k x 0 v' s' x' := by
    intro v' s' x' hc j y w h1 h2 h3 h4 h5 _
    have e : j = k := by
      rcases Nat.lt_or_ge k j with q | q
      · exact absurd (h4 q) (by omega)
      · omega
    subst e
    have e2 : y = x := by rw [Nat.sub_self, Nat.pow_zero, Nat.div_one] at h3; exact h3
    subst e2
    exact hc w h5
  have bk : Bef K (k + 1) (x * K) v s1 x1 := by
    rcases hB with q | q
    · exact Or.inl q
    · refine Or.inr (fun hle => ?_)
      have q1 := q (by omega)
      rw [show s1 - k = s1 - (k + 1) + 1 by omega, Nat.pow_succ, ← Nat.div_div_eq_div_mul, Nat.div_lt_iff_lt_mul hK] at q1
      exact q1
  refine c_weigh (n1 := s1) (v := v) (by omega) hS hF hh (by omega) a1 (fun q => ?_) (fun q => ?_) (fun q0 q1 I' e1 e2 e3 e4 e5 => ?_)
  · rcases a2 with e | e
    · rw [e] at q
      rw [← q] at hp
      exact absurd hp (by decide)
    · exact ⟨e.1, by omega⟩
  · refine hQ v s1 x1 I ⟨a1, a2⟩ bk (cov _ _ _ (fun w hw => ?_)) (Or.inl ⟨rfl, rfl, rfl⟩) BE_rfl FrZ_rfl
    rw [hv0] at hw
    by_cases z : S 0 6 = 0
    · rw [if_pos z] at hw
      cases hw
      by_cases y : (S 1 h).toInt < v.toInt
      · exact Or.inl y
      · have y1 : ¬ v.toInt < (S 1 h).toInt := fun u => q ⟨z, Or.inl u⟩
        have y2 : v = S 1 h := by
          apply Int32.toInt_inj.mp
          omega
        have y3 : ¬ k < s1 := fun u => q ⟨z, Or.inr ⟨y2, u⟩⟩
        refine Or.inr ⟨y2.symm, ?_⟩
        rcases hB with e | e
        · rw [← y2, e] at hp
          exact absurd hp (by decide)
        · by_cases u : s1 = k
          · subst u
            have := e (Nat.le_refl _)
            rw [Nat.sub_self, Nat.pow_zero, Nat.div_one] at this
            omega
          · exact Or.inl (by omega)
    · rw [if_neg z] at hw
      cases hw
  · refine hQ (S 1 h) k x I' ⟨e1, Or.inr ⟨e2, by omega, fun i hi => (e3 i hi).trans (hac i hi), hx, by rw [hv0, if_pos q0]⟩⟩ (Or.inr (fun q => by omega)) (cov _ _ _ (fun w hw => ?_)) (Or.inr ⟨Nat.le_refl _, hk, hx0⟩) ?_ ⟨fun a b1 b2 b3 b4 => e4 a b1 b3, e5, fun i hi => congrFun (e4 118 (by omega) (by omega)) i⟩
    · rw [hv0, if_pos q0] at hw
      cases hw
      exact BE_rfl
    · rcases q1 with q1 | ⟨q1, q2⟩
      · exact Or.inl q1
      · exact Or.inr ⟨q1, Or.inl q2⟩
