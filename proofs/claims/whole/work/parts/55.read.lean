/-! TEXTS: the class reads them whole -/
theorem nxW_4 {w : Nat} : (nxW w = 4) = ¬ (w = 0 ∨ w = 1 ∨ w = 2 ∨ w = 3) := by
  unfold nxW
  by_cases h0 : w = 0
  · subst h0; decide
  · by_cases h1 : w = 1
    · subst h1; decide
    · by_cases h2 : w = 2
      · subst h2; decide
      · by_cases h3 : w = 3
        · subst h3; decide
        · rw [if_neg h0, if_neg h1, if_neg h2, if_neg h3]
          simp [h0, h1, h2, h3]
theorem wd_len {B : Nat → Int32} {p e : Nat} (h : wdF B p e = 0 ∨ wdF B p e = 1 ∨ wdF B p e = 2 ∨ wdF B p e = 3) : p + 2 ≤ e := by
  have key : ∀ w, w < 4 → splF B p e w = true → p + 2 ≤ e := by
    intro w hw hs
    unfold splF at hs
    rw [decide_eq_true_eq] at hs
    have h2 : 2 ≤ lenW w := by
      match w, hw with
      | 0, _ => decide
      | 1, _ => decide
      | 2, _ => decide
      | 3, _ => decide
    omega
  unfold wdF at h
  split at h
  · next z => exact key 0 (by omega) z
  · split at h
    · next z => exact key 1 (by omega) z
    · split at h
      · next z => exact key 2 (by omega) z
      · split at h
        · next z => exact key 3 (by omega) z
        · omega
section
variable {E : XE} {d : Nat} {I : Iv} {J : Jv} {Q : XQt} {a n s : Nat} {B : Nat → Int32}
/-- how the loop goes on behind a step -/
def GoOn (E : XE) (d : Nat) (I : Iv) (J : Jv) (Q : XQt) (a n s : Nat) (B : Nat → Int32) (f z p : Nat) : Prop := ∀ (p' τ' : Nat) (U2 : Sv) (w : Value), p < p' → p' ≤ n → 3 * z ≤ p' → τ' ≤ p' → U2 0 3 = o z → (∀ r U', GdP (rdl B n f p') z U2 U' r → Q (some (.int r)) (wr s U' I) J) → X E (d + 7) 22 16 [.ref s, .ref a, .int 0, .int (o p'), .int (o τ'), w] [] (wr s U2 I) J Q
theorem GdP_fault {z q : Nat} {U U' : Sv} (h4 : ∀ a, 4 ≤ a → U' a = U a) (h3 : ∀ a k, 1 ≤ a → a ≤ 3 → k < z → U' a k = U a k) : GdP (some q, []) z U U' (o q) := ⟨rfl, h4, h3, fun h => by cases h⟩
theorem r_E {p τ z f : Nat} {k c t : Int32} {w : Value} {U U0 : Sv} (hp : p ≤ n) (hτ : τ ≤ p) (hz : 3 * z + 2 ≤ p) (hU : U 0 3 = o z) (hm : MatE U z (k, c, t)) (h4 : ∀ a, 4 ≤ a → U a = U0 a) (h3 : ∀ a k, 1 ≤ a → a ≤ 3 → k < z → U a k = U0 a k) (hs : SY s) (has : a + 1 < s) (h : TX a n B I) (hR : GoOn E d I J Q a n s B f (z + 1) p) (hQ : ∀ r U', GdP (cns B n f (stpE B n p k c t)) z U0 U' r → Q (some (.int r)) (wr s U' I) J) : X E (d + 7) 22 16 [.ref s, .ref a, .int 3, .int (o p), .int (o τ), w] [] (wr s U I) J Q := by
  have h6 := h.2.2.2.2.2.1
  by_cases hpn : p < n
  · have hl := tkE_le (B := B) hpn
    have hk := skp_le (B := B) (n := n) (p := tkE B n p) hl.2
    rw [r_it hpn hτ (fun Q => b_3 (E := E) (d := d) (I := I) (J := J) (Q := Q) hl.1 hl.2 (by omega) hU hs has h) hs has h]
    by_cases z4 : splF B p (tkE B n p) 4 = true
    · rw [if_pos z4, if_neg (by decide)]
      have e1 : stpE B n p k c t = (skp B n (tkE B n p), some (k, c, t)) := if_pos ⟨hpn, z4⟩
      rw [e1] at hQ
      refine hR _ _ _ _ (by omega) hk.2 (by omega) (by omega) xu_self (fun r U' hg => hQ r U' ?_)
      obtain ⟨g1, g2, g3, g4⟩ := hg
      refine ⟨g1, fun a ha => (g2 a ha).trans ((funext fun k => xu_06 (by omega)).trans (h4 a ha)), fun a k h1 h2 hk => (g3 a k h1 h2 (by omega)).trans ((xu_06 (by omega)).trans (h3 a k h1 h2 hk)), fun hn => ?_⟩
      obtain ⟨g5, g6⟩ := g4 hn
      refine ⟨?_, ?_, g6⟩
      · rw [g5]
        congr 1
        show z + 1 + (rdl B n f (skp B n (tkE B n p))).2.length = z + ((rdl B n f (skp B n (tkE B n p))).2.length + 1)
        omega
      · obtain ⟨m1, m2, m3⟩ := hm
        refine ⟨?_, fun q => ?_, fun q => ?_⟩
        · rw [g3 1 z (by omega) (by omega) (by omega), xu_06 (by omega)]; exact m1
        · rw [g3 2 z (by omega) (by omega) (by omega), xu_06 (by omega)]; exact m2 q
        · rw [g3 3 z (by omega) (by omega) (by omega), xu_06 (by omega)]; exact m3 q
    · rw [if_neg z4, if_pos rfl]
      have e1 : stpE B n p k c t = (p, none) := if_neg (fun q => z4 q.2)
      rw [e1] at hQ
      exact hQ _ _ (GdP_fault (fun a ha => (funext fun k => xu_06 (by omega)).trans (h4 a ha)) (fun a k h1 h2 hk => (xu_06 (by omega)).trans (h3 a k h1 h2 hk)))
  · have e : p = n := by omega
    subst e
    rw [r_end hτ hs has h, if_neg (by decide)]
    have e1 : stpE B p p k c t = (p, none) := if_neg (fun q => hpn q.1)
    rw [e1] at hQ
    exact hQ _ _ (GdP_fault h4 h3)
theorem r_T {p τ z f : Nat} {k c : Int32} {w : Value} {U U0 : Sv} (hp : p ≤ n) (hτ : τ ≤ p) (hz : 3 * z + 2 ≤ p) (hU : U 0 3 = o z) (hk1 : U 1 z = k) (hk2 : k = 3 → U 2 z = c) (h4 : ∀ a, 4 ≤ a → U a = U0 a) (h3 : ∀ a k, 1 ≤ a → a ≤ 3 → k < z → U a k = U0 a k) (hs : SY s) (has : a + 1 < s) (h : TX a n B I) (hR : GoOn E d I J Q a n s B f (z + 1) p) (hQ : ∀ r U', GdP (cns B n f (stpT B n p k c)) z U0 U' r → Q (some (.int r)) (wr s U' I) J) : X E (d + 7) 22 16 [.ref s, .ref a, .int 2, .int (o p), .int (o τ), w] [] (wr s U I) J Q := by
  have h6 := h.2.2.2.2.2.1
  by_cases hpn : p < n
  · have hl := tkE_le (B := B) hpn
    have hk := skp_le (B := B) (n := n) (p := tkE B n p) hl.2
    rw [r_it hpn hτ (fun Q => b_2 (E := E) (d := d) (I := I) (J := J) (Q := Q) hl.1 hl.2 (by omega) hU hs has h) hs has h]
    by_cases z4 : 1 ≤ (numF B p (tkE B n p)).toInt
    · rw [if_pos z4, if_neg (by decide)]
      have e1 : stpT B n p k c = stpE B n (skp B n (tkE B n p)) k c (numF B p (tkE B n p)) := if_pos ⟨hpn, z4⟩
      rw [e1] at hQ
      exact r_E hk.2 (by omega) (by omega) (by rw [xu_06 (by omega)]; exact hU) ⟨by rw [xu_06 (by omega)]; exact hk1, fun q => by rw [xu_06 (by omega)]; exact hk2 q, fun _ => xu_self⟩ (fun a ha => (funext fun k => xu_06 (by omega)).trans (h4 a ha)) (fun a k h1 h2 hk => (xu_06 (by omega)).trans (h3 a k h1 h2 hk)) hs has h (fun p' τ' U2 w' q1 => hR p' τ' U2 w' (by omega)) hQ
    · rw [if_neg z4, if_pos rfl]
      have e1 : stpT B n p k c = (p, none) := if_neg (fun q => z4 q.2)
      rw [e1] at hQ
      exact hQ _ _ (GdP_fault (fun a ha => (funext fun k => xu_06 (by omega)).trans (h4 a ha)) (fun a k h1 h2 hk => (xu_06 (by omega)).trans (h3 a k h1 h2 hk)))
  · have e : p = n := by omega
    subst e
    rw [r_end hτ hs has h, if_neg (by decide)]
    have e1 : stpT B p p k c = (p, none) := if_neg (fun q => hpn q.1)
    rw [e1] at hQ
    exact hQ _ _ (GdP_fault h4 h3)
theorem r_C {p τ z f : Nat} {w : Value} {U U0 : Sv} (hp : p ≤ n) (hτ : τ ≤ p) (hz : 3 * z + 2 ≤ p) (hU : U 0 3 = o z) (hk1 : U 1 z = 3) (h4 : ∀ a, 4 ≤ a → U a = U0 a) (h3 : ∀ a k, 1 ≤ a → a ≤ 3 → k < z → U a k = U0 a k) (hs : SY s) (has : a + 1 < s) (h : TX a n B I) (hR : GoOn E d I J Q a n s B f (z + 1) p) (hQ : ∀ r U', GdP (cns B n f (stpC B n p)) z U0 U' r → Q (some (.int r)) (wr s U' I) J) : X E (d + 7) 22 16 [.ref s, .ref a, .int 1, .int (o p), .int (o τ), w] [] (wr s U I) J Q := by
  have h6 := h.2.2.2.2.2.1
  by_cases hpn : p < n
  · have hl := tkE_le (B := B) hpn
    have hk := skp_le (B := B) (n := n) (p := tkE B n p) hl.2
    rw [r_it hpn hτ (fun Q => b_1 (E := E) (d := d) (I := I) (J := J) (Q := Q) hl.1 hl.2 (by omega) hU hs has h) hs has h]
    by_cases z4 : 0 ≤ (numF B p (tkE B n p)).toInt
    · rw [if_pos z4, if_neg (by decide)]
      have e1 : stpC B n p = stpT B n (skp B n (tkE B n p)) 3 (numF B p (tkE B n p)) := if_pos ⟨hpn, z4⟩
      rw [e1] at hQ
      exact r_T hk.2 (by omega) (by omega) (by rw [xu_06 (by omega)]; exact hU) (by rw [xu_06 (by omega)]; exact hk1) (fun _ => xu_self) (fun a ha => (funext fun k => xu_06 (by omega)).trans (h4 a ha)) (fun a k h1 h2 hk => (xu_06 (by omega)).trans (h3 a k h1 h2 hk)) hs has h (fun p' τ' U2 w' q1 => hR p' τ' U2 w' (by omega)) hQ
    · rw [if_neg z4, if_pos rfl]
      have e1 : stpC B n p = (p, none) := if_neg (fun q => z4 q.2)
      rw [e1] at hQ
      exact hQ _ _ (GdP_fault (fun a ha => (funext fun k => xu_06 (by omega)).trans (h4 a ha)) (fun a k h1 h2 hk => (xu_06 (by omega)).trans (h3 a k h1 h2 hk)))
  · have e : p = n := by omega
    subst e
    rw [r_end hτ hs has h, if_neg (by decide)]
    have e1 : stpC B p p = (p, none) := if_neg (fun q => hpn q.1)
    rw [e1] at hQ
    exact hQ _ _ (GdP_fault h4 h3)
theorem r_all (hs : SY s) (has : a + 1 < s) (h : TX a n B I) : ∀ (f p τ z : Nat) (U : Sv) (w : Value), p ≤ n → n - p ≤ f → τ ≤ p → 3 * z ≤ p → U 0 3 = o z → (∀ r U', GdP (rdl B n f p) z U U' r → Q (some (.int r)) (wr s U' I) J) → X E (d + 7) 22 16 [.ref s, .ref a, .int 0, .int (o p), .int (o τ), w] [] (wr s U I) J Q
  | 0, p, τ, z, U, w, hp, hf, hτ, hz, hU, hQ => by
    have e : p = n := by omega
    subst e
    rw [r_end hτ hs has h, if_pos rfl]
    exact hQ _ _ ⟨rfl, fun _ _ => rfl, fun _ _ _ _ _ => rfl, fun _ => ⟨hU, True.intro⟩⟩
  | f + 1, p, τ, z, U, w, hp, hf, hτ, hz, hU, hQ => by
    have h6 := h.2.2.2.2.2.1
    by_cases hpn : p < n
    · rw [rdl_s B n f p hpn] at hQ
      have hl := tkE_le (B := B) hpn
      have hk := skp_le (B := B) (n := n) (p := tkE B n p) hl.2
      have hR : GoOn E d I J Q a n s B f (z + 1) (tkE B n p) := fun p' τ' U2 w' q1 q2 q3 q4 q5 q6 => r_all hs has h f p' τ' (z + 1) U2 w' q2 (by omega) q4 q3 q5 q6
      rw [r_it hpn hτ (fun Q => b_0 (E := E) (d := d) (I := I) (J := J) (Q := Q) hl.1 hl.2 (by omega) hU hs has h) hs has h]
      have f4 : ∀ x, ∀ a, 4 ≤ a → (xuI U 1 z x) a = U a := fun x a ha => funext fun k => xu_06 (by omega)
      have f3 : ∀ x, ∀ a k, 1 ≤ a → a ≤ 3 → k < z → xuI U 1 z x a k = U a k := fun x a k h1 h2 hk => xu_06 (by omega)
      unfold stpP at hQ
      by_cases w0 : wdF B p (tkE B n p) = 0
      · have hl2 := wd_len (Or.inl w0)
        rw [if_pos w0] at hQ
        rw [w0, if_neg (by decide)]
        exact r_E hk.2 (by omega) (by omega) (by rw [xu_06 (by omega)]; exact hU) ⟨xu_self, fun q => absurd q (by decide), fun q => by rcases q with q | q <;> exact absurd q (by decide)⟩ (f4 _) (f3 _) hs has h (fun p' τ' U2 w' q1 => hR p' τ' U2 w' (by omega)) hQ
      · rw [if_neg w0] at hQ
        by_cases w1 : wdF B p (tkE B n p) = 1
        · have hl2 := wd_len (Or.inr (Or.inl w1))
          rw [if_pos w1] at hQ
          rw [w1, if_neg (by decide)]
          exact r_E hk.2 (by omega) (by omega) (by rw [xu_06 (by omega)]; exact hU) ⟨xu_self, fun q => absurd q (by decide), fun q => by rcases q with q | q <;> exact absurd q (by decide)⟩ (f4 _) (f3 _) hs has h (fun p' τ' U2 w' q1 => hR p' τ' U2 w' (by omega)) hQ
        · rw [if_neg w1] at hQ
          by_cases w2 : wdF B p (tkE B n p) = 2
          · have hl2 := wd_len (Or.inr (Or.inr (Or.inl w2)))
            rw [if_pos w2] at hQ
            rw [w2, if_neg (by decide)]
            exact r_T hk.2 (by omega) (by omega) (by rw [xu_06 (by omega)]; exact hU) xu_self (fun q => absurd q (by decide)) (f4 _) (f3 _) hs has h (fun p' τ' U2 w' q1 => hR p' τ' U2 w' (by omega)) hQ
          · rw [if_neg w2] at hQ
            by_cases w3 : wdF B p (tkE B n p) = 3
            · have hl2 := wd_len (Or.inr (Or.inr (Or.inr w3)))
              rw [if_pos w3] at hQ
              rw [w3, if_neg (by decide)]
              exact r_C hk.2 (by omega) (by omega) (by rw [xu_06 (by omega)]; exact hU) xu_self (f4 _) (f3 _) hs has h (fun p' τ' U2 w' q1 => hR p' τ' U2 w' (by omega)) hQ
            · rw [if_neg w3] at hQ
              have hw : nxW (wdF B p (tkE B n p)) = 4 := by rw [nxW_4]; omega
              rw [hw, if_pos rfl]
              exact hQ _ _ (GdP_fault (f4 _) (f3 _))
    · have e : p = n := by omega
      subst e
      have e1 : rdl B p (f + 1) p = (none, []) := by rw [rdl, if_neg hpn]
      rw [e1] at hQ
      rw [r_end hτ hs has h, if_pos rfl]
      exact hQ _ _ ⟨rfl, fun _ _ => rfl, fun _ _ _ _ _ => rfl, fun _ => ⟨hU, True.intro⟩⟩
theorem c_read {U : Sv} (hs : SY s) (has : a + 1 < s) (h : TX a n B I) (hQ : ∀ r U', GdP (rdl B n n (skp B n 0)) 0 U U' r → Q (some (.int r)) (wr s U' I) J) : XM E (d + 7) 22 [.ref s, .ref a] (wr s U I) J Q := by
  have h6 := h.2.2.2.2.2.1
  have hbl := fun E d J Q U => t_blanks (E := E) (d := d) (J := J) (Q := Q) (p := 0) (by omega) (TX_wr (U := U) h has)
  have hk := skp_le (B := B) (n := n) (p := 0) (by omega)
  rw [show o 0 = 0 from rfl] at hbl
  have s0 := hs.1
  have t0 := h.1
  simp (disch := first | omega | (simp only [nar_0, nar_1, nar_b, and_self, Nat.reduceLeDiff, Nat.reduceLT, Int32.reduceToInt]; done) | fail) only [mSteps_read, eSteps_read_0, eSteps_read_1, eSteps_read_2, eSteps_read_5, eSteps_read_6, eSteps_read_7, eSteps_read_8, eSteps_read_9, eSteps_read_12, eSteps_read_13, eSteps_read_14, eSteps_read_18, eSteps_read_21, eSteps_read_24, eSteps_read_25, eSteps_read_26, eSteps_read_29, eSteps_read_32, eSteps_read_33, eSteps_read_34, eSteps_read_37, eSteps_read_39, eSteps_read_40, eSteps_read_41, eSteps_read_42, eSteps_read_44, eSteps_read_45, eSteps_read_48, eSteps_read_49, eSteps_read_50, eSteps_read_51, eSteps_read_54, eSteps_read_55, eSteps_read_56, eSteps_read_57, eSteps_read_59, eSteps_read_62, eSteps_read_63, eSteps_read_66, eSteps_read_69, eSteps_read_70, eSteps_read_73, eSteps_read_74, eSteps_read_77, eSteps_read_78, eSteps_read_81, va_rf_some, xl_0, xl_1, xl_2, xl_3, xl_4, xl_5, xl_6, xl_7, xl_8, xl_458, xl_459, xl_460, and_false, false_and, tl_some, tl_none, xkl_int, xkl_ref, xkl_dm, xkl_long, true_and, and_true, o_cl, xin_o, lt_ti, le_ti, ito_o, t32_64, o_add1, oz, op0, op1, op2, op3, op4, op5, op6, op7, o8m, o3m, o161m, o461m, o48p, o66p, o72p, o136p, Int32.reduceToInt, Int32.reduceToNatClampNeg, i_10, i_01, le_om1, Int64.reduceToInt, ↓reduceIte, ite_n, ite_p, xu_hit, xu_miss, op11, not_true_eq_false, not_false_eq_true, decide_true, decide_false, bIt0, bIf0, and_self, Int.reduceLE, Int.reduceLT, Int32.reduceAdd, Nat.reduceLeDiff, Nat.reduceLT, Nat.reduceAdd, Nat.reduceMul, Nat.reduceEqDiff, Nat.add_zero, Nat.zero_add, s0, t0, xu_wr0, hbl]
  exact r_all hs has h n (skp B n 0) 0 0 _ xdm hk.2 (by omega) (by omega) (by omega) xu_self (fun r U' hg => hQ r U' (by
    obtain ⟨g1, g2, g3, g4⟩ := hg
    exact ⟨g1, fun a ha => (g2 a ha).trans (funext fun k => xu_06 (by omega)), fun a k _ _ hk => by omega, g4⟩))
end
