/-! VOYAGES OF LISTS OF STEPS -/
def followL (G : Gv) : List (Int32 × Int32 × Int32) → Sv → Sv
  | [], S => S
  | s :: l, S => if S 0 8 = 0 then followL G l (if stepF G s.1 s.2.1 s.2.2 S 0 8 = 0 then xuI (stepF G s.1 s.2.1 s.2.2 S) 0 9 (stepF G s.1 s.2.1 s.2.2 S 0 9 + 1) else stepF G s.1 s.2.1 s.2.2 S) else S
def LsOk (l : List (Int32 × Int32 × Int32)) : Prop := ∀ s, s ∈ l → StpOk s.1 s.2.1 s.2.2
theorem numF_o {B : Nat → Int32} {n q : Nat} (hq : q < n) (h : 0 ≤ (numF B q (tkE B n q)).toInt) : ∃ m, numF B q (tkE B n q) = o m ∧ m < 1000 := by
  unfold numF at h ⊢
  split at h
  · next z =>
    split at h
    · next y =>
      rw [if_pos z, if_pos y]
      have h1 := numV_rng z hq y
      obtain ⟨m, hm, hm2, hm3⟩ := of_ti (b := 1000) h1.1 (by omega)
      exact ⟨m, hm, hm2⟩
    · exact absurd h (by decide)
  · exact absurd h (by decide)
theorem stpE_ok {B : Nat → Int32} {n p : Nat} {k c t : Int32} {s : Int32 × Int32 × Int32} (h : (stpE B n p k c t).2 = some s) : s = (k, c, t) := by
  unfold stpE at h
  split at h
  · cases h; rfl
  · cases h
theorem stpT_ok {B : Nat → Int32} {n p : Nat} {k c : Int32} {s : Int32 × Int32 × Int32} (h : (stpT B n p k c).2 = some s) : ∃ m, s = (k, c, o m) ∧ m < 1000 := by
  unfold stpT at h
  split at h
  · next z =>
    obtain ⟨m, hm, hm2⟩ := numF_o (B := B) z.1 (by have := z.2; omega)
    have := stpE_ok h
    rw [hm] at this
    exact ⟨m, this, hm2⟩
  · cases h
theorem stpP_ok {B : Nat → Int32} {n p : Nat} {s : Int32 × Int32 × Int32} (h : (stpP B n p).2 = some s) : StpOk s.1 s.2.1 s.2.2 := by
  unfold stpP at h
  split at h
  · rw [stpE_ok h]; exact Or.inl rfl
  · split at h
    · rw [stpE_ok h]; exact Or.inr (Or.inl rfl)
    · split at h
      · obtain ⟨m, hm, hm2⟩ := stpT_ok h
        rw [hm]
        exact Or.inr (Or.inr (Or.inl ⟨rfl, m, rfl, hm2⟩))
      · split at h
        · unfold stpC at h
          split at h
          · next z =>
            obtain ⟨c, hc, hc2⟩ := numF_o z.1 z.2
            obtain ⟨m, hm, hm2⟩ := stpT_ok h
            rw [hm, hc]
            exact Or.inr (Or.inr (Or.inr ⟨rfl, c, m, rfl, rfl, hc2, hm2⟩))
          · cases h
        · cases h
theorem stpP_le3 {B : Nat → Int32} {n p : Nat} {s : Int32 × Int32 × Int32} (hp : p < n) (h : (stpP B n p).2 = some s) : p + 3 ≤ (stpP B n p).1 := by
  have h1 := tkE_le (B := B) hp
  have h2 := skp_le (B := B) (n := n) (p := tkE B n p) h1.2
  unfold stpP at h ⊢
  split
  · next z =>
    rw [if_pos z] at h
    have := stpE_le h2.2 h
    have := wd_len (Or.inl z)
    omega
  · next z =>
    rw [if_neg z] at h
    split
    · next z =>
      rw [if_pos z] at h
      have := stpE_le h2.2 h
      have := wd_len (Or.inr (Or.inl z))
      omega
    · next z =>
      rw [if_neg z] at h
      split
      · next z =>
        rw [if_pos z] at h
        have := stpT_le h2.2 h
        have := wd_len (Or.inr (Or.inr (Or.inl z)))
        omega
      · next z =>
        rw [if_neg z] at h
        split
        · next z =>
          rw [if_pos z] at h
          have := stpC_le h2.2 h
          have := wd_len (Or.inr (Or.inr (Or.inr z)))
          omega
        · next z =>
          rw [if_neg z] at h
          cases h
theorem rdl_ok {B : Nat → Int32} {n : Nat} : ∀ (f p : Nat), p ≤ n → LsOk (rdl B n f p).2 ∧ 3 * (rdl B n f p).2.length + p ≤ n
  | 0, p, hp => ⟨fun s hs => (by cases hs), by show 3 * 0 + p ≤ n; omega⟩
  | f + 1, p, hp => by
    by_cases hpn : p < n
    · rw [rdl_s _ _ _ _ hpn]
      unfold cns
      cases hx : (stpP B n p).2 with
      | none => exact ⟨fun s hs => (by cases hs), by show 3 * 0 + p ≤ n; omega⟩
      | some s =>
        have h1 := stpP_le hpn hx
        have h2 := stpP_le3 hpn hx
        obtain ⟨i1, i2⟩ := rdl_ok (B := B) (n := n) f _ h1.2
        refine ⟨fun u hu => ?_, ?_⟩
        · rcases List.mem_cons.mp hu with rfl | hu
          · exact stpP_ok hx
          · exact i1 u hu
        · show 3 * ((rdl B n f (stpP B n p).1).2.length + 1) + p ≤ n
          omega
    · rw [rdl, if_neg hpn]
      exact ⟨fun s hs => (by cases hs), by show 3 * 0 + p ≤ n; omega⟩
theorem step_cg {G : Gv} {k c t c' t' : Int32} {S : Sv} (h : StpOk k c t) (h1 : k = 3 → c' = c) (h2 : k = 2 ∨ k = 3 → t' = t) : stepF G k c' t' S = stepF G k c t S := by
  unfold stepF
  by_cases k0 : k = 0
  · rw [if_pos k0, if_pos k0]
  · rw [if_neg k0, if_neg k0]
    by_cases k1 : k = 1
    · rw [if_pos k1, if_pos k1]
    · rw [if_neg k1, if_neg k1]
      by_cases k2 : k = 2
      · rw [if_pos k2, if_pos k2, h2 (Or.inl k2)]
      · rw [if_neg k2, if_neg k2]
        have k3 : k = 3 := by
          rcases h with h | h | ⟨h, -⟩ | ⟨h, -⟩
          · exact absurd h k0
          · exact absurd h k1
          · exact absurd h k2
          · exact h
        rw [h1 k3, h2 (Or.inr k3)]
theorem follow_L {G : Gv} {U : Sv} : ∀ (l : List (Int32 × Int32 × Int32)) (i : Nat) (S : Sv), LsOk l → Mat U i l → followF G (U 1) (U 2) (U 3) l.length i S = followL G l S
  | [], i, S, _, _ => rfl
  | s :: l, i, S, hl, hm => by
    obtain ⟨⟨m1, m2, m3⟩, m4⟩ := hm
    show followF G (U 1) (U 2) (U 3) (l.length + 1) i S = _
    unfold followF followL
    have e : ∀ S, stepF G (U 1 i) (U 2 i) (U 3 i) S = stepF G s.1 s.2.1 s.2.2 S := by
      intro S
      rw [m1]
      exact step_cg (hl s List.mem_cons_self) m2 m3
    rw [e]
    split
    · exact follow_L l (i + 1) _ (fun u hu => hl u (List.mem_cons_of_mem _ hu)) m4
    · rfl
theorem Mat_ok {U : Sv} : ∀ (l : List (Int32 × Int32 × Int32)) (z : Nat), LsOk l → Mat U z l → ∀ i, i < l.length → StpOk (U 1 (z + i)) (U 2 (z + i)) (U 3 (z + i))
  | [], z, _, _, i, hi => by cases hi
  | s :: l, z, hl, hm, i, hi => by
    obtain ⟨⟨m1, m2, m3⟩, m4⟩ := hm
    cases i with
    | zero =>
      rw [Nat.add_zero, m1]
      have h0 := hl s List.mem_cons_self
      rcases h0 with h | h | ⟨h, m, hm, hm2⟩ | ⟨h, q, m, hq, hm, hq2, hm2⟩
      · exact Or.inl h
      · exact Or.inr (Or.inl h)
      · exact Or.inr (Or.inr (Or.inl ⟨h, m, (m3 (Or.inl h)).trans hm, hm2⟩))
      · exact Or.inr (Or.inr (Or.inr ⟨h, q, m, (m2 h).trans hq, (m3 (Or.inr h)).trans hm, hq2, hm2⟩))
    | succ i =>
      have := Mat_ok l (z + 1) (fun u hu => hl u (List.mem_cons_of_mem _ hu)) m4 i (Nat.lt_of_succ_lt_succ hi)
      rw [show z + (i + 1) = z + 1 + i by omega]
      exact this
theorem bs_go {b : Nat} {G : Gv} {S : Sv} (h : Bs b S) (hb : b < 2900000) (hl : LdOk G S) (hG : OkS G) : Bs (b + 63) (goUpF G S) ∧ Bs (b + 63) (goDownF G S) := by
  obtain ⟨p, hp, hp6, hpg⟩ := hl
  obtain ⟨⟨e1, g1⟩, ⟨e2, g2⟩, ⟨e3, g3⟩, e4, oL, oT, oN, oC⟩ := id hG
  refine ⟨?_, ?_⟩
  · unfold goUpF
    rw [hp, o_cl (by omega)]
    split
    · next z =>
      obtain ⟨u, w, hu, hw, u9, u1, w1, w6, hD, hD2⟩ := upD_le z (by omega) hG
      have h1 := bs_pass hG (upD G (p + 1)) b S h (by omega)
      exact Bs_mono (bs_arr z h1 (by omega) hG) (by omega)
    · exact bs_wrong (Bs_mono h (by omega))
  · unfold goDownF
    rw [hp, o_cl (by omega)]
    split
    · next z =>
      obtain ⟨-, a2, -⟩ := oL p z.2
      obtain ⟨u, hu, hu1, hu2, hu3⟩ := of_bw a2 (by omega)
      rw [hu, o_cl hu3]
      have h1 := bs_pass hG u b S h (by omega)
      exact Bs_mono (bs_arr (by omega : p - 1 < gl G) h1 (by omega) hG) (by omega)
    · exact bs_wrong (Bs_mono h (by omega))
theorem bs_step {b : Nat} {G : Gv} {S : Sv} {k c t : Int32} (h : Bs b S) (hb : b < 2900000) (hl : LdOk G S) (ho : StpOk k c t) (hG : OkS G) : Bs (b + 20000) (stepF G k c t S) := by
  unfold stepF
  rcases ho with rfl | rfl | ⟨rfl, m, rfl, hm⟩ | ⟨rfl, q, m, rfl, rfl, hq, hm⟩
  · exact Bs_mono (bs_go h hb hl hG).1 (by omega)
  · exact Bs_mono (bs_go h hb hl hG).2 (by omega)
  · rw [if_neg (by decide), if_neg (by decide), if_pos rfl, o_cl (by omega)]
    exact Bs_mono (bs_pass hG m b S h (by omega)) (by omega)
  · rw [if_neg (by decide), if_neg (by decide), if_neg (by decide), o_cl (by omega), o_cl (by omega)]
    exact Bs_mono (bs_doTimes hG m b S h (by omega)) (by omega)
theorem ld_right {G : Gv} {S : Sv} {x : Int32} (h : LdOk G S) : LdOk G (xuI S 0 9 x) := by
  obtain ⟨p, hp, hp6⟩ := h
  exact ⟨p, (xu_06 (by omega)).trans hp, hp6⟩
theorem bs_followL {G : Gv} (hG : OkS G) : ∀ (l : List (Int32 × Int32 × Int32)) (b : Nat) (S : Sv), Bs b S → LdOk G S → LsOk l → b + 20000 * l.length < 2900000 → Bs (b + 20000 * l.length) (followL G l S)
  | [], b, S, h, _, _, _ => h
  | s :: l, b, S, h, hl, ho, hb => by
    have e : (s :: l).length = l.length + 1 := rfl
    rw [e] at hb ⊢
    unfold followL
    split
    · have h1 := bs_step h (by omega) hl (ho s List.mem_cons_self) hG
      have l1 := step_ld (t := s.1) (c := s.2.1) (n := s.2.2) hG hl
      have := bs_followL hG l (b + 20000) (if stepF G s.1 s.2.1 s.2.2 S 0 8 = 0 then xuI (stepF G s.1 s.2.1 s.2.2 S) 0 9 (stepF G s.1 s.2.1 s.2.2 S 0 9 + 1) else stepF G s.1 s.2.1 s.2.2 S) (by split; exact bs_right h1; exact h1) (by split; exact ld_right l1; exact l1) (fun u hu => ho u (List.mem_cons_of_mem _ hu)) (by omega)
      rw [show b + 20000 * (l.length + 1) = b + 20000 + 20000 * l.length by omega]
      exact this
    · exact Bs_mono h (by omega)
theorem Sim_S {b : Nat} {G : Gv} {S T T' : Sv} (h : Sim b G S T) (hf : FrS T T') : Sim b G S T' := by
  obtain ⟨h1, h2, h3, h4, h5, h6, h7, h8⟩ := h
  refine ⟨(hf.1 1 (by omega)).trans h1, fun k hk => ?_, fun c hc => ?_, fun c hc => ?_, (hf.2 13 (by omega)).trans h5, (hf.2 14 (by omega)).trans h6, (hf.2 15 (by omega)).trans h7, fun h0 l hl => ?_⟩
  · rw [hf.1 4 (by omega)]; exact h2 k hk
  · rw [hf.1 5 (by omega), hf.1 6 (by omega), hf.1 7 (by omega)]; exact h3 c hc
  · rw [hf.1 6 (by omega)]; exact h4 c hc
  · have := h8 h0 l hl
    unfold Due at this ⊢
    rw [hf.1 8 (by omega), hf.1 9 (by omega), hf.1 10 (by omega), hf.1 11 (by omega)]
    exact this
theorem sim_right {b : Nat} {G : Gv} {S T : Sv} {x y : Int32} (h : Sim b G S T) : Sim b G (xuI S 0 9 x) (xuI T 0 23 y) := by
  obtain ⟨h1, h2, h3, h4, h5, h6, h7, h8⟩ := h
  refine ⟨?_, fun k hk => ?_, fun c hc => ?_, fun c hc => ?_, ?_, ?_, ?_, fun h0 l hl => ?_⟩
  · rw [← h1]; funext k; exact xu_06 (by omega)
  · rw [xu_06 (by omega), xu_06 (by omega)]; exact h2 k hk
  · rw [xu_06 (by omega), xu_06 (by omega), xu_06 (by omega), xu_06 (by omega), xu_06 (by omega), xu_06 (by omega)]; exact h3 c hc
  · rw [xu_06 (by omega)]; exact h4 c hc
  · rw [xu_06 (by omega), xu_06 (by omega)]; exact h5
  · rw [xu_06 (by omega), xu_06 (by omega)]; exact h6
  · rw [xu_06 (by omega), xu_06 (by omega)]; exact h7
  · rw [xu_06 (by omega)] at h0
    have := h8 h0 l hl
    unfold Due at this ⊢
    rw [xu_06 (by omega), xu_06 (by omega), xu_06 (by omega), xu_06 (by omega), xu_06 (by omega)]
    exact this
theorem arr_09 {G : Gv} {l : Nat} {S : Sv} : arrF G l S 0 9 = S 0 9 := by
  unfold arrF
  try simp only []
  repeat' split
  all_goals first | rfl | (simp (disch := omega) only [xu_hit, xu_miss, ite_n, ite_p, if_true, if_false, and_true, true_and, and_false, false_and, and_self, Nat.reduceEqDiff])
theorem step_09 {G : Gv} {k c t : Int32} {S : Sv} : stepF G k c t S 0 9 = S 0 9 := by
  unfold stepF
  split
  · unfold goUpF
    split
    · rw [arr_09, pass_keep (by omega) (by omega) (by omega) (by omega)]
    · rw [xu_06 (by omega)]
  · split
    · unfold goDownF
      split
      · rw [arr_09, pass_keep (by omega) (by omega) (by omega) (by omega)]
      · rw [xu_06 (by omega)]
    · split
      · rw [pass_keep (by omega) (by omega) (by omega) (by omega)]
      · rw [doTimes_keep (by omega) (by omega) (by omega) (by omega) (by omega)]
