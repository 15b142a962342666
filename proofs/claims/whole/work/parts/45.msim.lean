/-! THE MODEL'S VOYAGE: its cells, and how they go with the class's -/
theorem am_1 {k : Nat} {T : Sv} {I : Iv} : wr 157 T I 158 k = T 1 k := wr_at (v := 157) (a := 1)
theorem xm_1 {k : Nat} {x : Int32} {T : Sv} {I : Iv} : xuI (wr 157 T I) 158 k x = wr 157 (xuI T 1 k x) I := xu_wr (v := 157) (a := 1)
theorem am_2 {k : Nat} {T : Sv} {I : Iv} : wr 157 T I 159 k = T 2 k := wr_at (v := 157) (a := 2)
theorem xm_2 {k : Nat} {x : Int32} {T : Sv} {I : Iv} : xuI (wr 157 T I) 159 k x = wr 157 (xuI T 2 k x) I := xu_wr (v := 157) (a := 2)
theorem am_3 {k : Nat} {T : Sv} {I : Iv} : wr 157 T I 160 k = T 3 k := wr_at (v := 157) (a := 3)
theorem xm_3 {k : Nat} {x : Int32} {T : Sv} {I : Iv} : xuI (wr 157 T I) 160 k x = wr 157 (xuI T 3 k x) I := xu_wr (v := 157) (a := 3)
theorem am_4 {k : Nat} {T : Sv} {I : Iv} : wr 157 T I 161 k = T 4 k := wr_at (v := 157) (a := 4)
theorem xm_4 {k : Nat} {x : Int32} {T : Sv} {I : Iv} : xuI (wr 157 T I) 161 k x = wr 157 (xuI T 4 k x) I := xu_wr (v := 157) (a := 4)
theorem am_5 {k : Nat} {T : Sv} {I : Iv} : wr 157 T I 162 k = T 5 k := wr_at (v := 157) (a := 5)
theorem xm_5 {k : Nat} {x : Int32} {T : Sv} {I : Iv} : xuI (wr 157 T I) 162 k x = wr 157 (xuI T 5 k x) I := xu_wr (v := 157) (a := 5)
theorem am_6 {k : Nat} {T : Sv} {I : Iv} : wr 157 T I 163 k = T 6 k := wr_at (v := 157) (a := 6)
theorem xm_6 {k : Nat} {x : Int32} {T : Sv} {I : Iv} : xuI (wr 157 T I) 163 k x = wr 157 (xuI T 6 k x) I := xu_wr (v := 157) (a := 6)
theorem am_7 {k : Nat} {T : Sv} {I : Iv} : wr 157 T I 164 k = T 7 k := wr_at (v := 157) (a := 7)
theorem xm_7 {k : Nat} {x : Int32} {T : Sv} {I : Iv} : xuI (wr 157 T I) 164 k x = wr 157 (xuI T 7 k x) I := xu_wr (v := 157) (a := 7)
theorem am_8 {k : Nat} {T : Sv} {I : Iv} : wr 157 T I 165 k = T 8 k := wr_at (v := 157) (a := 8)
theorem xm_8 {k : Nat} {x : Int32} {T : Sv} {I : Iv} : xuI (wr 157 T I) 165 k x = wr 157 (xuI T 8 k x) I := xu_wr (v := 157) (a := 8)
theorem am_9 {k : Nat} {T : Sv} {I : Iv} : wr 157 T I 166 k = T 9 k := wr_at (v := 157) (a := 9)
theorem xm_9 {k : Nat} {x : Int32} {T : Sv} {I : Iv} : xuI (wr 157 T I) 166 k x = wr 157 (xuI T 9 k x) I := xu_wr (v := 157) (a := 9)
theorem am_10 {k : Nat} {T : Sv} {I : Iv} : wr 157 T I 167 k = T 10 k := wr_at (v := 157) (a := 10)
theorem xm_10 {k : Nat} {x : Int32} {T : Sv} {I : Iv} : xuI (wr 157 T I) 167 k x = wr 157 (xuI T 10 k x) I := xu_wr (v := 157) (a := 10)
theorem am_11 {k : Nat} {T : Sv} {I : Iv} : wr 157 T I 168 k = T 11 k := wr_at (v := 157) (a := 11)
theorem xm_11 {k : Nat} {x : Int32} {T : Sv} {I : Iv} : xuI (wr 157 T I) 168 k x = wr 157 (xuI T 11 k x) I := xu_wr (v := 157) (a := 11)
theorem am_12 {k : Nat} {T : Sv} {I : Iv} : wr 157 T I 169 k = T 12 k := wr_at (v := 157) (a := 12)
theorem xm_12 {k : Nat} {x : Int32} {T : Sv} {I : Iv} : xuI (wr 157 T I) 169 k x = wr 157 (xuI T 12 k x) I := xu_wr (v := 157) (a := 12)
theorem am_13 {k : Nat} {T : Sv} {I : Iv} : wr 157 T I 170 k = T 13 k := wr_at (v := 157) (a := 13)
theorem xm_13 {k : Nat} {x : Int32} {T : Sv} {I : Iv} : xuI (wr 157 T I) 170 k x = wr 157 (xuI T 13 k x) I := xu_wr (v := 157) (a := 13)
theorem am_14 {k : Nat} {T : Sv} {I : Iv} : wr 157 T I 171 k = T 14 k := wr_at (v := 157) (a := 14)
theorem xm_14 {k : Nat} {x : Int32} {T : Sv} {I : Iv} : xuI (wr 157 T I) 171 k x = wr 157 (xuI T 14 k x) I := xu_wr (v := 157) (a := 14)
theorem am_15 {k : Nat} {T : Sv} {I : Iv} : wr 157 T I 172 k = T 15 k := wr_at (v := 157) (a := 15)
theorem xm_15 {k : Nat} {x : Int32} {T : Sv} {I : Iv} : xuI (wr 157 T I) 172 k x = wr 157 (xuI T 15 k x) I := xu_wr (v := 157) (a := 15)
theorem am_16 {k : Nat} {T : Sv} {I : Iv} : wr 157 T I 173 k = T 16 k := wr_at (v := 157) (a := 16)
theorem xm_16 {k : Nat} {x : Int32} {T : Sv} {I : Iv} : xuI (wr 157 T I) 173 k x = wr 157 (xuI T 16 k x) I := xu_wr (v := 157) (a := 16)
theorem am_17 {k : Nat} {T : Sv} {I : Iv} : wr 157 T I 174 k = T 17 k := wr_at (v := 157) (a := 17)
theorem xm_17 {k : Nat} {x : Int32} {T : Sv} {I : Iv} : xuI (wr 157 T I) 174 k x = wr 157 (xuI T 17 k x) I := xu_wr (v := 157) (a := 17)
theorem vn_0 : vp_nar .boolean 0 = 0 := by decide
def Due (G : Gv) (S T : Sv) (l : Nat) : Prop := (G (8 * l + 7) = 0 ∧ T 11 l = 0) ∨ (G (8 * l + 7) = 1 ∧ ((S 2 l = -1 ∧ T 11 l = 0) ∨ (¬ S 2 l = -1 ∧ T 11 l = 1 ∧ T 8 l = S 2 l + G (8 * l + 6) ∧ T 9 l = G (8 * l + 4) ∧ T 10 l = G (8 * l + 5))))
def Sim (b : Nat) (G : Gv) (S T : Sv) : Prop := T 1 = G ∧ (∀ k, k < gt G → T 4 k = S 1 k) ∧ (∀ c, c < gc G → T 5 c = S 3 c ∧ T 7 c = S 5 c ∧ (stay G c = false → T 6 c = S 4 c)) ∧ (∀ c, c < gc G → 0 ≤ (T 6 c).toInt ∧ (T 6 c).toInt ≤ b) ∧ T 0 13 = S 0 7 ∧ T 0 14 = S 0 6 ∧ T 0 15 = S 0 8 ∧ (S 0 8 = 0 → ∀ l, l < gl G → Due G S T l)
def FrT (T T' : Sv) : Prop := (∀ a, ¬ a = 0 → (a < 4 ∨ 11 < a) → T' a = T a) ∧ (∀ k, ¬ (13 ≤ k ∧ k ≤ 15) → T' 0 k = T 0 k)
theorem FrT_rfl {T : Sv} : FrT T T := ⟨fun _ _ _ => rfl, fun _ _ => rfl⟩
theorem FrT_trans {T T' T2 : Sv} (h : FrT T T') (h2 : FrT T' T2) : FrT T T2 := ⟨fun a h1 h3 => (h2.1 a h1 h3).trans (h.1 a h1 h3), fun k hk => (h2.2 k hk).trans (h.2 k hk)⟩
theorem FrT_xu {T : Sv} {a k : Nat} {x : Int32} (h : (a = 0 ∧ 13 ≤ k ∧ k ≤ 15) ∨ (4 ≤ a ∧ a ≤ 11)) : FrT T (xuI T a k x) := by
  refine ⟨fun b h1 h3 => ?_, fun j hj => ?_⟩
  · funext j
    exact xu_06 (by omega)
  · exact xu_06 (by omega)
theorem Sim_mono {b b' : Nat} {G : Gv} {S T : Sv} (h : Sim b G S T) (hb : b ≤ b') : Sim b' G S T := by
  obtain ⟨h1, h2, h3, h4, h5⟩ := h
  exact ⟨h1, h2, h3, fun c hc => ⟨(h4 c hc).1, by have := (h4 c hc).2; omega⟩, h5⟩
theorem sim_day {b : Nat} {G : Gv} {S T : Sv} {x : Int32} (h : Sim b G S T) : Sim b G (xuI S 0 7 x) (xuI T 0 13 x) := by
  obtain ⟨h1, h2, h3, h4, h5, h6, h7, h8⟩ := h
  refine ⟨?_, fun k hk => ?_, fun c hc => ?_, fun c hc => ?_, ?_, ?_, ?_, fun h0 l hl => ?_⟩
  · rw [← h1]; funext k; exact xu_06 (by omega)
  · rw [xu_06 (by omega), xu_06 (by omega)]; exact h2 k hk
  · rw [xu_06 (by omega), xu_06 (by omega), xu_06 (by omega), xu_06 (by omega), xu_06 (by omega), xu_06 (by omega)]; exact h3 c hc
  · rw [xu_06 (by omega)]; exact h4 c hc
  · rw [xu_self, xu_self]
  · rw [xu_06 (by omega), xu_06 (by omega)]; exact h6
  · rw [xu_06 (by omega), xu_06 (by omega)]; exact h7
  · rw [xu_06 (by omega)] at h0
    have := h8 h0 l hl
    unfold Due at this ⊢
    rw [xu_06 (by omega), xu_06 (by omega), xu_06 (by omega), xu_06 (by omega), xu_06 (by omega)]
    exact this
theorem sim_land {b : Nat} {G : Gv} {S T : Sv} {x : Int32} (h : Sim b G S T) : Sim b G (xuI S 0 6 x) (xuI T 0 14 x) := by
  obtain ⟨h1, h2, h3, h4, h5, h6, h7, h8⟩ := h
  refine ⟨?_, fun k hk => ?_, fun c hc => ?_, fun c hc => ?_, ?_, ?_, ?_, fun h0 l hl => ?_⟩
  · rw [← h1]; funext k; exact xu_06 (by omega)
  · rw [xu_06 (by omega), xu_06 (by omega)]; exact h2 k hk
  · rw [xu_06 (by omega), xu_06 (by omega), xu_06 (by omega), xu_06 (by omega), xu_06 (by omega), xu_06 (by omega)]; exact h3 c hc
  · rw [xu_06 (by omega)]; exact h4 c hc
  · rw [xu_06 (by omega), xu_06 (by omega)]; exact h5
  · rw [xu_self, xu_self]
  · rw [xu_06 (by omega), xu_06 (by omega)]; exact h7
  · rw [xu_06 (by omega)] at h0
    have := h8 h0 l hl
    unfold Due at this ⊢
    rw [xu_06 (by omega), xu_06 (by omega), xu_06 (by omega), xu_06 (by omega), xu_06 (by omega)]
    exact this
theorem sim_wrong {b : Nat} {G : Gv} {S T : Sv} {x : Int32} (h : Sim b G S T) (hx : x = 0 → S 0 8 = 0) : Sim b G (xuI S 0 8 x) (xuI T 0 15 x) := by
  obtain ⟨h1, h2, h3, h4, h5, h6, h7, h8⟩ := h
  refine ⟨?_, fun k hk => ?_, fun c hc => ?_, fun c hc => ?_, ?_, ?_, ?_, fun h0 l hl => ?_⟩
  · rw [← h1]; funext k; exact xu_06 (by omega)
  · rw [xu_06 (by omega), xu_06 (by omega)]; exact h2 k hk
  · rw [xu_06 (by omega), xu_06 (by omega), xu_06 (by omega), xu_06 (by omega), xu_06 (by omega), xu_06 (by omega)]; exact h3 c hc
  · rw [xu_06 (by omega)]; exact h4 c hc
  · rw [xu_06 (by omega), xu_06 (by omega)]; exact h5
  · rw [xu_06 (by omega), xu_06 (by omega)]; exact h6
  · rw [xu_self, xu_self]
  · rw [xu_self] at h0
    have := h8 (hx h0) l hl
    unfold Due at this ⊢
    rw [xu_06 (by omega), xu_06 (by omega), xu_06 (by omega), xu_06 (by omega), xu_06 (by omega)]
    exact this
theorem sim_load {b : Nat} {G : Gv} {S T : Sv} {x : Int32} {j : Nat} (h : Sim b G S T) : Sim b G (xuI S 1 j x) (xuI T 4 j x) := by
  obtain ⟨h1, h2, h3, h4, h5, h6, h7, h8⟩ := h
  refine ⟨?_, fun k hk => ?_, fun c hc => ?_, fun c hc => ?_, ?_, ?_, ?_, fun h0 l hl => ?_⟩
  · rw [← h1]; funext k; exact xu_06 (by omega)
  · by_cases e : k = j
    · subst e
      rw [xu_self, xu_self]
    · rw [xu_06 (by omega), xu_06 (by omega)]; exact h2 k hk
  · rw [xu_06 (by omega), xu_06 (by omega), xu_06 (by omega), xu_06 (by omega), xu_06 (by omega), xu_06 (by omega)]; exact h3 c hc
  · rw [xu_06 (by omega)]; exact h4 c hc
  · rw [xu_06 (by omega), xu_06 (by omega)]; exact h5
  · rw [xu_06 (by omega), xu_06 (by omega)]; exact h6
  · rw [xu_06 (by omega), xu_06 (by omega)]; exact h7
  · rw [xu_06 (by omega)] at h0
    have := h8 h0 l hl
    unfold Due at this ⊢
    rw [xu_06 (by omega), xu_06 (by omega), xu_06 (by omega), xu_06 (by omega), xu_06 (by omega)]
    exact this
def mspoilF (G : Gv) (T : Sv) : Sv := fun a k => if a = 4 ∧ k < gt G then T 4 k - T 4 k * G (48 + 3 * k + 1) / 100 else T a k
theorem sim_spoil {b : Nat} {G : Gv} {S T : Sv} (h : Sim b G S T) : Sim b G (spoilF G S) (mspoilF G T) := by
  obtain ⟨h1, h2, h3, h4, h5, h6, h7, h8⟩ := h
  have e1 : ∀ a k, ¬ a = 1 → spoilF G S a k = S a k := fun a k h => spoil_keep h
  have e2 : ∀ a k, ¬ a = 4 → mspoilF G T a k = T a k := fun a k h => if_neg (fun q => h q.1)
  refine ⟨?_, fun k hk => ?_, fun c hc => ?_, fun c hc => ?_, ?_, ?_, ?_, fun h0 l hl => ?_⟩
  · exact (funext fun k => e2 1 k (by omega)).trans h1
  · unfold mspoilF spoilF
    rw [if_pos ⟨rfl, hk⟩, if_pos ⟨rfl, hk⟩, h2 k hk]
  · rw [e2 _ _ (by omega), e2 _ _ (by omega), e2 _ _ (by omega), e1 _ _ (by omega), e1 _ _ (by omega), e1 _ _ (by omega)]; exact h3 c hc
  · rw [e2 _ _ (by omega)]; exact h4 c hc
  · rw [e2 _ _ (by omega), e1 _ _ (by omega)]; exact h5
  · rw [e2 _ _ (by omega), e1 _ _ (by omega)]; exact h6
  · rw [e2 _ _ (by omega), e1 _ _ (by omega)]; exact h7
  · rw [e1 _ _ (by omega)] at h0
    have := h8 h0 l hl
    unfold Due at this ⊢
    rw [e2 _ _ (by omega), e2 _ _ (by omega), e2 _ _ (by omega), e2 _ _ (by omega), e1 _ _ (by omega)]
    exact this
theorem FrT_spoil {G : Gv} {T : Sv} : FrT T (mspoilF G T) := ⟨fun a _ h => funext fun k => if_neg (by omega), fun k _ => if_neg (by omega)⟩
def mbk (G : Gv) (T : Sv) (k : Nat) : Bool := decide (0 < (G (72 + 8 * k + 6)).toInt ∧ T 0 13 - T 0 13 / G (72 + 8 * k + 6) * G (72 + 8 * k + 6) = 0 ∧ 0 < (T 5 k).toInt)
def mcomeF (G : Gv) (T : Sv) : Sv := fun a k => if a = 5 ∧ k < gc G ∧ mbk G T k = true then T 5 k - 1 else T a k
theorem sim_come {b : Nat} {G : Gv} {S T : Sv} (h : Sim b G S T) : Sim b G (comeF G S) (mcomeF G T) := by
  obtain ⟨h1, h2, h3, h4, h5, h6, h7, h8⟩ := h
  have e1 : ∀ a k, ¬ a = 3 → comeF G S a k = S a k := fun a k h => come_keep h
  have e2 : ∀ a k, ¬ a = 5 → mcomeF G T a k = T a k := fun a k h => if_neg (fun q => h q.1)
  refine ⟨?_, fun k hk => ?_, fun c hc => ?_, fun c hc => ?_, ?_, ?_, ?_, fun h0 l hl => ?_⟩
  · exact (funext fun k => e2 1 k (by omega)).trans h1
  · rw [e2 _ _ (by omega), e1 _ _ (by omega)]; exact h2 k hk
  · rw [e2 7 _ (by omega), e2 6 _ (by omega), e1 5 _ (by omega), e1 4 _ (by omega)]
    obtain ⟨a1, a2⟩ := h3 c hc
    refine ⟨?_, a2⟩
    have ebk : mbk G T c = cbk G S c := by
      unfold mbk cbk
      rw [a1, h5]
      congr 1
      exact propext ⟨fun ⟨q1, q2, q3⟩ => ⟨q3, q1, q2⟩, fun ⟨q1, q2, q3⟩ => ⟨q2, q3, q1⟩⟩
    unfold mcomeF comeF
    rw [ebk, a1]
    by_cases hb : cbk G S c = true
    · rw [if_pos ⟨rfl, hc, hb⟩, if_pos ⟨rfl, hc, hb⟩]
    · rw [if_neg (fun q => hb q.2.2), if_neg (fun q => hb q.2.2)]
  · rw [e2 _ _ (by omega)]; exact h4 c hc
  · rw [e2 _ _ (by omega), e1 _ _ (by omega)]; exact h5
  · rw [e2 _ _ (by omega), e1 _ _ (by omega)]; exact h6
  · rw [e2 _ _ (by omega), e1 _ _ (by omega)]; exact h7
  · rw [e1 _ _ (by omega)] at h0
    have := h8 h0 l hl
    unfold Due at this ⊢
    rw [e2 _ _ (by omega), e2 _ _ (by omega), e2 _ _ (by omega), e2 _ _ (by omega), e1 _ _ (by omega)]
    exact this
theorem FrT_come {G : Gv} {T : Sv} : FrT T (mcomeF G T) := ⟨fun a _ h => funext fun k => if_neg (by omega), fun k _ => if_neg (by omega)⟩
