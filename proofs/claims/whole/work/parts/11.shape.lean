/-! A METHOD'S BIG STEP IS A RUN OF THE MACHINE'S -/
theorem stp_shape {own : Nat} {ctor : Bool} {d : Nat} {E : XE} {pc pc' : Nat} {ins : Instr} {ls st ls' st' : List Value} {h h' : XH} (hs : stp own ctor d E pc ins ls st h = some (pc', ls', st', h')) : ∃ lx, h'.1 = h.1 ++ lx := by
  have nil : ∃ lx, h.1 = h.1 ++ lx := ⟨[], (List.append_nil _).symm⟩
  cases ins <;> simp only [stp] at hs
  all_goals try (cases hs; done)
  all_goals try (cases hs; exact nil)
  all_goals try simp only [xli, xll, xla, xsi, xsl, xsa, xi2, xd2, xl2, xe2, xlsh, xif, xts, xlk, xgf, xpf, xgs, xial, xbal, xlal, xaal, xias, xbas, xlas, xaas, xlen, xnew, xna, xan, xmn, xoi, xac] at hs
  all_goals repeat' split at hs
  all_goals first | (cases hs; done) | (cases hs; exact nil) | (cases hs; exact ⟨_, rfl⟩)
theorem shape_len {h h' : XH} (hx : ∃ lx, h'.1 = h.1 ++ lx) : h.1.length ≤ h'.1.length ∧ xslots h ≤ xslots h' := by
  obtain ⟨lx, e⟩ := hx
  unfold xslots
  rw [e, List.length_append, List.map_append, List.sum_append]
  omega
theorem shape_trans {h h' h2 : XH} (h1 : ∃ lx, h'.1 = h.1 ++ lx) (hx : ∃ lx, h2.1 = h'.1 ++ lx) : ∃ lx, h2.1 = h.1 ++ lx := by
  obtain ⟨a, e1⟩ := h1
  obtain ⟨b, e2⟩ := hx
  exact ⟨a ++ b, by rw [e2, e1, List.append_assoc]⟩
theorem ev_shape {E : XE} : ∀ (n : Nat) {d y pc : Nat} {ls st : List Value} {h h' : XH} {r : Option Value}, ev E n d y pc ls st h = some (r, h') → ∃ lx, h'.1 = h.1 ++ lx
  | 0, _, _, _, _, _, _, _, _, he => by simp [ev] at he
  | n + 1, d, y, pc, ls, st, h, h', r, he => by
    unfold ev at he
    split at he
    · cases he
    · split at he
      · split at he
        · cases he
          exact ⟨[], (List.append_nil _).symm⟩
        · split at he
          · split at he
            · cases he
            · split at he
              · split at he
                · next he1 => exact shape_trans (ev_shape n he1) (ev_shape n he)
                · cases he
              · cases he
          · split at he
            · next hs => exact shape_trans (stp_shape hs) (ev_shape n he)
            · cases he
      · cases he
