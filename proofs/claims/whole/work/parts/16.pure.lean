/-! RUNS, WITHOUT COUNTING STEPS -/
theorem ev_mono1 {E : XE} : ∀ (n : Nat) {d y pc : Nat} {ls st : List Value} {h : XH} {x : Option Value × XH}, ev E n d y pc ls st h = some x → ev E (n + 1) d y pc ls st h = some x
  | 0, _, _, _, _, _, _, _, he => by simp [ev] at he
  | n + 1, d, y, pc, ls, st, h, x, he => by
    rw [ev] at he ⊢
    cases hdec : dec y pc with
    | none =>
      rw [hdec] at he
      cases he
    | some q =>
      obtain ⟨ins, len⟩ := q
      rw [hdec] at he
      simp only at he ⊢
      by_cases hl : xlenOK ins len = true
      · rw [if_pos hl] at he ⊢
        cases hxr : xrt y ins st with
        | some r =>
          rw [hxr] at he
          exact he
        | none =>
          rw [hxr] at he
          simp only at he ⊢
          cases hcl : xcl (mC y) ins with
          | some q2 =>
            obtain ⟨y', o⟩ := q2
            rw [hcl] at he
            simp only at he ⊢
            cases d with
            | zero => cases he
            | succ d' =>
              simp only at he ⊢
              split at he
              · next hc =>
                rw [if_pos hc]
                split at he
                · next r1 h1 he1 =>
                  rw [ev_mono1 n he1]
                  exact ev_mono1 n he
                · cases he
              · cases he
          | none =>
            rw [hcl] at he
            simp only at he ⊢
            cases hs : stp (mC y) (mIni y) d E pc ins ls st h with
            | none =>
              rw [hs] at he
              cases he
            | some q3 =>
              obtain ⟨pc', ls', st', h1⟩ := q3
              rw [hs] at he
              exact ev_mono1 n he
      · rw [if_neg hl] at he
        cases he
theorem ev_mono {E : XE} {n k : Nat} {d y pc : Nat} {ls st : List Value} {h : XH} {x : Option Value × XH} (he : ev E n d y pc ls st h = some x) (hk : n ≤ k) : ev E k d y pc ls st h = some x := by
  obtain ⟨j, rfl⟩ : ∃ j, k = n + j := ⟨k - n, by omega⟩
  clear hk
  induction j with
  | zero => exact he
  | succ j ih => exact ev_mono1 _ ih
def Ev (E : XE) (d y pc : Nat) (ls st : List Value) (h : XH) (Q : Option Value → XH → Prop) : Prop := ∃ (n : Nat) (r : Option Value) (h' : XH), ev E n d y pc ls st h = some (r, h') ∧ Q r h'
section PEV
variable {E : XE} {d y pc len : Nat} {ins : Instr} {ls st : List Value} {h : XH} {Q : Option Value → XH → Prop}
theorem Ev_ret {r : Option Value} (hd : dec y pc = some (ins, len)) (hl : xlenOK ins len = true) (hr : xrt y ins st = some r) : Ev E d y pc ls st h Q = Q r h := by
  refine propext ⟨fun ⟨n, r', h', he, hq⟩ => ?_, fun hq => ⟨1, r, h, ?_, hq⟩⟩
  · cases n with
    | zero => simp [ev] at he
    | succ n =>
      rw [ev, hd] at he
      simp only at he
      rw [if_pos hl, hr] at he
      cases he
      exact hq
  · rw [ev, hd]
    simp only
    rw [if_pos hl, hr]
theorem Ev_stp {pc' : Nat} {ls' st' : List Value} {h' : XH} (hd : dec y pc = some (ins, len)) (hl : xlenOK ins len = true) (hr : xrt y ins st = none) (hc : xcl (mC y) ins = none) (hs : stp (mC y) (mIni y) d E pc ins ls st h = some (pc', ls', st', h')) : Ev E d y pc ls st h Q = Ev E d y pc' ls' st' h' Q := by
  refine propext ⟨fun ⟨n, r, h2, he, hq⟩ => ?_, fun ⟨n, r, h2, he, hq⟩ => ⟨n + 1, r, h2, ?_, hq⟩⟩
  · cases n with
    | zero => simp [ev] at he
    | succ n =>
      rw [ev, hd] at he
      simp only at he
      rw [if_pos hl, hr] at he
      simp only at he
      rw [hc] at he
      simp only at he
      rw [hs] at he
      exact ⟨n, r, h2, he, hq⟩
  · rw [ev, hd]
    simp only
    rw [if_pos hl, hr]
    simp only
    rw [hc]
    simp only
    rw [hs]
    exact he
theorem Ev_call {y' o k : Nat} {as rest : List Value} (hd : dec y pc = some (ins, len)) (hl : xlenOK ins len = true) (hr : xrt y ins st = none) (hc : xcl (mC y) ins = some (y', o)) (hk : mA y' + o = k) (hst : st = as.reverse ++ rest) (hal : as.length = k) (hsum : (rest.map fun v => v.category).sum ≤ 8) (hxl : (xen as).length ≤ mL y') (hrc : o = 1 → xrc y' as h = true) :
    Ev E (d + 1) y pc ls st h Q = Ev E d y' 0 (xent as (mL y')) [] h (fun r h1 => Ev E (d + 1) y (pc + 3) ls (r.toList ++ rest) h1 Q) := by
  have e1 : (st.take (mA y' + o)).reverse = as := by
    rw [hk, hst, List.take_append_of_le_length (by rw [List.length_reverse, hal]; exact Nat.le_refl _), List.take_of_length_le (by rw [List.length_reverse, hal]; exact Nat.le_refl _), List.reverse_reverse]
  have e2 : st.drop (mA y' + o) = rest := by
    rw [hk, hst, List.drop_append_of_le_length (by rw [List.length_reverse, hal]; exact Nat.le_refl _), List.drop_of_length_le (by rw [List.length_reverse, hal]; exact Nat.le_refl _), List.nil_append]
  have e3 : mA y' + o ≤ st.length := by
    rw [hk, hst, List.length_append, List.length_reverse, hal]
    omega
  refine propext ⟨fun ⟨n, r, h2, he, hq⟩ => ?_, fun ⟨n, r1, h1, he1, n2, r, h2, he, hq⟩ => ⟨n + n2 + 1, r, h2, ?_, hq⟩⟩
  · cases n with
    | zero => simp [ev] at he
    | succ n =>
      rw [ev, hd] at he
      simp only at he
      rw [if_pos hl, hr] at he
      simp only at he
      rw [hc] at he
      simp only at he
      rw [e1, e2, if_pos ⟨⟨e3, hsum, hxl⟩, hrc⟩] at he
      split at he
      · next r1 h1 he1 => exact ⟨n, r1, h1, he1, n, r, h2, he, hq⟩
      · cases he
  · rw [ev, hd]
    simp only
    rw [if_pos hl, hr]
    simp only
    rw [hc]
    simp only
    rw [e1, e2, if_pos ⟨⟨e3, hsum, hxl⟩, hrc⟩, ev_mono he1 (Nat.le_add_right n n2)]
    exact ev_mono he (Nat.le_add_left n2 n)
theorem Ev_imp {Q' : Option Value → XH → Prop} (hq : ∀ r h', Q r h' → Q' r h') (he : Ev E d y pc ls st h Q) : Ev E d y pc ls st h Q' := by
  obtain ⟨n, r, h', h1, h2⟩ := he
  exact ⟨n, r, h', h1, hq _ _ h2⟩
end PEV
