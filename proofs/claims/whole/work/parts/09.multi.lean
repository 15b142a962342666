section SS3b
variable {p : Program} {l : Launch} {e : Env} {R : Room} {s : State} {m : MethodId} {args : Array Value} {below : List Frame} {meth : Method} {c : Code} {Q : State → Prop}
variable {b0 : Nat} {ba : Nat → Nat} {fv : Value} {D : va_G} {dA : Nat → ClassId} {E : XE} {y n0 s0 d pc pc' : Nat} {ls st ls' st' : List Value} {h h' : XH} {k i : Nat}
theorem vs_xmn {idx : Nat} (hC : CX p s m args meth c b0 ba fv D dA E y) (hdg : decode (mB y) pc = .ok (.multianewarray idx 2, 4)) (hs : xmn (mC y) idx pc ls st h = some (pc', ls', st', h')) (hrc : h'.1.length - n0 ≤ R.cells) (hrs : xslots h' - s0 ≤ R.slots) (hk : VW p l e R s m args below meth c Q b0 ba fv D dA y n0 s0 pc' ls' st' h') : VW p l e R s m args below meth c Q b0 ba fv D dA y n0 s0 pc ls st h := by
  obtain ⟨⟨hx, hb, hml, hown, hts⟩, hK, hE, hin, hba, hfv⟩ := hC
  unfold xmn at hs
  split at hs
  · next k n r =>
    split at hs
    · cases hs
    · next hc =>
      simp only [not_or, Nat.not_le, Nat.not_lt] at hc
      obtain ⟨⟨⟨hn, hn2⟩, hk1, hk2⟩, hlim⟩ := hc
      split at hs
      · next z1 z2 hr =>
        generalize hN : n.toNatClampNeg = N at hs hn2
        generalize hM : k.toNatClampNeg = M at hs hk2
        generalize hh' : (((xmk h ((17, N) :: List.replicate N (10, M))).1, xz 0 h.2.1 h.1.length, xz 0 h.2.2.1 h.1.length, fun b j => if h.1.length ≤ b then (if b = h.1.length ∧ j < N then some (h.1.length + 1 + j) else none) else h.2.2.2 b j) : XH) = hx' at hs
        cases hs
        have hsh : h'.1 = h.1 ++ ((17, N) :: List.replicate N (10, M)) := by rw [← hh']; rfl
        have hlen : h'.1.length = h.1.length + 1 + N := by rw [hsh]; simp; omega
        have hsl : xslots h' = xslots h + N + N * M := by
          unfold xslots
          rw [hsh, List.map_append, List.sum_append, List.map_cons, List.sum_cons, List.map_replicate, List.sum_replicate_nat]
          show _ + (N + N * M) = _
          omega
        have hold : ∀ b, b < h.1.length → h'.2.1 b = h.2.1 b ∧ h'.2.2.1 b = h.2.2.1 b ∧ h'.2.2.2 b = h.2.2.2 b := by
          intro b hb
          rw [← hh']
          refine ⟨funext fun j => ?_, funext fun j => ?_, funext fun j => ?_⟩ <;> exact if_neg (by omega)
        rw [hlen] at hrc
        rw [hsl] at hrs
        intro H locs lsC g1 g2 g3 g4 g5 g6 g7 g8 T hT X
        have hcl0 := hts _ (rs_good hr (by decide) (by decide) (by decide))
        have hcl : (Cond.classLink (RN (mC y)) idx ("[" ++ (FieldType.array .int).toString)).before args s = true := by
          have e0 : ("[" ++ (FieldType.array .int).toString) = "[[I" := by decide +kernel
          rw [e0]
          exact hcl0
        have hcells : h.1.length - n0 + (1 + N) ≤ R.cells := by omega
        have hslots : xslots h - s0 + (N + N * M) ≤ R.slots := by omega
        obtain ⟨vm₁, cA, comp, -, fA, fC, hO, -, X', step⟩ := X.multianewarray2F hx hown hcl hE.2.2.1 (hts _ (GWx_at (by simp [GWx]))) (g := F0 m pc lsC (.int k :: .int n :: r.map (tv ba fv))) rfl (by rw [hb]; exact hdg) rfl hn hk1 (by rw [hN]; omega) (by rw [hM]; show M * 4 ≤ _; omega) (by rw [hM]; omega) rfl rfl (by rw [hN]; exact hcells) (by rw [hN, hM]; exact hslots)
        rw [hN, hM] at X' step
        have hcA : dA 17 = cA := Option.some.inj ((hK.2 7 _ rfl).2.symm.trans fA)
        have hcI : dA 10 = comp := Option.some.inj ((hK.2 0 _ rfl).2.symm.trans fC)
        subst hcA
        subst hcI
        generalize hF : Jvm.Free.Multi.fill (T.setVm vm₁) (dA 17) (dA 10) N M (defaultValue .int) N = F at X' step
        have hTh : (T.setVm vm₁).heap = H := hT
        obtain ⟨f1, f2, -, -⟩ := Jvm.Free.Multi.fill_facts (T.setVm vm₁) (dA 17) (dA 10) N M (defaultValue .int) N
        rw [hF, hTh] at f1 f2
        have hold2 : ∀ x : Nat, x < H.size → F.heap[x]? = H[x]? := fun x hx => by
          have := Jvm.Free.Multi.fill_old (T.setVm vm₁) (dA 17) (dA 10) N M (defaultValue .int) (a := x) (by rw [hTh]; exact hx) N
          rw [hF, hTh] at this
          exact this
        have hrow : ∀ j : Nat, j < N → F.heap[H.size + 1 + j]? = some (vp_cell (dA 10) (M, .inl (fun _ => 0))) := fun j hj => by
          have := Jvm.Free.Multi.fill_inner (T.setVm vm₁) (dA 17) (dA 10) N M (defaultValue .int) N j hj
          rw [hF, hTh] at this
          rw [this]
          refine congrArg some ?_
          show ({ cls := dA 10, slots := Array.replicate M (.int 0), vm := .none } : Cell) = _
          rw [arrV_new]
          rfl
        rw [outer_rows] at f2
        have hba1 : ∀ j, j ≤ N → ba (h.1.length + j) = H.size + j := fun j hj => by rw [hba _ (by omega), g1]; omega
        have t := hk F.heap locs lsC (by rw [f1, hlen, g1]; omega) (by rw [hlen]; omega) (wl_ext hsh hold hba (by rw [hlen]; omega) g1 g3 hold2 (fun q q1 q2 => by
          rw [hlen] at q2
          by_cases e0 : q = h.1.length
          · subst e0
            have ek : xkd h' h.1.length = (17, N) := by
              unfold xkd
              rw [hsh]
              simp
            rw [cell_Q (k := 17) (by rw [ek]) (by decide), ek]
            have := hba1 0 (Nat.zero_le _)
            rw [Nat.add_zero, Nat.add_zero] at this
            show F.heap[ba h.1.length]? = some (vp_cell _ _)
            rw [this, f2, vp_cell_q]
            refine congrArg some (congrArg (arrV _ _) (funext fun j => ?_))
            rw [← hh']
            show _ = va_rf (Option.map ba (if h.1.length ≤ h.1.length then (if h.1.length = h.1.length ∧ j < N then some (h.1.length + 1 + j) else none) else _))
            rw [if_pos (Nat.le_refl _)]
            by_cases hj : j < N
            · rw [if_pos hj, if_pos ⟨rfl, hj⟩]
              show _ = va_rf (some (ba (h.1.length + 1 + j)))
              rw [show h.1.length + 1 + j = h.1.length + (1 + j) by omega, hba1 (1 + j) (by omega), Nat.add_assoc]
            · rw [if_neg hj, if_neg (fun z => hj z.2)]
              rfl
          · obtain ⟨j, rfl⟩ : ∃ j, q = h.1.length + 1 + j := ⟨q - h.1.length - 1, by omega⟩
            have hj : j < N := by omega
            have ek : xkd h' (h.1.length + 1 + j) = (10, M) := by
              unfold xkd
              rw [hsh, List.getElem?_append_right (by omega), show h.1.length + 1 + j - h.1.length = j + 1 by omega, List.getElem?_cons_succ, List.getElem?_replicate, if_pos hj]
              rfl
            rw [cell_I (k := 10) (by rw [ek]) (Or.inl rfl), ek]
            show F.heap[ba (h.1.length + 1 + j)]? = some (vp_cell _ _)
            have eI : h'.2.1 (h.1.length + 1 + j) = fun _ => 0 := by
              rw [← hh']
              exact funext fun z => if_pos (by omega)
            rw [eI, show h.1.length + 1 + j = h.1.length + (1 + j) by omega, hba1 (1 + j) (by omega), ← Nat.add_assoc, hrow j hj])) (va_S_ext g4 (by rw [f1]; omega) hold2) g5 g6 (by rw [hlen]; omega) (by rw [hsl]; omega)
        rw [hlen, hsl, show h.1.length + 1 + N - n0 = h.1.length - n0 + 1 + N by omega, show xslots h + N + N * M - s0 = xslots h - s0 + N + N * M by omega] at t
        have e : ((Value.ref h.1.length :: r).map (tv ba fv)) = .ref T.heap.size :: r.map (tv ba fv) := by
          rw [List.map_cons]
          show Value.ref (ba h.1.length) :: _ = _
          have := hba1 0 (Nat.zero_le _)
          rw [Nat.add_zero, Nat.add_zero] at this
          rw [this, hT]
        rw [e] at t
        obtain ⟨t', a1, b1⟩ := t F rfl X'
        exact ⟨t', step t' a1, b1⟩
      · cases hs
  · cases hs
end SS3b
