/-! NEW CELLS -/
theorem outer_rows (c : ClassId) (N h0 : Nat) : ∀ i : Nat, Jvm.Free.Multi.outerC c N h0 i = arrV c N (fun j => va_rf (if j < i then some (h0 + 1 + j) else none))
  | 0 => by
    show ({ cls := c, slots := Array.replicate N .null, vm := .none } : Cell) = _
    rw [arrV_new]
    refine congrArg (arrV c N) (funext fun j => ?_)
    simp [va_rf]
  | i + 1 => by
    show (Jvm.Free.Multi.outerC c N h0 i).setSlot i (.ref (h0 + 1 + i)) = _
    rw [outer_rows c N h0 i, arrV_store]
    refine congrArg (arrV c N) (funext fun j => ?_)
    by_cases e : j = i
    · subst e
      simp [updV, va_rf]
    · by_cases h : j < i
      · simp [updV, e, h, Nat.lt_succ_of_lt h]
      · simp [updV, e, h, show ¬ j < i + 1 by omega]
def bty : FieldType → Bool
  | .int => true
  | .long => true
  | .object _ => true
  | .array _ => true
  | _ => false
theorem bty_ok {c k : Nat} (h : c < 10) (hk : k < NC c) : bty (tyC c k) = true := by
  have key : (List.range 10).all (fun c => (List.range (NC c)).all (fun k => bty (tyC c k))) = true := by decide +kernel
  have h1 := List.all_eq_true.mp key c (List.mem_range.mpr h)
  exact List.all_eq_true.mp h1 k (List.mem_range.mpr hk)
section SS3
variable {p : Program} {l : Launch} {e : Env} {R : Room} {s : State} {m : MethodId} {args : Array Value} {below : List Frame} {meth : Method} {c : Code} {Q : State → Prop}
variable {b0 : Nat} {ba : Nat → Nat} {fv : Value} {D : va_G} {dA : Nat → ClassId} {E : XE} {y n0 s0 d pc pc' : Nat} {ls st ls' st' : List Value} {h h' : XH} {k i : Nat}
theorem wl_ext {H H1 : Heap} {lx : List (Nat × Nat)} (hsh : h'.1 = h.1 ++ lx) (hold : ∀ b, b < h.1.length → h'.2.1 b = h.2.1 b ∧ h'.2.2.1 b = h.2.2.1 b ∧ h'.2.2.2 b = h.2.2.2 b) (hba : ∀ k, k < xTop → ba k = b0 + k) (hl : h'.1.length ≤ xTop) (hz : H.size = b0 + h.1.length) (hP : va_P D vwCl (wl ba fv dA h) H) (o1 : ∀ q : Nat, q < H.size → H1[q]? = H[q]?) (hn : ∀ k, h.1.length ≤ k → k < h'.1.length → va_at D vwCl (ba k, xcell ba fv dA h' k) H1) : va_P D vwCl (wl ba fv dA h') H1 := by
  have hle : h.1.length ≤ h'.1.length := by rw [hsh, List.length_append]; omega
  intro k q hk
  have hkl : k < h'.1.length := by
    have := (List.getElem?_eq_some_iff.mp hk).1
    rwa [wl_len] at this
  rw [wl_at hkl] at hk
  cases hk
  by_cases hlt : k < h.1.length
  · have ek : xkd h' k = xkd h k := by
      unfold xkd
      rw [hsh, List.getElem?_append_left hlt]
    have ec : xcell ba fv dA h' k = xcell ba fv dA h k := by
      obtain ⟨e1, e2, e3⟩ := hold k hlt
      unfold xcell xfs xcon xfv
      rw [ek, e1, e2, e3]
    rw [ec]
    exact (hP k _ (wl_at hlt)).kept (o1 _ (by rw [hba k (by omega), hz]; omega))
  · exact hn k (by omega) hkl
theorem xmk_old {lx : List (Nat × Nat)} : ∀ b, b < h.1.length → (xmk h lx).2.1 b = h.2.1 b ∧ (xmk h lx).2.2.1 b = h.2.2.1 b ∧ (xmk h lx).2.2.2 b = h.2.2.2 b := by
  intro b hb
  refine ⟨funext fun j => ?_, funext fun j => ?_, funext fun j => ?_⟩ <;> exact if_neg (by omega)
theorem xmk_kd {q : Nat × Nat} {lx : List (Nat × Nat)} : xkd (xmk h (q :: lx)) h.1.length = q := by
  unfold xkd xmk
  simp
theorem xmk_I {lx : List (Nat × Nat)} {b : Nat} (hb : h.1.length ≤ b) : (xmk h lx).2.1 b = fun _ => 0 := funext fun j => if_pos hb
theorem xmk_J {lx : List (Nat × Nat)} {b : Nat} (hb : h.1.length ≤ b) : (xmk h lx).2.2.1 b = fun _ => 0 := funext fun j => if_pos hb
theorem xmk_P {lx : List (Nat × Nat)} {b : Nat} (hb : h.1.length ≤ b) : (xmk h lx).2.2.2 b = fun _ => none := funext fun j => if_pos hb
theorem xmk_len {lx : List (Nat × Nat)} : (xmk h lx).1.length = h.1.length + lx.length := List.length_append
theorem xmk_sl {lx : List (Nat × Nat)} : xslots (xmk h lx) = xslots h + (lx.map (fun q => q.2)).sum := by
  unfold xslots xmk
  rw [List.map_append, List.sum_append]
theorem va_S_ext {H H1 : Heap} {locs : List Loc} (g4 : va_S (xA b0) s.heap H locs) (hz : H.size ≤ H1.size) (o1 : ∀ q : Nat, q < H.size → H1[q]? = H[q]?) : va_S (xA b0) s.heap H1 locs :=
  ⟨Nat.le_trans g4.1 hz, fun x h1 h2 => (o1 x (Nat.lt_of_lt_of_le h1 g4.1)).trans (g4.2.1 x h1 h2), g4.2.2⟩
/-- one new cell -/
theorem vw_one {q : Nat × Nat} {H H1 : Heap} {locs : List Loc} {lsC : Array Slot} {v : Value} {r : List Value} (hba : ∀ k, k < xTop → ba k = b0 + k) (hk : VW p l e R s m args below meth c Q b0 ba fv D dA y n0 s0 pc ls (.ref h.1.length :: r) (xmk h [q])) (g1 : H.size = b0 + h.1.length) (hlim : h.1.length + 1002 < xTop) (g3 : va_P D vwCl (wl ba fv dA h) H) (g4 : va_S (xA b0) s.heap H locs) (g5 : lv_has lsC (mL y) (la ba fv 0 ls)) (g6 : ls.length = mL y) (g7 : n0 ≤ h.1.length) (g8 : s0 ≤ xslots h)
    (z1 : H1.size = H.size + 1) (o1 : ∀ q : Nat, q < H.size → H1[q]? = H[q]?) (hn : va_at D vwCl (H.size, xcell ba fv dA (xmk h [q]) h.1.length) H1) :
    W p l e R s m args below meth c H1 locs (h.1.length - n0 + 1) (xslots h - s0 + q.2) Q (F0 m pc lsC (.ref H.size :: r.map (tv ba fv))) := by
  have hlen : (xmk h [q]).1.length = h.1.length + 1 := xmk_len
  have hsl : xslots (xmk h [q]) = xslots h + q.2 := by rw [xmk_sl]; simp
  have eb : ba h.1.length = H.size := by rw [hba _ (by omega), g1]
  have t := hk H1 locs lsC (by rw [hlen, z1, g1]; omega) (by rw [hlen]; omega) (wl_ext (lx := [q]) rfl xmk_old hba (by rw [hlen]; omega) g1 g3 o1 (fun k k1 k2 => by
    rw [hlen] at k2
    have e : k = h.1.length := by omega
    subst e
    rw [eb]
    exact hn)) (va_S_ext g4 (by omega) o1) g5 g6 (by rw [hlen]; omega) (by rw [hsl]; omega)
  rw [hlen, hsl, show h.1.length + 1 - n0 = h.1.length - n0 + 1 by omega, show xslots h + q.2 - s0 = xslots h - s0 + q.2 by omega] at t
  have e : ((Value.ref h.1.length :: r).map (tv ba fv)) = .ref H.size :: r.map (tv ba fv) := by
    rw [List.map_cons]
    show Value.ref (ba h.1.length) :: _ = _
    rw [eb]
  rw [e] at t
  exact t
theorem GWn_at {ci : Nat} (h : ci < 10) : Cond.initialized (RN ci) ∈ GWl := by
  unfold GWl
  simp only [List.mem_append]
  refine Or.inr (Or.inr (Or.inr (Or.inr (Or.inr (Or.inl ?_)))))
  unfold GWn
  refine List.mem_map_of_mem ?_
  have key : (List.range 10).all (fun c => decide (c ∈ [0, 1, 2, 3, 4, 5, 6, 7, 8, 9, 10, 20, 21, 22, 23, 27, 29, 30])) = true := by decide +kernel
  exact of_decide_eq_true (List.all_eq_true.mp key ci (List.mem_range.mpr h))
theorem GWm_at {ci : Nat} (h : ci < 10) : Cond.instantiable (RN ci) (NC ci) ∈ GWl := by
  unfold GWl
  simp only [List.mem_append]
  refine Or.inr (Or.inr (Or.inr (Or.inr (Or.inr (Or.inr (Or.inl ?_))))))
  exact List.mem_map_of_mem (List.mem_range.mpr h)
theorem GWx_at {w : Cond} (h : w ∈ GWx) : w ∈ GWl := by
  unfold GWl
  simp only [List.mem_append]
  exact Or.inr (Or.inr (Or.inr (Or.inr (Or.inr (Or.inr (Or.inr (Or.inr h)))))))
theorem vs_xnew {idx : Nat} (hC : CX p s m args meth c b0 ba fv D dA E y) (hdg : decode (mB y) pc = .ok (.new idx, 3)) (hs : xnew (mC y) idx pc ls st h = some (pc', ls', st', h')) (hrc : h'.1.length - n0 ≤ R.cells) (hrs : xslots h' - s0 ≤ R.slots) (hk : VW p l e R s m args below meth c Q b0 ba fv D dA y n0 s0 pc' ls' st' h') : VW p l e R s m args below meth c Q b0 ba fv D dA y n0 s0 pc ls st h := by
  obtain ⟨⟨hx, hb, hml, hown, hts⟩, hK, hE, hin, hba, hfv⟩ := hC
  unfold xnew at hs
  split at hs
  · next ci z hr =>
    split at hs
    · next hc =>
      obtain ⟨h3, hlim⟩ := hc
      cases hs
      rw [xmk_len] at hrc
      rw [xmk_sl] at hrs
      simp only [List.length_cons, List.length_nil, List.map_cons, List.map_nil, List.sum_cons, List.sum_nil, Nat.add_zero] at hrc hrs
      intro H locs lsC g1 g2 g3 g4 g5 g6 g7 g8
      have hKn := hK.1 ci _ (vwCl_at h3)
      refine W.newcK (C := RN ci) (n := NC ci) hx hb hown (hts _ (rs_good hr (by decide) (by decide) (by decide))) (hts _ (GWm_at h3)) (hts _ (GWn_at h3)) rfl hdg (by omega) (by omega) hKn.2.1 rfl fun H1 kC hkC e1 z1 o1 => ?_
      refine vw_one (v := .null) (q := (ci, NC ci)) hba hk g1 hlim g3 g4 g5 g6 g7 g8 z1 o1 ?_
      rw [xcell_obj (ci := ci) (by rw [xmk_kd]) h3]
      refine ⟨_, vwCl_at h3, (u_born (tyC ci) hts (lays_in h3) hKn hkC e1 (tyC_ok h3)).to (fun j hj => ?_)⟩
      have hb := bty_ok h3 hj
      show _ = (xfs _ _ _ _ _).getD j .null
      rw [List.getD_eq_getElem?_getD, xfs_at hj]
      unfold xfv
      rw [xmk_I (Nat.le_refl _), xmk_J (Nat.le_refl _), xmk_P (Nat.le_refl _)]
      cases hty : tyC ci j <;> first | rfl | (rw [hty] at hb; cases hb)
    · cases hs
  · cases hs
theorem vs_xna {t : ArrayType} (hC : CX p s m args meth c b0 ba fv D dA E y) (hdg : decode (mB y) pc = .ok (.newarray t, 2)) (hs : xna t pc ls st h = some (pc', ls', st', h')) (hrc : h'.1.length - n0 ≤ R.cells) (hrs : xslots h' - s0 ≤ R.slots) (hk : VW p l e R s m args below meth c Q b0 ba fv D dA y n0 s0 pc' ls' st' h') : VW p l e R s m args below meth c Q b0 ba fv D dA y n0 s0 pc ls st h := by
  obtain ⟨⟨hx, hb, hml, hown, hts⟩, hK, hE, hin, hba, hfv⟩ := hC
  unfold xna at hs
  split at hs
  · next n r =>
    split at hs
    · cases hs
    · next hc =>
      simp only [not_or, Nat.not_le, Nat.not_lt] at hc
      obtain ⟨⟨hn, hn2⟩, hlim⟩ := hc
      split at hs
      · cases hs
        rw [xmk_len] at hrc
        rw [xmk_sl] at hrs
        simp only [List.length_cons, List.length_nil, List.map_cons, List.map_nil, List.sum_cons, List.sum_nil, Nat.add_zero] at hrc hrs
        intro H locs lsC g1 g2 g3 g4 g5 g6 g7 g8
        refine va_newaK hx hb (atype := .int) (hts _ (GWx_at (by simp [GWx, newarray.typeOf]))) rfl hdg rfl hn rfl (by show _ * 4 ≤ _; omega) (by omega) (by omega) rfl fun H1 cA e1 z1 o1 _ hnm => ?_
        have hcA : dA 10 = cA := Option.some.inj ((hK.2 0 _ rfl).2.symm.trans hnm)
        refine vw_one (v := .null) (q := (10, n.toNatClampNeg)) hba hk g1 hlim g3 g4 g5 g6 g7 g8 z1 o1 ?_
        rw [cell_I (k := 10) (by rw [xmk_kd]) (Or.inl rfl), xmk_kd, xmk_I (Nat.le_refl _), hcA]
        exact e1
      · cases hs
        rw [xmk_len] at hrc
        rw [xmk_sl] at hrs
        simp only [List.length_cons, List.length_nil, List.map_cons, List.map_nil, List.sum_cons, List.sum_nil, Nat.add_zero] at hrc hrs
        intro H locs lsC g1 g2 g3 g4 g5 g6 g7 g8
        refine va_newaK hx hb (atype := .long) (hts _ (GWx_at (by simp [GWx, newarray.typeOf]))) rfl hdg rfl hn rfl (by show _ * 8 ≤ _; omega) (by omega) (by omega) rfl fun H1 cA e1 z1 o1 _ hnm => ?_
        have hcA : dA 11 = cA := Option.some.inj ((hK.2 1 _ rfl).2.symm.trans hnm)
        refine vw_one (v := .null) (q := (11, n.toNatClampNeg)) hba hk g1 hlim g3 g4 g5 g6 g7 g8 z1 o1 ?_
        rw [cell_J (by rw [xmk_kd]), xmk_kd, xmk_J (Nat.le_refl _), hcA]
        exact e1
      · cases hs
        rw [xmk_len] at hrc
        rw [xmk_sl] at hrs
        simp only [List.length_cons, List.length_nil, List.map_cons, List.map_nil, List.sum_cons, List.sum_nil, Nat.add_zero] at hrc hrs
        intro H locs lsC g1 g2 g3 g4 g5 g6 g7 g8
        refine va_newaK hx hb (atype := .boolean) (hts _ (GWx_at (by simp [GWx, newarray.typeOf]))) rfl hdg rfl hn rfl (by show _ * 1 ≤ _; omega) (by omega) (by omega) rfl fun H1 cA e1 z1 o1 _ hnm => ?_
        have hcA : dA 12 = cA := Option.some.inj ((hK.2 2 _ rfl).2.symm.trans hnm)
        refine vw_one (v := .null) (q := (12, n.toNatClampNeg)) hba hk g1 hlim g3 g4 g5 g6 g7 g8 z1 o1 ?_
        rw [cell_I (k := 12) (by rw [xmk_kd]) (Or.inr rfl), xmk_kd, xmk_I (Nat.le_refl _), hcA]
        exact e1
      · cases hs
  · cases hs
theorem XEnv_AO {U : State} {ci : Nat} (hE : XEnv b0 ba fv E U) (h : xak ci < 18) : va_AO (RN ci) U := by
  obtain ⟨-, ⟨h2, h3, h4, h5⟩, -⟩ := hE
  unfold xak at h
  split at h
  · exact h2
  · exact h3
  · exact h4
  · exact h5
  · exact absurd h (by decide)
theorem vs_xan {idx : Nat} (hC : CX p s m args meth c b0 ba fv D dA E y) (hdg : decode (mB y) pc = .ok (.anewarray idx, 3)) (hs : xan (mC y) idx pc ls st h = some (pc', ls', st', h')) (hrc : h'.1.length - n0 ≤ R.cells) (hrs : xslots h' - s0 ≤ R.slots) (hk : VW p l e R s m args below meth c Q b0 ba fv D dA y n0 s0 pc' ls' st' h') : VW p l e R s m args below meth c Q b0 ba fv D dA y n0 s0 pc ls st h := by
  obtain ⟨⟨hx, hb, hml, hown, hts⟩, hK, hE, hin, hba, hfv⟩ := hC
  unfold xan at hs
  split at hs
  · next n r =>
    split at hs
    · cases hs
    · next hc =>
      simp only [not_or, Nat.not_le, Nat.not_lt] at hc
      obtain ⟨⟨hn, hn2⟩, hlim⟩ := hc
      split at hs
      · next ci z hr =>
        split at hs
        · next h18 =>
          cases hs
          rw [xmk_len] at hrc
          rw [xmk_sl] at hrs
          simp only [List.length_cons, List.length_nil, List.map_cons, List.map_nil, List.sum_cons, List.sum_nil, Nat.add_zero] at hrc hrs
          intro H locs lsC g1 g2 g3 g4 g5 g6 g7 g8
          obtain ⟨ht, h13⟩ := xak_ty (dA := dA) h18
          refine W.anew hx hb hown (hts _ (rs_good hr (by decide) (by decide) (by decide))) (va_AO.use (XEnv_AO hE h18)) rfl hdg rfl hn (by omega) (by omega) (by omega) fun cA kA comp f1 f2 f3 f4 => ?_
          obtain ⟨-, -, -, -, -, hnm⟩ := (hK.2 _ _ ht).2
          have hcA : dA (xak ci) = cA := Option.some.inj (hnm.symm.trans f1)
          generalize hH1 : H.push ({ cls := cA, slots := Array.replicate n.toNatClampNeg .null, vm := .none } : Cell) = H1
          have z1 : H1.size = H.size + 1 := by rw [← hH1, Array.size_push]
          have e1 : H1[H.size]? = some (arrV cA n.toNatClampNeg (fun _ => .null)) := by rw [← hH1, Array.getElem?_push_size, ← arrV_new]
          have o1 : ∀ q : Nat, q < H.size → H1[q]? = H[q]? := fun q hq => by rw [← hH1, Array.getElem?_push, if_neg (Nat.ne_of_lt hq)]
          refine vw_one (v := .null) (q := (xak ci, n.toNatClampNeg)) hba hk g1 hlim g3 g4 g5 g6 g7 g8 z1 o1 ?_
          rw [cell_Q (k := xak ci) (by rw [xmk_kd]) h13, xmk_kd, xmk_P (Nat.le_refl _), hcA]
          exact e1
        · cases hs
      · cases hs
  · cases hs
end SS3
