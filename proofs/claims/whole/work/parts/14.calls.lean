/-! CALLS, AND ALL RUNS -/
theorem init_all : (List.range 195).all (fun y => !(mIni y) || (mR y).isNone) = true := by decide +kernel
theorem init_ret {y : Nat} (h : y < 195) (hi : mIni y = true) : mR y = none := by
  have h1 := List.all_eq_true.mp init_all y (List.mem_range.mpr h)
  rw [hi] at h1
  exact Option.isNone_iff_eq_none.mp h1
section SIM3
variable {p : Program} {l : Launch} {e : Env} {R : Room} {s : State} {m : MethodId} {args : Array Value} {below : List Frame} {meth : Method} {c : Code} {Q : State → Prop}
variable {b0 : Nat} {ba : Nat → Nat} {fv : Value} {D : va_G} {dA : Nat → ClassId} {E : XE} {y n0 s0 pc : Nat} {ls st : List Value} {h h1 : XH}
theorem len_as {y' o : Nat} {st : List Value} {as : List Value} (hk : mA y' + o ≤ st.length) (ha : (st.take (mA y' + o)).reverse = as) : as.length = mA y' + o := by
  rw [← ha, List.length_reverse, List.length_take]
  omega
theorem st_eq {k : Nat} {st as : List Value} (ha : (st.take k).reverse = as) : st = as.reverse ++ st.drop k := by
  rw [← ha, List.reverse_reverse, List.take_append_drop]
theorem go_call {n d' y' o idx : Nat} {ins : Instr} {as : List Value} {r1 : Option Value} (IH : SimAt E n) (hC : CX p s m args meth c b0 ba fv D dA E y) (hdg : decode (mB y) pc = .ok (ins, 3)) (hcl : xcl (mC y) ins = some (y', o)) (hf : d' + 1 ≤ R.frames) (ho : 40 * (d' + 1) ≤ R.locals)
    (hk : mA y' + o ≤ st.length) (hsum : ((st.drop (mA y' + o)).map fun v => v.category).sum ≤ 8) (hal : (xen as).length ≤ mL y') (hrv : o = 1 → xrc y' as h = true) (ha : (st.take (mA y' + o)).reverse = as) (he : ev E n d' y' 0 (xent as (mL y')) [] h = some (r1, h1)) (hsh : h.1.length ≤ h1.1.length ∧ xslots h ≤ xslots h1) (hrc : h1.1.length - n0 ≤ R.cells) (hrs : xslots h1 - s0 ≤ R.slots)
    (hkk : VW p l e R s m args below meth c Q b0 ba fv D dA y n0 s0 (pc + 3) ls (r1.toList ++ st.drop (mA y' + o)) h1) : VW p l e R s m args below meth c Q b0 ba fv D dA y n0 s0 pc ls st h := by
  obtain ⟨⟨hx, hb, hml, hown, hts⟩, hK, hE, hin, hba, hfv⟩ := id hC
  have fin : ∀ (a : Array Value), (∀ (H : Heap) (locs : List Loc) (lsC : Array Slot), H.size = b0 + h.1.length → h.1.length ≤ xTop → va_P D vwCl (wl ba fv dA h) H → va_S (xA b0) s.heap H locs → lsC.size = mL y → n0 ≤ h.1.length → s0 ≤ xslots h → va_Run p l e R s m args below meth c H locs (h.1.length - n0) (xslots h - s0) (h1.1.length - h.1.length) (xslots h1 - xslots h) (F0 m pc lsC (st.map (tv ba fv))) ((st.drop (mA y' + o)).map (tv ba fv)) (XQ b0 ba fv D dA r1 h1 a) (xA b0)) → VW p l e R s m args below meth c Q b0 ba fv D dA y n0 s0 pc ls st h := fun a hr => call_go (y' := y') (d' := d') (n := n) (as := as) hsh hr hkk
  have room : ∀ (q : y' < 195), d' + 1 ≤ R.frames ∧ 8 + (mL y' + 11) + 40 * d' ≤ R.locals := fun q => ⟨hf, by have := (mth_at q).2.2.2.2; omega⟩
  have lst : (as.map (tv ba fv)).length = mA y' + o := by rw [List.length_map]; exact len_as hk ha
  have hst : st.map (tv ba fv) = (as.map (tv ba fv)).reverse ++ (st.drop (mA y' + o)).map (tv ba fv) := by
    conv => lhs; rw [st_eq ha]
    rw [List.map_append, List.map_reverse]
  have hW : ∀ lsC : Array Slot, 2 * (F0 m pc lsC (st.map (tv ba fv))).monitorRoom + (((st.drop (mA y' + o)).map (tv ba fv)).map fun v => v.category).sum ≤ 8 := fun lsC => by
    rw [tv_sum hfv]
    show 2 * 0 + _ ≤ 8
    omega
  unfold xcl at hcl
  split at hcl
  · next ix =>
    split at hcl
    · next y2 z hr =>
      split at hcl
      · next hc =>
        cases hcl
        obtain ⟨hy, -, hI⟩ := chk_use hr (Or.inl rfl)
        obtain ⟨hI1, hI2⟩ := hI hc.1
        obtain ⟨a, asr, has, hrcv⟩ := xrc_ok (hrv rfl)
        have M := met_of IH (l := l) (D := D) (dA := dA) hy hal he hba hfv
        subst has
        refine fin ((Value.ref (ba a) :: asr.map (tv ba fv)).toArray) fun H locs lsC g1 g2 g3 g4 g5 g7 g8 => ?_
        have hl1 : (asr.map (tv ba fv)).length = mA y' := by
          rw [List.map_cons, List.length_cons] at lst
          omega
        have hP := pre_of (as := Value.ref a :: asr) hK hE g1 g2 g3 g4
        exact va_runV (C := RN (mC y')) (Ts := GWl) (b := ba a) (As := asr.map (tv ba fv)) ⟨hx, hb, hml, hown, hts⟩ M (cwV (mA y') hts (gi (fun w hw => by
          unfold wsV at hw
          rcases List.mem_append.mp hw with hw | hw
          · simp only [List.mem_cons, List.not_mem_nil, or_false] at hw
            rcases hw with rfl | rfl | rfl | rfl
            · exact rs_good hr (by decide) (by decide) (by decide)
            · exact hI1
            · exact hI2 hc.2
            · rw [← cls_ok (by omega)]
              exact init_in hy
          · exact wcs_in hy w hw)) rfl rfl rfl ⟨cls_ok (by omega), (mth_at hy).2.1, (mth_at hy).2.2.1, (mth_at hy).2.2.2.1⟩ (room hy)) ⟨hP.1, recv_ok hK hE g3 g4 hrcv, hP.2⟩ rfl hl1 g5 (by
            show st.map (tv ba fv) = _
            rw [hst, List.map_cons, List.reverse_cons, List.append_assoc]
            rfl) (hW lsC) hdg ⟨by omega, by omega⟩
      · cases hcl
    · cases hcl
  · next ix =>
    split at hcl
    · next y2 z hr =>
      split at hcl
      · next hc =>
        cases hcl
        obtain ⟨hy, -, hI⟩ := chk_use hr (Or.inl rfl)
        obtain ⟨hI1, hI2⟩ := hI hc.1
        obtain ⟨a, asr, has, hrcv⟩ := xrc_ok (hrv rfl)
        have M := met_of IH (l := l) (D := D) (dA := dA) hy hal he hba hfv
        subst has
        refine fin ((Value.ref (ba a) :: asr.map (tv ba fv)).toArray) fun H locs lsC g1 g2 g3 g4 g5 g7 g8 => ?_
        have hl1 : (asr.map (tv ba fv)).length = mA y' := by
          rw [List.map_cons, List.length_cons] at lst
          omega
        have hP := pre_of (as := Value.ref a :: asr) hK hE g1 g2 g3 g4
        have hret : mR y' = none := init_ret hy hc.2
        exact va_runI (Ts := GWl) (b := ba a) (As := asr.map (tv ba fv)) ⟨hx, hb, hml, hown, hts⟩ M (cwI (mA y') hts (gi (wcs_in hy)) (by unfold wcs wcode; rw [hret]) rfl rfl (hts _ (init_in hy)) (hts _ (rs_good hr (by decide) (by decide) (by decide))) (hts _ hI1) (of_decide_eq_true hc.2) ⟨(mth_at hy).2.1, (mth_at hy).2.2.1, (mth_at hy).2.2.2.1⟩ (room hy)) hP rfl hl1 g5 (by
            show st.map (tv ba fv) = _
            rw [hst, List.map_cons, List.reverse_cons, List.append_assoc]
            rfl) (hW lsC) hdg ⟨by omega, by omega⟩
      · cases hcl
    · next y2 z hr =>
      split at hcl
      · next hc =>
        cases hcl
        obtain ⟨hy, -, hI⟩ := chk_use hr (Or.inr rfl)
        obtain ⟨hI1, hI2⟩ := hI hc.1
        obtain ⟨a, asr, has, hrcv⟩ := xrc_ok (hrv rfl)
        have M := met_of IH (l := l) (D := D) (dA := dA) hy hal he hba hfv
        subst has
        refine fin ((Value.ref (ba a) :: asr.map (tv ba fv)).toArray) fun H locs lsC g1 g2 g3 g4 g5 g7 g8 => ?_
        have hl1 : (asr.map (tv ba fv)).length = mA y' := by
          rw [List.map_cons, List.length_cons] at lst
          omega
        have hP := pre_of (as := Value.ref a :: asr) hK hE g1 g2 g3 g4
        have hret : mR y' = none := init_ret hy hc.2
        have hnl : va_Nw (.methodLinkNest (RN (mC y)) ix (mN y') RX8) s := hE.1 _ _ (rs_mem hr (by decide)) rfl
        exact va_runIN (Ts := GWl) (b := ba a) (As := asr.map (tv ba fv)) ⟨hx, hb, hml, hown, hts⟩ M ⟨va_cnB (mA y') hts (gi (wcs_in hy)) (by unfold wcs wcode; rw [hret]) rfl rfl hnl (hts _ (init_in hy)) ⟨(mth_at hy).2.1, (mth_at hy).2.2.1, (mth_at hy).2.2.2.1⟩ (room hy), of_decide_eq_true hc.2, hts _ hI1⟩ hP rfl hl1 g5 (by
            show st.map (tv ba fv) = _
            rw [hst, List.map_cons, List.reverse_cons, List.append_assoc]
            rfl) (hW lsC) hdg ⟨by omega, by omega⟩
      · cases hcl
    · cases hcl
  · next ix =>
    split at hcl
    · next y2 z hr =>
      split at hcl
      · next hc =>
        cases hcl
        obtain ⟨hy, hI, -⟩ := chk_use hr (Or.inl rfl)
        have M := met_of IH (l := l) (D := D) (dA := dA) hy hal he hba hfv
        refine fin ((as.map (tv ba fv)).toArray) fun H locs lsC g1 g2 g3 g4 g5 g7 g8 => ?_
        have hP := pre_of (as := as) hK hE g1 g2 g3 g4
        exact va_runS (Ts := GWl) (As := as.map (tv ba fv)) ⟨hx, hb, hml, hown, hts⟩ M (va_cwS (mA y') hts (gi (fun w hw => by
          unfold va_wsS at hw
          rcases List.mem_append.mp hw with hw | hw
          · simp only [List.mem_cons, List.not_mem_nil, or_false] at hw
            rcases hw with rfl | rfl | rfl
            · exact rs_good hr (by decide) (by decide) (by decide)
            · exact hI hc
            · exact init_in hy
          · exact wcs_in hy w hw)) rfl rfl rfl ⟨(mth_at hy).2.1, (mth_at hy).2.2.1, (mth_at hy).2.2.2.1⟩ (room hy)) hP rfl lst g5 hst (hW lsC) hdg ⟨by omega, by omega⟩
      · cases hcl
    · next y2 z hr =>
      split at hcl
      · next hc =>
        cases hcl
        obtain ⟨hy, hI, -⟩ := chk_use hr (Or.inr rfl)
        have M := met_of IH (l := l) (D := D) (dA := dA) hy hal he hba hfv
        refine fin ((as.map (tv ba fv)).toArray) fun H locs lsC g1 g2 g3 g4 g5 g7 g8 => ?_
        have hP := pre_of (as := as) hK hE g1 g2 g3 g4
        have hnl : va_Nw (.methodLinkNest (RN (mC y)) ix (mN y') RX8) s := hE.1 _ _ (rs_mem hr (by decide)) rfl
        exact va_runSN (Ts := GWl) (As := as.map (tv ba fv)) ⟨hx, hb, hml, hown, hts⟩ M ⟨va_cnB (mA y') hts (gi (wcs_in hy)) rfl rfl rfl hnl (hts _ (init_in hy)) ⟨(mth_at hy).2.1, (mth_at hy).2.2.1, (mth_at hy).2.2.2.1⟩ (room hy), hts _ (hI hc), trivial⟩ hP rfl lst g5 hst (hW lsC) hdg ⟨by omega, by omega⟩
      · cases hcl
    · cases hcl
  · cases hcl
end SIM3
theorem sim (E : XE) : ∀ n : Nat, SimAt E n
  | 0 => by
    intro d y pc ls st h h' r he
    simp [ev] at he
  | n + 1 => by
    have IH := sim E n
    intro d y pc ls st h h' r he p l e R s m args below meth c Q b0 ba fv D dA n0 s0 hC hf ho hrc hrs hret
    unfold ev at he
    split at he
    · cases he
    · next ins len hdec =>
      have hdg := dec_ok hdec
      split at he
      · next hlen =>
        split at he
        · next r' hxr =>
          cases he
          have hl1 : len = 1 := by
            unfold xrt at hxr
            split at hxr
            · exact eq_of_beq hlen
            · exact eq_of_beq hlen
            · exact eq_of_beq hlen
            · cases hxr
          rw [hl1] at hdg
          exact hret pc ins ls st hxr hdg
        · split at he
          · next y' o hcl =>
            split at he
            · cases he
            · next d' =>
              split at he
              · next hcond =>
                split at he
                · next r1 h1 he1 =>
                  obtain ⟨⟨hk, hsum, hal⟩, hrv⟩ := hcond
                  have kk := IH (d' + 1) y (pc + 3) ls _ h1 h' r he p l e R s m args below meth c Q b0 ba fv D dA n0 s0 hC hf ho hrc hrs hret
                  have sh1 := shape_len (ev_shape n he1)
                  have sh2 := shape_len (ev_shape n he)
                  have hl3 : len = 3 := by
                    unfold xcl at hcl
                    split at hcl
                    · exact eq_of_beq hlen
                    · exact eq_of_beq hlen
                    · exact eq_of_beq hlen
                    · cases hcl
                  rw [hl3] at hdg
                  exact go_call (idx := 0) IH hC hdg hcl hf ho hk hsum hal hrv rfl he1 sh1 (by omega) (by omega) kk
                · cases he
              · cases he
          · split at he
            · next pc' ls' st' h1 hs =>
              have kk := IH d y pc' ls' st' h1 h' r he p l e R s m args below meth c Q b0 ba fv D dA n0 s0 hC hf ho hrc hrs hret
              have sh2 := shape_len (ev_shape n he)
              exact stp_sound hC hdg hlen hf ho (by omega) (by omega) hs kk
            · cases he
      · cases he
