/-! A STEP, ALL TOLD -/
section SS4
variable {p : Program} {l : Launch} {e : Env} {R : Room} {s : State} {m : MethodId} {args : Array Value} {below : List Frame} {meth : Method} {c : Code} {Q : State → Prop}
variable {b0 : Nat} {ba : Nat → Nat} {fv : Value} {D : va_G} {dA : Nat → ClassId} {E : XE} {y n0 s0 d pc pc' : Nat} {ls st ls' st' : List Value} {h h' : XH}
theorem vs_xts {dflt lo hi : Int} {offs : Array Int} {len : Nat} (hC : CX p s m args meth c b0 ba fv D dA E y) (hdg : decode (mB y) pc = .ok (.tableswitch dflt lo hi offs, len)) (hs : xts lo hi dflt offs pc ls st h = some (pc', ls', st', h')) (hk : VW p l e R s m args below meth c Q b0 ba fv D dA y n0 s0 pc' ls' st' h') : VW p l e R s m args below meth c Q b0 ba fv D dA y n0 s0 pc ls st h := by
  obtain ⟨⟨hx, hb, -⟩, -⟩ := hC
  unfold xts at hs
  split at hs
  · next x r =>
    split at hs
    · next hc =>
      split at hs
      · next t ht =>
        cases hs
        intro H locs lsC g1 g2 g3 g4 g5 g6 g7 g8
        exact lv_tableOut hx hb hdg hc (xgo_ok ht) (hk H locs lsC g1 g2 g3 g4 g5 g6 g7 g8)
      · cases hs
    · next hc =>
      split at hs
      · next off ho =>
        split at hs
        · next t ht =>
          cases hs
          intro H locs lsC g1 g2 g3 g4 g5 g6 g7 g8
          exact lv_tableIn hx hb hdg (fun q => hc (Or.inl q)) (fun q => hc (Or.inr q)) ho (xgo_ok ht) (hk H locs lsC g1 g2 g3 g4 g5 g6 g7 g8)
        · cases hs
      · cases hs
  · cases hs
theorem vs_xlk {dflt : Int} {ps : Array (Int × Int)} {len : Nat} (hC : CX p s m args meth c b0 ba fv D dA E y) (hdg : decode (mB y) pc = .ok (.lookupswitch dflt ps, len)) (hs : xlk dflt ps pc ls st h = some (pc', ls', st', h')) (hk : VW p l e R s m args below meth c Q b0 ba fv D dA y n0 s0 pc' ls' st' h') : VW p l e R s m args below meth c Q b0 ba fv D dA y n0 s0 pc ls st h := by
  obtain ⟨⟨hx, hb, -⟩, -⟩ := hC
  unfold xlk at hs
  split at hs
  · next x r =>
    split at hs
    · next hc =>
      split at hs
      · next t ht =>
        cases hs
        intro H locs lsC g1 g2 g3 g4 g5 g6 g7 g8
        exact lv_lookup hx hb hdg hc rfl (xgo_ok ht) (hk H locs lsC g1 g2 g3 g4 g5 g6 g7 g8)
      · cases hs
    · cases hs
  · cases hs
set_option maxHeartbeats 4000000 in
theorem stp_sound {ins : Instr} {len : Nat} (hC : CX p s m args meth c b0 ba fv D dA E y) (hdg : decode (mB y) pc = .ok (ins, len)) (hlen : xlenOK ins len = true) (hf : d ≤ R.frames) (ho : 40 * d ≤ R.locals) (hrc : h'.1.length - n0 ≤ R.cells) (hrs : xslots h' - s0 ≤ R.slots) (hs : stp (mC y) (mIni y) d E pc ins ls st h = some (pc', ls', st', h')) (hk : VW p l e R s m args below meth c Q b0 ba fv D dA y n0 s0 pc' ls' st' h') : VW p l e R s m args below meth c Q b0 ba fv D dA y n0 s0 pc ls st h := by
  obtain ⟨⟨hx, hb, hml, hown, hts⟩, hK, hE, hin, hba, hfv⟩ := id hC
  unfold stp at hs
  split at hs
  · obtain rfl : len = 1 := eq_of_beq hlen
    cases hs
    intro H locs lsC g1 g2 g3 g4 g5 g6 g7 g8
    exact lv_iconst hx hb hdg rfl (hk H locs lsC g1 g2 g3 g4 g5 g6 g7 g8)
  · obtain rfl : len = 2 := eq_of_beq hlen
    cases hs
    intro H locs lsC g1 g2 g3 g4 g5 g6 g7 g8
    exact lv_bipush hx hb hdg rfl (hk H locs lsC g1 g2 g3 g4 g5 g6 g7 g8)
  · obtain rfl : len = 3 := eq_of_beq hlen
    cases hs
    intro H locs lsC g1 g2 g3 g4 g5 g6 g7 g8
    exact lv_sipush hx hb hdg rfl (hk H locs lsC g1 g2 g3 g4 g5 g6 g7 g8)
  · obtain rfl : len = 1 := eq_of_beq hlen
    cases hs
    intro H locs lsC g1 g2 g3 g4 g5 g6 g7 g8
    exact lv_lconst hx hb hdg rfl (hk H locs lsC g1 g2 g3 g4 g5 g6 g7 g8)
  · obtain rfl : len = 2 := eq_of_beq hlen
    split at hs
    · next idx i z hr =>
      split at hs
      · cases hs
        intro H locs lsC g1 g2 g3 g4 g5 g6 g7 g8
        exact va_ldcS hx hb hown (hE.2.2.2.2.1 _ _ (rs_mem hr (by decide)) rfl) hdg (hk H locs lsC g1 g2 g3 g4 g5 g6 g7 g8)
      · cases hs
    · cases hs
  · obtain rfl : len = 3 := eq_of_beq hlen
    split at hs
    · next idx i z hr =>
      cases hs
      intro H locs lsC g1 g2 g3 g4 g5 g6 g7 g8
      exact lv_ldc2 hx hb hown (hts _ (rs_good hr (by decide) (by decide) (by decide))) hdg (hk H locs lsC g1 g2 g3 g4 g5 g6 g7 g8)
    · cases hs
  · obtain rfl : len = 2 := eq_of_beq hlen
    exact vs_xli hC (Or.inl ⟨rfl, rfl⟩) hdg hs hk
  · obtain rfl : len = 1 := eq_of_beq hlen
    exact vs_xli hC (Or.inr ⟨_, rfl, rfl, rfl⟩) hdg hs hk
  · obtain rfl : len = 2 := eq_of_beq hlen
    exact vs_xll hC (Or.inl ⟨rfl, rfl⟩) hdg hs hk
  · obtain rfl : len = 1 := eq_of_beq hlen
    exact vs_xll hC (Or.inr ⟨_, rfl, rfl, rfl⟩) hdg hs hk
  · obtain rfl : len = 2 := eq_of_beq hlen
    exact vs_xla hC (Or.inl ⟨rfl, rfl⟩) hdg hs hk
  · obtain rfl : len = 1 := eq_of_beq hlen
    exact vs_xla hC (Or.inr ⟨_, rfl, rfl, rfl⟩) hdg hs hk
  · obtain rfl : len = 2 := eq_of_beq hlen
    exact vs_xsi hC (Or.inl ⟨rfl, rfl⟩) hdg hs hk
  · obtain rfl : len = 1 := eq_of_beq hlen
    exact vs_xsi hC (Or.inr ⟨_, rfl, rfl, rfl⟩) hdg hs hk
  · obtain rfl : len = 2 := eq_of_beq hlen
    exact vs_xsl hC (Or.inl ⟨rfl, rfl⟩) hdg hs hk
  · obtain rfl : len = 1 := eq_of_beq hlen
    exact vs_xsl hC (Or.inr ⟨_, rfl, rfl, rfl⟩) hdg hs hk
  · obtain rfl : len = 2 := eq_of_beq hlen
    exact vs_xsa hC (Or.inl ⟨rfl, rfl⟩) hdg hs hk
  · obtain rfl : len = 1 := eq_of_beq hlen
    exact vs_xsa hC (Or.inr ⟨_, rfl, rfl, rfl⟩) hdg hs hk
  · obtain rfl : len = 3 := eq_of_beq hlen
    split at hs
    · next hl =>
      cases hs
      intro H locs lsC g1 g2 g3 g4 g5 g6 g7 g8
      have hm := (la_mem (ba := ba) (fv := fv) ls 0 _).mpr ⟨_, _, hl, (by intro q; cases q), rfl⟩
      rw [Nat.zero_add] at hm
      obtain ⟨k, hk1⟩ := List.mem_iff_getElem?.mp hm
      exact lv_iinc hx hb hdg g5 hk1 rfl (by rw [← g6]; exact (List.getElem?_eq_some_iff.mp hl).1) rfl (fun lsC' hv => hk H locs lsC' g1 g2 g3 g4 (la_s1 hfv hv) (by rw [xs1_len]; exact g6) g7 g8)
    · cases hs
  · obtain rfl : len = 1 := eq_of_beq hlen
    exact vs_iadd hC hdg hs hk
  · obtain rfl : len = 1 := eq_of_beq hlen
    exact vs_isub hC hdg hs hk
  · obtain rfl : len = 1 := eq_of_beq hlen
    exact vs_imul hC hdg hs hk
  · obtain rfl : len = 1 := eq_of_beq hlen
    exact vs_iand hC hdg hs hk
  · obtain rfl : len = 1 := eq_of_beq hlen
    exact vs_ishr hC hdg hs hk
  · obtain rfl : len = 1 := eq_of_beq hlen
    exact vs_idiv hC hdg hs hk
  · obtain rfl : len = 1 := eq_of_beq hlen
    exact vs_irem hC hdg hs hk
  · obtain rfl : len = 1 := eq_of_beq hlen
    exact vs_ladd hC hdg hs hk
  · obtain rfl : len = 1 := eq_of_beq hlen
    exact vs_lsub hC hdg hs hk
  · obtain rfl : len = 1 := eq_of_beq hlen
    exact vs_lmul hC hdg hs hk
  · obtain rfl : len = 1 := eq_of_beq hlen
    exact vs_land hC hdg hs hk
  · obtain rfl : len = 1 := eq_of_beq hlen
    exact vs_lor hC hdg hs hk
  · obtain rfl : len = 1 := eq_of_beq hlen
    exact vs_ldiv hC hdg hs hk
  · obtain rfl : len = 1 := eq_of_beq hlen
    exact vs_lrem hC hdg hs hk
  · obtain rfl : len = 1 := eq_of_beq hlen
    exact vs_lshl hC hdg hs hk
  · obtain rfl : len = 1 := eq_of_beq hlen
    exact vs_lushr hC hdg hs hk
  · obtain rfl : len = 1 := eq_of_beq hlen
    split at hs
    · cases hs
      intro H locs lsC g1 g2 g3 g4 g5 g6 g7 g8
      exact W.lcmp hx hb hdg (hk H locs lsC g1 g2 g3 g4 g5 g6 g7 g8)
    · cases hs
  · obtain rfl : len = 1 := eq_of_beq hlen
    split at hs
    · cases hs
      intro H locs lsC g1 g2 g3 g4 g5 g6 g7 g8
      exact lv_i2l hx hb hdg rfl (hk H locs lsC g1 g2 g3 g4 g5 g6 g7 g8)
    · cases hs
  · obtain rfl : len = 1 := eq_of_beq hlen
    split at hs
    · cases hs
      intro H locs lsC g1 g2 g3 g4 g5 g6 g7 g8
      exact lv_l2i hx hb hdg rfl (hk H locs lsC g1 g2 g3 g4 g5 g6 g7 g8)
    · cases hs
  · obtain rfl : len = 1 := eq_of_beq hlen
    split at hs
    · cases hs
      intro H locs lsC g1 g2 g3 g4 g5 g6 g7 g8
      exact lv_i2c hx hb hdg rfl (hk H locs lsC g1 g2 g3 g4 g5 g6 g7 g8)
    · cases hs
  · obtain rfl : len = 1 := eq_of_beq hlen
    split at hs
    · split at hs
      · next hc =>
        cases hs
        intro H locs lsC g1 g2 g3 g4 g5 g6 g7 g8
        exact lv_dup hx hb hdg ((tv_cat hfv _).trans hc) (hk H locs lsC g1 g2 g3 g4 g5 g6 g7 g8)
      · cases hs
    · cases hs
  · obtain rfl : len = 1 := eq_of_beq hlen
    split at hs
    · split at hs
      · next hc =>
        cases hs
        intro H locs lsC g1 g2 g3 g4 g5 g6 g7 g8
        exact lv_dup2_11 hx hb hdg ((tv_cat hfv _).trans hc.1) ((tv_cat hfv _).trans hc.2) (hk H locs lsC g1 g2 g3 g4 g5 g6 g7 g8)
      · cases hs
    · cases hs
  · obtain rfl : len = 1 := eq_of_beq hlen
    split at hs
    · split at hs
      · next hc =>
        cases hs
        intro H locs lsC g1 g2 g3 g4 g5 g6 g7 g8
        exact lv_pop hx hb hdg ((tv_cat hfv _).trans hc) (hk H locs lsC g1 g2 g3 g4 g5 g6 g7 g8)
      · cases hs
    · cases hs
  · obtain rfl : len = 3 := eq_of_beq hlen
    split at hs
    · next cnd off sx y0 x0 r =>
      cases cnd
      · exact vs_if_icmp_eq hC hdg hs hk
      · exact vs_if_icmp_ne hC hdg hs hk
      · exact vs_if_icmp_lt hC hdg hs hk
      · exact vs_if_icmp_ge hC hdg hs hk
      · exact vs_if_icmp_gt hC hdg hs hk
      · exact vs_if_icmp_le hC hdg hs hk
    · cases hs
  · obtain rfl : len = 3 := eq_of_beq hlen
    split at hs
    · next cnd off sx x0 r =>
      cases cnd
      · exact vs_ifCond_eq hC hdg hs hk
      · exact vs_ifCond_ne hC hdg hs hk
      · exact vs_ifCond_lt hC hdg hs hk
      · exact vs_ifCond_ge hC hdg hs hk
      · exact vs_ifCond_gt hC hdg hs hk
      · exact vs_ifCond_le hC hdg hs hk
    · cases hs
  · obtain rfl : len = 3 := eq_of_beq hlen
    split at hs
    · next off t ht =>
      cases hs
      intro H locs lsC g1 g2 g3 g4 g5 g6 g7 g8
      exact lv_goto hx hb hdg (xgo_ok ht) (hk H locs lsC g1 g2 g3 g4 g5 g6 g7 g8)
    · cases hs
  · exact vs_xts hC hdg hs hk
  · exact vs_xlk hC hdg hs hk
  · obtain rfl : len = 3 := eq_of_beq hlen
    exact vs_xgf hC hdg hs hk
  · obtain rfl : len = 3 := eq_of_beq hlen
    exact vs_xpf hC hdg hs hk
  · obtain rfl : len = 3 := eq_of_beq hlen
    exact vs_xgs hC hdg hs hk
  · obtain rfl : len = 1 := eq_of_beq hlen
    exact vs_xial hC hdg hs hk
  · obtain rfl : len = 1 := eq_of_beq hlen
    exact vs_xbal hC hdg hs hk
  · obtain rfl : len = 1 := eq_of_beq hlen
    exact vs_xlal hC hdg hs hk
  · obtain rfl : len = 1 := eq_of_beq hlen
    exact vs_xaal hC hdg hs hk
  · obtain rfl : len = 1 := eq_of_beq hlen
    exact vs_xias hC hdg hs hk
  · obtain rfl : len = 1 := eq_of_beq hlen
    exact vs_xbas hC hdg hs hk
  · obtain rfl : len = 1 := eq_of_beq hlen
    exact vs_xlas hC hdg hs hk
  · obtain rfl : len = 1 := eq_of_beq hlen
    exact vs_xaas hC hdg hs hk
  · obtain rfl : len = 1 := eq_of_beq hlen
    exact vs_xlen hC hdg hs hk
  · obtain rfl : len = 3 := eq_of_beq hlen
    exact vs_xnew hC hdg hs hrc hrs hk
  · obtain rfl : len = 2 := eq_of_beq hlen
    exact vs_xna hC hdg hs hrc hrs hk
  · obtain rfl : len = 3 := eq_of_beq hlen
    exact vs_xan hC hdg hs hrc hrs hk
  · obtain rfl : len = 4 := eq_of_beq hlen
    split at hs
    · next hd2 =>
      subst hd2
      exact vs_xmn hC hdg hs hrc hrs hk
    · cases hs
  · obtain rfl : len = 3 := eq_of_beq hlen
    split at hs
    · next hr =>
      split at hs
      · cases hs
      · exact vs_xoi hC hdg hr (by omega) (by omega) hs hk
    · cases hs
  · obtain rfl : len = 3 := eq_of_beq hlen
    split at hs
    · next hr =>
      split at hs
      · cases hs
      · exact vs_xac hC hdg hr (by omega) (by omega) hs hk
    · cases hs
  · cases hs
end SS4
