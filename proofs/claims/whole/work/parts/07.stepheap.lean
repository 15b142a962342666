section SS2
variable {p : Program} {l : Launch} {e : Env} {R : Room} {s : State} {m : MethodId} {args : Array Value} {below : List Frame} {meth : Method} {c : Code} {Q : State → Prop}
variable {b0 : Nat} {ba : Nat → Nat} {fv : Value} {D : va_G} {dA : Nat → ClassId} {E : XE} {y n0 s0 d pc pc' : Nat} {ls st ls' st' : List Value} {h h' : XH} {k i : Nat}
theorem sub5 {a b : Nat} (h1 : b ≤ a) (h2 : a < b + 5) : a - b < 5 ∧ b + (a - b) = a := by omega
theorem xkd_same (hs : h'.1 = h.1) (a : Nat) : xkd h' a = xkd h a := by unfold xkd; rw [hs]
theorem xsl_same (hs : h'.1 = h.1) : xslots h' = xslots h := by unfold xslots; rw [hs]
theorem xA_ba {a : Nat} (hba : ∀ k, k < xTop → ba k = b0 + k) (ha : a < xTop) : xA b0 (ba a) := by
  rw [hba a ha]
  exact Nat.le_add_right _ _
theorem vw_same {H : Heap} {locs : List Loc} {lsC : Array Slot} (hk : VW p l e R s m args below meth c Q b0 ba fv D dA y n0 s0 pc ls st h') (hs : h'.1 = h.1) (g1 : H.size = b0 + h.1.length) (g2 : h.1.length ≤ xTop) (g3 : va_P D vwCl (wl ba fv dA h') H) (g4 : va_S (xA b0) s.heap H locs) (g5 : lv_has lsC (mL y) (la ba fv 0 ls)) (g6 : ls.length = mL y) (g7 : n0 ≤ h.1.length) (g8 : s0 ≤ xslots h) :
    W p l e R s m args below meth c H locs (h.1.length - n0) (xslots h - s0) Q (F0 m pc lsC (st.map (tv ba fv))) := by
  have t := hk H locs lsC (by rw [hs]; exact g1) (by rw [hs]; exact g2) g3 g4 g5 g6 (by rw [hs]; exact g7) (by rw [xsl_same hs]; exact g8)
  rw [hs, xsl_same hs] at t
  exact t
theorem vs_xgf {idx : Nat} (hC : CX p s m args meth c b0 ba fv D dA E y) (hdg : decode (mB y) pc = .ok (.getfield idx, 3)) (hs : xgf (mC y) idx pc ls st h = some (pc', ls', st', h')) (hk : VW p l e R s m args below meth c Q b0 ba fv D dA y n0 s0 pc' ls' st' h') : VW p l e R s m args below meth c Q b0 ba fv D dA y n0 s0 pc ls st h := by
  obtain ⟨⟨hx, hb, hml, hown, hts⟩, hK, hE, hin, hba, hfv⟩ := hC
  unfold xgf at hs
  split at hs
  · next a r =>
    split at hs
    · next ci k hr =>
      split at hs
      · next hc =>
        obtain ⟨h1, h2, h3, h4⟩ := hc
        cases hs
        intro H locs lsC g1 g2 g3 g4 g5 g6 g7 g8
        exact va_get (C := RN ci) (T := TC ci) (N := NC ci) (ref := (TC ci k).1) hx hb hts (lays_in h3) hown hK g3 a (wl_obj h2 h3) (vwCl_at h3) k h4 (hts _ (rs_good hr (by decide) (by decide) (by decide))) (fun _ q => q) (xfs_at h4) hdg (hk H locs lsC g1 g2 g3 g4 g5 g6 g7 g8)
      · cases hs
    · next w x hr =>
      split at hs
      · next hcc =>
        cases hs
        intro H locs lsC g1 g2 g3 g4 g5 g6 g7 g8
        have kk := hk H locs lsC g1 g2 g3 g4 g5 g6 g7 g8
        have hv := hE.2.2.2.1.1 (a - xStr) (sub5 hcc.1 hcc.2).1
        have ea : xStr + (a - xStr) = a := (sub5 hcc.1 hcc.2).2
        simp only [ea] at hv
        have hl := hts _ (rs_good hr (by decide) (by decide) (by decide))
        by_cases hw : w = 0
        · subst hw
          exact vk_getf hx hb hv.2.1 g4 hown hl (fun _ q => q) hdg kk
        · have hl2 : (Cond.fieldLink (RN (mC y)) idx "java/lang/String" "value" "[B").before args s = true := by
            have : wOf (mC y) (idx, 1, w, x) = .fieldLink (RN (mC y)) idx "java/lang/String" "value" "[B" := if_neg hw
            rw [this] at hl
            exact hl
          rw [if_neg hw] at kk
          exact vk_getf hx hb hv.2.2.1 g4 hown hl2 (fun _ q => q) hdg kk
      · cases hs
    · cases hs
  · cases hs
theorem vs_put {idx ci a : Nat} {v : Value} {r : List Value} (hC : CX p s m args meth c b0 ba fv D dA E y) (hdg : decode (mB y) pc = .ok (.putfield idx, 3)) (hr : rs (mC y) idx = (0, ci, k)) (h1 : a < xTop) (h2 : (xkd h a).1 = ci) (h3 : ci < 10) (h4 : k < NC ci) (h5 : (TC ci k).2.2.2 = true → mIni y = true ∧ ci = mC y)
    (hn : narrow (tyC ci k) (tv ba fv v) = tv ba fv v) (hf : fits (tyC ci k) (tv ba fv v) = true) (hs1 : h'.1 = h.1) (ho : ∀ b, b ≠ a → h'.2.1 b = h.2.1 b ∧ h'.2.2.1 b = h.2.2.1 b ∧ h'.2.2.2 b = h.2.2.2 b) (hv : xfv ci k h' a = v) (hj : ∀ j, j ≠ k → xfv ci j h' a = xfv ci j h a)
    (hk : VW p l e R s m args below meth c Q b0 ba fv D dA y n0 s0 (pc + 3) ls r h') : VW p l e R s m args below meth c Q b0 ba fv D dA y n0 s0 pc ls (v :: .ref a :: r) h := by
  obtain ⟨⟨hx, hb, hml, hown, hts⟩, hK, hE, hin, hba, hfv⟩ := hC
  intro H locs lsC g1 g2 g3 g4 g5 g6 g7 g8
  have he : (wl ba fv dA h)[a]? = some (ba a, .inr (ci, xfs ba fv ci h a)) := wl_obj h2 h3
  obtain ⟨rr, q0, cell, q1, q2, q3, q4⟩ := g3 a _ he
  have hr' : rr = (RN ci, TC ci, NC ci) := Option.some.inj (q0.symm.trans (vwCl_at h3))
  subst hr'
  obtain ⟨hS, hfc, kC, hkC, hkind⟩ := hK.1 ci _ (vwCl_at h3)
  obtain ⟨cf, kf, fi, f, hi, hsl⟩ := hS k h4
  have hap := va_apart (own := RN (mC y)) hts (lays_in h3) (tyC ci) (tyC_ok h3) (nmC_ok h3) hK (vwCl_at h3)
  have hst := (u_facts hfc hkC (u_lays hts (lays_in h3) h4) hi).1
  have hlink : (Cond.fieldLink (RN (mC y)) idx (TC ci k).1 (TC ci k).2.1 (TC ci k).2.2.1).before args s = true := hts _ (rs_good hr (by decide) (by decide) (by decide))
  have hlay := hts _ (lays_in h3 _ (u_in_lay h4))
  have hd := tyC_ok h3 k h4
  have hset : (xfs ba fv ci h a).set k (tv ba fv v) = xfs ba fv ci h' a := xfs_set h4 (by rw [hv]) hj
  have fin : ∀ H' : Heap, H'[ba a]? = some (cell.setSlot f.slot (tv ba fv v)) → H'.size = H.size → (∀ q, q ≠ ba a → H'[q]? = H[q]?) → W p l e R s m args below meth c H' (locs ++ [⟨ba a, f.slot⟩]) (h.1.length - n0) (xslots h - s0) Q (F0 m (pc + 3) lsC (r.map (tv ba fv))) := by
    intro H' e1 e2 e3
    refine vw_same hk hs1 (by rw [e2]; exact g1) g2 (wl_P_set hba g2 g3 (xkd_lt (by omega)) hs1 ho ?_ e3) (g4.put e2 e3 (xA_ba hba h1)) g5 g6 g7 g8
    rw [xcell_obj (by rw [xkd_same hs1]; exact h2) h3]
    rw [hsl] at e1
    refine ⟨_, vwCl_at h3, t_OB.to (V := updV (vp_V (xfs ba fv ci h a)) k (tv ba fv v)) ⟨_, e1, q2, q3, t_set q4 hap h4 (tv ba fv v)⟩ (fun j hj2 => ?_)⟩
    rw [vp_updV_set (by rw [xfs_len]; exact h4), hset]
  unfold u_lay at hlay
  by_cases hfin : (TC ci k).2.2.2 = true
  · rw [if_pos hfin] at hlay
    obtain ⟨f1, f2⟩ := h5 hfin
    have hcf : m.cls = cf := by
      obtain ⟨_, _, c', _, _, _, -, -, hf', -, -, -, hown2, -⟩ := Cond.laysFinal_spec hlay
      have e1 : c' = cf := by have := hi.symm.trans hf'; simp at this; exact this.1.symm
      rw [own_decl h3 h4, f2] at hown2
      rw [← e1]; exact Option.some.inj (hown.symm.trans hown2)
    have h6 := u_fits hfc hkC hkind (Or.inr hlay) hi hd hn hf
    exact W.putFinK hx hb hown hlink hi hst hcf (hin f1) (by rw [q2]; exact h6) q1 q3 (by rw [hsl]; exact k2_hasslot (q4 k h4)) rfl rfl hdg fin
  · rw [if_neg hfin] at hlay
    have h6 := u_store hfc hkC hkind hlay hi hd hn hf
    exact W.putK hx hb (f := f) ⟨hown, hlink, ⟨_, _, _, hi⟩, hst⟩ (by rw [q2]; exact h6) q1 q3 (by rw [hsl]; exact k2_hasslot (q4 k h4)) rfl rfl hdg fin
theorem xuI_o {I : Nat → Nat → Int32} {a k b : Nat} {x : Int32} (hb : b ≠ a) : xuI I a k x b = I b := funext fun j => if_neg (fun q => hb q.1)
theorem xuJ_o {I : Nat → Nat → Int64} {a k b : Nat} {x : Int64} (hb : b ≠ a) : xuJ I a k x b = I b := funext fun j => if_neg (fun q => hb q.1)
theorem xuP_o {I : Nat → Nat → Option Nat} {a k b : Nat} {x : Option Nat} (hb : b ≠ a) : xuP I a k x b = I b := funext fun j => if_neg (fun q => hb q.1)
theorem vs_xpf {idx : Nat} (hC : CX p s m args meth c b0 ba fv D dA E y) (hdg : decode (mB y) pc = .ok (.putfield idx, 3)) (hs : xpf (mC y) (mIni y) idx pc ls st h = some (pc', ls', st', h')) (hk : VW p l e R s m args below meth c Q b0 ba fv D dA y n0 s0 pc' ls' st' h') : VW p l e R s m args below meth c Q b0 ba fv D dA y n0 s0 pc ls st h := by
  unfold xpf at hs
  split at hs
  · next v a r =>
    split at hs
    · next ci k hr =>
      split at hs
      · next hc =>
        obtain ⟨h1, h2, h3, h4, h5⟩ := hc
        split at hs
        · next x ht =>
          cases hs
          refine vs_put (h' := (h.1, xuI h.2.1 a k x, h.2.2.1, h.2.2.2)) hC hdg hr h1 h2 h3 h4 h5 (by rw [ht]; rfl) (by rw [ht]; rfl) rfl (fun b hb => ⟨xuI_o hb, rfl, rfl⟩) ?_ (fun j hj => ?_) hk
          · unfold xfv
            rw [ht]
            simp [xuI]
          · unfold xfv
            simp [xuI, hj]
        · next x ht =>
          cases hs
          refine vs_put (h' := (h.1, h.2.1, xuJ h.2.2.1 a k x, h.2.2.2)) hC hdg hr h1 h2 h3 h4 h5 (by rw [ht]; rfl) (by rw [ht]; rfl) rfl (fun b hb => ⟨rfl, xuJ_o hb, rfl⟩) ?_ (fun j hj => ?_) hk
          · unfold xfv
            rw [ht]
            simp [xuJ]
          · unfold xfv
            simp [xuJ, hj]
        · next x cn ht =>
          cases hs
          refine vs_put (h' := (h.1, h.2.1, h.2.2.1, xuP h.2.2.2 a k (some x))) hC hdg hr h1 h2 h3 h4 h5 (by rw [ht]; rfl) (by rw [ht]; rfl) rfl (fun b hb => ⟨rfl, rfl, xuP_o hb⟩) ?_ (fun j hj => ?_) hk
          · unfold xfv
            rw [ht]
            simp [xuP, va_rf]
          · unfold xfv
            simp [xuP, hj]
        · next x cn ht =>
          cases hs
          refine vs_put (h' := (h.1, h.2.1, h.2.2.1, xuP h.2.2.2 a k (some x))) hC hdg hr h1 h2 h3 h4 h5 (by rw [ht]; rfl) (by rw [ht]; rfl) rfl (fun b hb => ⟨rfl, rfl, xuP_o hb⟩) ?_ (fun j hj => ?_) hk
          · unfold xfv
            rw [ht]
            simp [xuP, va_rf]
          · unfold xfv
            simp [xuP, hj]
        · cases hs
      · cases hs
    · cases hs
  · cases hs
theorem vs_xgs {idx : Nat} (hC : CX p s m args meth c b0 ba fv D dA E y) (hdg : decode (mB y) pc = .ok (.getstatic idx, 3)) (hs : xgs (mC y) idx pc ls st h = some (pc', ls', st', h')) (hk : VW p l e R s m args below meth c Q b0 ba fv D dA y n0 s0 pc' ls' st' h') : VW p l e R s m args below meth c Q b0 ba fv D dA y n0 s0 pc ls st h := by
  obtain ⟨⟨hx, hb, hml, hown, hts⟩, hK, hE, hin, hba, hfv⟩ := hC
  unfold xgs at hs
  split at hs
  · next w x hr =>
    cases hs
    intro H locs lsC g1 g2 g3 g4 g5 g6 g7 g8
    have kk := hk H locs lsC g1 g2 g3 g4 g5 g6 g7 g8
    have hl := hts _ (rs_good hr (by decide) (by decide) (by decide))
    by_cases hw : w = 0
    · subst hw
      exact va_gets hx hb hE.2.2.2.2.2.1 g4 hown hl (fun _ q => q) hdg kk
    · have hl2 : (Cond.fieldLink (RN (mC y)) idx "jdk/internal/util/Preconditions" "SIOOBE_FORMATTER" "Ljava/util/function/BiFunction;").before args s = true := by
        have : wOf (mC y) (idx, 2, w, x) = .fieldLink (RN (mC y)) idx "jdk/internal/util/Preconditions" "SIOOBE_FORMATTER" "Ljava/util/function/BiFunction;" := if_neg hw
        rw [this] at hl
        exact hl
      rw [if_neg hw] at kk
      exact va_gets hx hb hE.2.2.2.2.2.2.1 g4 hown hl2 (fun _ q => q) hdg kk
  · cases hs
theorem vs_xial (hC : CX p s m args meth c b0 ba fv D dA E y) (hdg : decode (mB y) pc = .ok (.iaload, 1)) (hs : xial E pc ls st h = some (pc', ls', st', h')) (hk : VW p l e R s m args below meth c Q b0 ba fv D dA y n0 s0 pc' ls' st' h') : VW p l e R s m args below meth c Q b0 ba fv D dA y n0 s0 pc ls st h := by
  obtain ⟨⟨hx, hb, hml, hown, hts⟩, hK, hE, hin, hba, hfv⟩ := hC
  unfold xial at hs
  split at hs
  · next i a r =>
    split at hs
    · next ha =>
      split at hs
      · next hi =>
        cases hs
        intro H locs lsC g1 g2 g3 g4 g5 g6 g7 g8
        have kk := hk H locs lsC g1 g2 g3 g4 g5 g6 g7 g8
        subst ha
        obtain ⟨-, -, -, -, -, -, -, k1, k2, k3⟩ := hE
        exact va_sld hx hb k1 (by omega) (Nat.not_le.mpr k2) g4 (xin_ok hi) hdg kk
      · cases hs
    · split at hs
      · next hc =>
        obtain ⟨h1, h2, h3⟩ := hc
        cases hs
        intro H locs lsC g1 g2 g3 g4 g5 g6 g7 g8
        exact va_iald hx hb hK g3 a 0 (wl_I h2 (Or.inl rfl)) rfl (xin_ok h3) hdg (hk H locs lsC g1 g2 g3 g4 g5 g6 g7 g8)
      · cases hs
  · cases hs
theorem vs_xbal (hC : CX p s m args meth c b0 ba fv D dA E y) (hdg : decode (mB y) pc = .ok (.baload, 1)) (hs : xbal pc ls st h = some (pc', ls', st', h')) (hk : VW p l e R s m args below meth c Q b0 ba fv D dA y n0 s0 pc' ls' st' h') : VW p l e R s m args below meth c Q b0 ba fv D dA y n0 s0 pc ls st h := by
  obtain ⟨⟨hx, hb, hml, hown, hts⟩, hK, hE, hin, hba, hfv⟩ := hC
  unfold xbal at hs
  split at hs
  · next i a r =>
    split at hs
    · next hcc =>
      split at hs
      · next hi =>
        cases hs
        intro H locs lsC g1 g2 g3 g4 g5 g6 g7 g8
        have kk := hk H locs lsC g1 g2 g3 g4 g5 g6 g7 g8
        have hv := hE.2.2.2.1.1 (a - xByt) (sub5 hcc.1 hcc.2).1
        have ea : xByt + (a - xByt) = a := (sub5 hcc.1 hcc.2).2
        simp only [ea] at hv
        exact va_tb hx hb hv.2.2.2 g4 (xin_ok hi) rfl hdg kk
      · cases hs
    · split at hs
      · next hc =>
        obtain ⟨h1, h2, h3⟩ := hc
        cases hs
        intro H locs lsC g1 g2 g3 g4 g5 g6 g7 g8
        exact va_zald hx hb hK g3 a 2 (wl_I h2 (Or.inr rfl)) rfl (xin_ok h3) hdg (hk H locs lsC g1 g2 g3 g4 g5 g6 g7 g8)
      · cases hs
  · cases hs
theorem vs_xlal (hC : CX p s m args meth c b0 ba fv D dA E y) (hdg : decode (mB y) pc = .ok (.laload, 1)) (hs : xlal pc ls st h = some (pc', ls', st', h')) (hk : VW p l e R s m args below meth c Q b0 ba fv D dA y n0 s0 pc' ls' st' h') : VW p l e R s m args below meth c Q b0 ba fv D dA y n0 s0 pc ls st h := by
  obtain ⟨⟨hx, hb, hml, hown, hts⟩, hK, hE, hin, hba, hfv⟩ := hC
  unfold xlal at hs
  split at hs
  · next i a r =>
    split at hs
    · next hc =>
      obtain ⟨h1, h2, h3⟩ := hc
      cases hs
      intro H locs lsC g1 g2 g3 g4 g5 g6 g7 g8
      exact va_lald hx hb hK g3 a 1 (wl_J h2) rfl (xin_ok h3) hdg (hk H locs lsC g1 g2 g3 g4 g5 g6 g7 g8)
    · cases hs
  · cases hs
theorem vs_xaal (hC : CX p s m args meth c b0 ba fv D dA E y) (hdg : decode (mB y) pc = .ok (.aaload, 1)) (hs : xaal pc ls st h = some (pc', ls', st', h')) (hk : VW p l e R s m args below meth c Q b0 ba fv D dA y n0 s0 pc' ls' st' h') : VW p l e R s m args below meth c Q b0 ba fv D dA y n0 s0 pc ls st h := by
  obtain ⟨⟨hx, hb, hml, hown, hts⟩, hK, hE, hin, hba, hfv⟩ := hC
  unfold xaal at hs
  split at hs
  · next i a r =>
    split at hs
    · next hc =>
      obtain ⟨h1, h2, h3, h4⟩ := hc
      cases hs
      intro H locs lsC g1 g2 g3 g4 g5 g6 g7 g8
      have kk := hk H locs lsC g1 g2 g3 g4 g5 g6 g7 g8
      obtain ⟨ty, t1, -, -, -, t2⟩ := xtys_at (dA := dA) (xkd h a).1 (by omega) h3
      have hq := g3 a _ (wl_Q rfl h2 h3)
      have hlt : i.toNatClampNeg < (xkd h a).2 := Nat.not_le.mp fun q => xin_ok h4 (Or.inr q)
      have e : tv ba fv (va_rf (h.2.2.2 a i.toNatClampNeg)) = va_rf ((h.2.2.2 a i.toNatClampNeg).map ba) := tv_rf _
      rw [List.map_cons, e] at kk
      exact W.aald (v := va_rf ((h.2.2.2 a i.toNatClampNeg).map ba)) (ty := ty) hx hb hq ((hK.2 _ _ t1).1 _ (fun j => va_rf ((h.2.2.2 a j).map ba))) (t2 h2) (fun q => by cases q) (by show ¬ (i < 0 ∨ (arrV _ _ _).slots.size ≤ _); rw [arrV_size]; exact xin_ok h4) (by show (arrV _ _ _).slots[_]? = _; rw [arrV_read _ _ hlt]) rfl rfl hdg kk
    · cases hs
  · cases hs
theorem vs_xias (hC : CX p s m args meth c b0 ba fv D dA E y) (hdg : decode (mB y) pc = .ok (.iastore, 1)) (hs : xias pc ls st h = some (pc', ls', st', h')) (hk : VW p l e R s m args below meth c Q b0 ba fv D dA y n0 s0 pc' ls' st' h') : VW p l e R s m args below meth c Q b0 ba fv D dA y n0 s0 pc ls st h := by
  obtain ⟨⟨hx, hb, hml, hown, hts⟩, hK, hE, hin, hba, hfv⟩ := hC
  unfold xias at hs
  split at hs
  · next x i a r =>
    split at hs
    · next hc =>
      obtain ⟨h1, h2, h3⟩ := hc
      cases hs
      intro H locs lsC g1 g2 g3 g4 g5 g6 g7 g8
      refine W.iast hx hb (g3 a _ (wl_I h2 (Or.inl rfl))) ((hK.2 0 _ rfl).1 _ (fun j => .int (h.2.1 a j))) (fun q => by cases q) (by show ¬ (i < 0 ∨ (arrV _ _ _).slots.size ≤ _); rw [arrV_size]; exact xin_ok h3) rfl rfl hdg fun H1 e1 z oq => ?_
      refine vw_same hk rfl (by rw [z]; exact g1) g2 (wl_P_set hba g2 g3 (xkd_lt (by omega)) rfl (fun b hb => ⟨xuI_o hb, rfl, rfl⟩) ?_ oq) (g4.put z oq (xA_ba hba h1)) g5 g6 g7 g8
      rw [show xcell ba fv dA (h.1, xuI h.2.1 a i.toNatClampNeg x, h.2.2.1, h.2.2.2) a = .inl (dA 10, (xkd h a).2, .inl (xuI h.2.1 a i.toNatClampNeg x a)) from cell_I (h := (h.1, xuI h.2.1 a i.toNatClampNeg x, h.2.2.1, h.2.2.2)) h2 (Or.inl rfl)]
      show H1[ba a]? = some (vp_cell _ _)
      rw [e1, vp_cell_i, vp_cell_i, arrV_store]
      refine congrArg some (congrArg (arrV _ _) (funext fun q => ?_))
      by_cases hq : q = i.toNatClampNeg
      · subst hq
        simp [updV, xuI]
      · simp [updV, xuI, hq]
    · cases hs
  · cases hs
theorem vs_xbas (hC : CX p s m args meth c b0 ba fv D dA E y) (hdg : decode (mB y) pc = .ok (.bastore, 1)) (hs : xbas pc ls st h = some (pc', ls', st', h')) (hk : VW p l e R s m args below meth c Q b0 ba fv D dA y n0 s0 pc' ls' st' h') : VW p l e R s m args below meth c Q b0 ba fv D dA y n0 s0 pc ls st h := by
  obtain ⟨⟨hx, hb, hml, hown, hts⟩, hK, hE, hin, hba, hfv⟩ := hC
  unfold xbas at hs
  split at hs
  · next x i a r =>
    split at hs
    · next hc =>
      obtain ⟨h1, h2, h3⟩ := hc
      cases hs
      intro H locs lsC g1 g2 g3 g4 g5 g6 g7 g8
      refine W.zast hx hb (g3 a _ (wl_I h2 (Or.inr rfl))) ((hK.2 2 _ rfl).1 _ (fun j => .int (h.2.1 a j))) (fun q => by cases q) (by show ¬ (i < 0 ∨ (arrV _ _ _).slots.size ≤ _); rw [arrV_size]; exact xin_ok h3) rfl rfl hdg fun H1 e1 z oq => ?_
      refine vw_same hk rfl (by rw [z]; exact g1) g2 (wl_P_set hba g2 g3 (xkd_lt (by omega)) rfl (fun b hb => ⟨xuI_o hb, rfl, rfl⟩) ?_ oq) (g4.put z oq (xA_ba hba h1)) g5 g6 g7 g8
      rw [show xcell ba fv dA (h.1, xuI h.2.1 a i.toNatClampNeg (vp_nar .boolean x), h.2.2.1, h.2.2.2) a = .inl (dA 12, (xkd h a).2, .inl (xuI h.2.1 a i.toNatClampNeg (vp_nar .boolean x) a)) from cell_I (h := (h.1, xuI h.2.1 a i.toNatClampNeg (vp_nar .boolean x), h.2.2.1, h.2.2.2)) h2 (Or.inr rfl)]
      show H1[ba a]? = some (vp_cell _ _)
      rw [e1, vp_cell_i, vp_cell_i, arrV_store]
      refine congrArg some (congrArg (arrV _ _) (funext fun q => ?_))
      by_cases hq : q = i.toNatClampNeg
      · subst hq
        simp [updV, xuI, vp_nar]
        try rfl
      · simp [updV, xuI, hq]
    · cases hs
  · cases hs
theorem vs_xlas (hC : CX p s m args meth c b0 ba fv D dA E y) (hdg : decode (mB y) pc = .ok (.lastore, 1)) (hs : xlas pc ls st h = some (pc', ls', st', h')) (hk : VW p l e R s m args below meth c Q b0 ba fv D dA y n0 s0 pc' ls' st' h') : VW p l e R s m args below meth c Q b0 ba fv D dA y n0 s0 pc ls st h := by
  obtain ⟨⟨hx, hb, hml, hown, hts⟩, hK, hE, hin, hba, hfv⟩ := hC
  unfold xlas at hs
  split at hs
  · next x i a r =>
    split at hs
    · next hc =>
      obtain ⟨h1, h2, h3⟩ := hc
      cases hs
      intro H locs lsC g1 g2 g3 g4 g5 g6 g7 g8
      refine W.last hx hb (g3 a _ (wl_J h2)) ((hK.2 1 _ rfl).1 _ (fun j => .long (h.2.2.1 a j))) (fun q => by cases q) (by show ¬ (i < 0 ∨ (arrV _ _ _).slots.size ≤ _); rw [arrV_size]; exact xin_ok h3) rfl rfl hdg fun H1 e1 z oq => ?_
      refine vw_same hk rfl (by rw [z]; exact g1) g2 (wl_P_set hba g2 g3 (xkd_lt (by omega)) rfl (fun b hb => ⟨rfl, xuJ_o hb, rfl⟩) ?_ oq) (g4.put z oq (xA_ba hba h1)) g5 g6 g7 g8
      rw [show xcell ba fv dA (h.1, h.2.1, xuJ h.2.2.1 a i.toNatClampNeg x, h.2.2.2) a = .inl (dA 11, (xkd h a).2, .inr (.inl (xuJ h.2.2.1 a i.toNatClampNeg x a))) from cell_J (h := (h.1, h.2.1, xuJ h.2.2.1 a i.toNatClampNeg x, h.2.2.2)) h2]
      show H1[ba a]? = some (vp_cell _ _)
      rw [e1, vp_cell_l, vp_cell_l, arrV_store]
      refine congrArg some (congrArg (arrV _ _) (funext fun q => ?_))
      by_cases hq : q = i.toNatClampNeg
      · subst hq
        simp [updV, xuJ]
      · simp [updV, xuJ, hq]
    · cases hs
  · cases hs
theorem xak_ty {ci : Nat} (h : xak ci < 18) : (xtys dA)[xak ci - 10]? = some (dA (xak ci), .object (RN ci)) ∧ 13 ≤ xak ci := by
  unfold xak at h ⊢
  split at h
  · exact ⟨rfl, by decide⟩
  · exact ⟨rfl, by decide⟩
  · exact ⟨rfl, by decide⟩
  · exact ⟨rfl, by decide⟩
  · exact absurd h (by decide)
theorem vs_xaas (hC : CX p s m args meth c b0 ba fv D dA E y) (hdg : decode (mB y) pc = .ok (.aastore, 1)) (hs : xaas pc ls st h = some (pc', ls', st', h')) (hk : VW p l e R s m args below meth c Q b0 ba fv D dA y n0 s0 pc' ls' st' h') : VW p l e R s m args below meth c Q b0 ba fv D dA y n0 s0 pc ls st h := by
  obtain ⟨⟨hx, hb, hml, hown, hts⟩, hK, hE, hin, hba, hfv⟩ := hC
  unfold xaas at hs
  split at hs
  · next v i a r =>
    split at hs
    · next hc =>
      obtain ⟨h1, h1b, h2, h2b, h2c, h3⟩ := hc
      cases hs
      intro H locs lsC g1 g2 g3 g4 g5 g6 g7 g8
      obtain ⟨ht, h13⟩ := xak_ty (dA := dA) (ci := (xkd h v).1) (by omega)
      have ha := wl_Q (ba := ba) (fv := fv) (dA := dA) h2b.symm h13 (by omega)
      have hlt : i.toNatClampNeg < (xkd h a).2 := Nat.not_le.mp fun q => xin_ok h3 (Or.inr q)
      have h0 : ¬ i < 0 := fun q => xin_ok h3 (Or.inl q)
      obtain ⟨r', hr', cellV, q1, q2, q3, -⟩ := g3 v _ (wl_obj rfl h2)
      have hcls := (hK.1 (xkd h v).1 _ (vwCl_at h2)).2
      obtain ⟨kA, comp, k1, k2, k3, -⟩ := (hK.2 _ _ ht).2
      have hcomp : comp = D.1 (xkd h v).1 := Option.some.inj (k3.symm.trans hcls.1)
      subst hcomp
      obtain ⟨kC, hkC, -⟩ := hcls.2
      refine W.aast hx hb (g3 a _ ha) (fun q h => by cases h) (fun h => by cases h) k1 k2 rfl hkC ⟨h0, by show _ < (arrV _ _ _).slots.size; rw [arrV_size]; exact hlt⟩ q1 (fun q h => by rw [q3] at h; cases h) (by rw [q2]; exact hkC) (by rw [q2]; exact va_assign hcls) rfl rfl hdg fun H1 e1 z oq => ?_
      refine vw_same hk rfl (by rw [z]; exact g1) g2 (wl_P_set hba g2 g3 (xkd_lt (by omega)) rfl (fun b hb => ⟨rfl, rfl, xuP_o hb⟩) ?_ oq) (g4.put z oq (xA_ba hba h1)) g5 g6 g7 g8
      rw [show xcell ba fv dA (h.1, h.2.1, h.2.2.1, xuP h.2.2.2 a i.toNatClampNeg (some v)) a = .inl (dA (xak (xkd h v).1), (xkd h a).2, .inr (.inr (.inr (.inr (fun j => (xuP h.2.2.2 a i.toNatClampNeg (some v) a j).map ba))))) from cell_Q (h := (h.1, h.2.1, h.2.2.1, xuP h.2.2.2 a i.toNatClampNeg (some v))) h2b.symm h13]
      show H1[ba a]? = some (vp_cell _ _)
      rw [e1, vp_cell_q, vp_cell_q, arrV_store]
      refine congrArg some (congrArg (arrV _ _) (funext fun q => ?_))
      by_cases hq : q = i.toNatClampNeg
      · subst hq
        simp [updV, xuP, va_rf]
      · simp [updV, xuP, hq]
    · cases hs
  · cases hs
theorem vs_xlen (hC : CX p s m args meth c b0 ba fv D dA E y) (hdg : decode (mB y) pc = .ok (.arraylength, 1)) (hs : xlen E pc ls st h = some (pc', ls', st', h')) (hk : VW p l e R s m args below meth c Q b0 ba fv D dA y n0 s0 pc' ls' st' h') : VW p l e R s m args below meth c Q b0 ba fv D dA y n0 s0 pc ls st h := by
  obtain ⟨⟨hx, hb, hml, hown, hts⟩, hK, hE, hin, hba, hfv⟩ := hC
  unfold xlen at hs
  split at hs
  · next a r =>
    split at hs
    · next ha =>
      cases hs
      intro H locs lsC g1 g2 g3 g4 g5 g6 g7 g8
      have kk := hk H locs lsC g1 g2 g3 g4 g5 g6 g7 g8
      subst ha
      obtain ⟨-, -, -, -, -, -, -, k1, k2, k3⟩ := hE
      exact va_slen hx hb k1 (by omega) (Nat.not_le.mpr k2) g4 hdg kk
    · split at hs
      · next hcc =>
        cases hs
        intro H locs lsC g1 g2 g3 g4 g5 g6 g7 g8
        have kk := hk H locs lsC g1 g2 g3 g4 g5 g6 g7 g8
        have hv := hE.2.2.2.1.1 (a - xByt) (sub5 hcc.1 hcc.2).1
        have ea : xByt + (a - xByt) = a := (sub5 hcc.1 hcc.2).2
        simp only [ea] at hv
        exact va_tlen hx hb hv.2.2.2 g4 rfl hdg kk
      · split at hs
        · next hc =>
          obtain ⟨h1, h2, h3⟩ := hc
          cases hs
          intro H locs lsC g1 g2 g3 g4 g5 g6 g7 g8
          obtain ⟨ty, t1, -⟩ := xtys_at (dA := dA) (xkd h a).1 h2 h3
          exact va_alen hx hb hK g3 a _ (wl_arr rfl h2 (by omega)) t1 rfl hdg (hk H locs lsC g1 g2 g3 g4 g5 g6 g7 g8)
        · cases hs
  · cases hs
theorem vs_xoi {idx a b : Nat} (hC : CX p s m args meth c b0 ba fv D dA E y) (hdg : decode (mB y) pc = .ok (.invokespecial idx, 3)) (hr : rs (mC y) idx = (7, a, b)) (hf : 1 ≤ R.frames) (ho : 40 ≤ R.locals) (hs : xoi pc ls st h = some (pc', ls', st', h')) (hk : VW p l e R s m args below meth c Q b0 ba fv D dA y n0 s0 pc' ls' st' h') : VW p l e R s m args below meth c Q b0 ba fv D dA y n0 s0 pc ls st h := by
  obtain ⟨⟨hx, hb, hml, hown, hts⟩, hK, hE, hin, hba, hfv⟩ := hC
  unfold xoi at hs
  split at hs
  · next a r =>
    split at hs
    · next hc =>
      cases hs
      intro H locs lsC g1 g2 g3 g4 g5 g6 g7 g8
      have kk := hk H locs lsC g1 g2 g3 g4 g5 g6 g7 g8
      have hsum : ((st'.map (tv ba fv)).map fun v => v.category).sum ≤ 8 := by
        rw [List.map_map]
        have : ((fun v : Value => v.category) ∘ tv ba fv) = fun v => v.category := funext fun v => tv_cat hfv v
        rw [this]
        exact hc
      have hin1 : Cond.instanceMethod objectInit ∈ GWl := by
        unfold GWl
        simp only [List.mem_append]
        exact Or.inr (Or.inr (Or.inr (Or.inr (Or.inr (Or.inr (Or.inr (Or.inr (by simp [GWx]))))))))
      have hin2 : Cond.code objectInit ⟨#[0xb1]⟩ 1 none ∈ GWl := by
        unfold GWl
        simp only [List.mem_append]
        exact Or.inr (Or.inr (Or.inr (Or.inr (Or.inr (Or.inr (Or.inr (Or.inr (by simp [GWx]))))))))
      exact W.objInit hx hb hown (hts _ (rs_good hr (by decide) (by decide) (by decide))) (hts _ hin1) (hts _ hin2) rfl (g5.1.trans hml.symm) rfl hdg hf (by show 2 * 0 + _ + 12 ≤ _; omega) kk
    · cases hs
  · cases hs
theorem fits_int (x : Int32) : fits .int (.int x) = true := rfl
theorem vs_xac {idx a b : Nat} (hC : CX p s m args meth c b0 ba fv D dA E y) (hdg : decode (mB y) pc = .ok (.invokestatic idx, 3)) (hr : rs (mC y) idx = (8, a, b)) (hf : 1 ≤ R.frames) (ho : 40 ≤ R.locals) (hs : xac pc ls st h = some (pc', ls', st', h')) (hk : VW p l e R s m args below meth c Q b0 ba fv D dA y n0 s0 pc' ls' st' h') : VW p l e R s m args below meth c Q b0 ba fv D dA y n0 s0 pc ls st h := by
  obtain ⟨⟨hx, hb, hml, hown, hts⟩, hK, hE, hin, hba, hfv⟩ := hC
  unfold xac at hs
  split at hs
  · next n dp a sp a0 r =>
    split at hs
    · cases hs
    · next hc =>
      simp only [not_or, Nat.not_le, Nat.not_lt, Classical.not_not] at hc
      obtain ⟨⟨c1, c2, c3⟩, c4, c5, c6, c7, c8, c9, c10⟩ := hc
      cases hs
      have nn : ∀ z : Int32, ¬ z < 0 → z.toInt = (z.toNatClampNeg : Int) := by
        intro z hz
        have hz0 : (0 : Int) ≤ z.toInt := by
          have := Int32.not_lt.mp hz
          simpa using Int32.le_iff_toInt_le.mp this
        show z.toInt = ((z.toInt.toNat : Nat) : Int)
        omega
      intro H locs lsC g1 g2 g3 g4 g5 g6 g7 g8 T hT X
      have hsum : ((st'.map (tv ba fv)).map fun v => v.category).sum ≤ 8 := by
        rw [List.map_map]
        have : ((fun v : Value => v.category) ∘ tv ba fv) = fun v => v.category := funext fun v => tv_cat hfv v
        rw [this]
        exact c10
      have inx : ∀ w, w ∈ GWx → w.before args s = true := fun w hw => hts w (by
        unfold GWl
        simp only [List.mem_append]
        exact Or.inr (Or.inr (Or.inr (Or.inr (Or.inr (Or.inr (Or.inr (Or.inr hw))))))))
      have hini : (Cond.initialized "java/lang/System").before args s = true := hts (.initialized (RN 30)) (by
        unfold GWl
        simp only [List.mem_append]
        exact Or.inr (Or.inr (Or.inr (Or.inr (Or.inr (Or.inl (by simp [GWn])))))))
      have hc0 : H[ba a0]? = some (vp_cell (dA 10) ((xkd h a0).2, .inl (h.2.1 a0))) := g3 a0 _ (wl_I c7 (Or.inl rfl))
      have hc1 : H[ba a]? = some (vp_cell (dA 10) ((xkd h a).2, .inl (h.2.1 a))) := g3 a _ (wl_I c6 (Or.inl rfl))
      obtain ⟨-, k0, hk0, cm0, hkk0⟩ := (hK.2 0 _ rfl).1 (xkd h a0).2 (fun j => .int (h.2.1 a0 j))
      obtain ⟨-, k1, hk1, cm1, hkk1⟩ := (hK.2 0 _ rfl).1 (xkd h a).2 (fun j => .int (h.2.1 a j))
      obtain ⟨vm', X', step⟩ := X.arraycopy hx hown (hts _ (rs_good hr (by decide) (by decide) (by decide))) (inx _ (by simp [GWx])) (inx _ (by simp [GWx])) hini (src := ba a0) (dst := ba a) (cs := vp_cell (dA 10) ((xkd h a0).2, .inl (h.2.1 a0))) (cd := vp_cell (dA 10) ((xkd h a).2, .inl (h.2.1 a))) (srcPos := sp) (destPos := dp) (n := n) (by rw [hT]; exact hc0) (by rw [hT]; exact hc1)
        (fun _ h => by cases h) (fun _ h => by cases h) (fun h => by cases h) (fun h => by cases h) hk0 hk1 hkk0 hkk1 (by simp [refKind]) c3 c2 c1
        (by rw [nn sp c3, nn n c1]; show ¬ _ > ((arrV (dA 10) (xkd h a0).2 (fun j => .int (h.2.1 a0 j))).slots.size : Int); rw [arrV_size]; omega)
        (by rw [nn dp c2, nn n c1]; show ¬ _ > ((arrV (dA 10) (xkd h a).2 (fun j => .int (h.2.1 a j))).slots.size : Int); rw [arrV_size]; omega)
        (fun vm₁ _ i hi => by
          have e : (vp_cell (dA 10) ((xkd h a0).2, .inl (h.2.1 a0))).slots.getD (sp.toNatClampNeg + i) .null = .int (h.2.1 a0 (sp.toNatClampNeg + i)) := by
            show (arrV (dA 10) (xkd h a0).2 (fun j => .int (h.2.1 a0 j))).slots.getD _ _ = _
            rw [Array.getD_eq_getD_getElem?, arrV_read _ _ (by omega)]
            rfl
          refine ⟨?_, ?_⟩
          · rw [e]
            rfl
          · rw [e]
            exact trivial)
        (g := F0 m pc lsC (.int n :: .int dp :: .ref (ba a) :: .int sp :: .ref (ba a0) :: st'.map (tv ba fv))) rfl (by rw [hml]; exact g5.1) (rest := st'.map (tv ba fv)) rfl (by rw [hb]; exact hdg) hf (by show 2 * 0 + _ + (7 + 11) ≤ _; omega)
      have e1 : copied (vp_cell (dA 10) ((xkd h a0).2, .inl (h.2.1 a0))) (vp_cell (dA 10) ((xkd h a).2, .inl (h.2.1 a))) sp dp n = vp_cell (dA 10) ((xkd h a).2, .inl (va_cpy (h.2.1 a0) (h.2.1 a) sp.toNatClampNeg dp.toNatClampNeg n.toNatClampNeg)) := va_copied (fun z => .int z) (dA 10) (dA 10) (h.2.1 a0) (h.2.1 a) c8
      rw [e1] at X' step
      have hl : ba a < H.size := (Array.getElem?_eq_some_iff.mp hc1).1
      generalize hcell : vp_cell (dA 10) ((xkd h a).2, .inl (va_cpy (h.2.1 a0) (h.2.1 a) sp.toNatClampNeg dp.toNatClampNeg n.toNatClampNeg)) = cellN at X' step
      have hheap : ((T.setVm vm').setCell (ba a) cellN).heap = H.setIfInBounds (ba a) cellN := by rw [← hT]; rfl
      have oq : ∀ q : Nat, q ≠ ba a → (H.setIfInBounds (ba a) cellN)[q]? = H[q]? := fun q hq => by simp [Array.getElem?_setIfInBounds, Ne.symm hq]
      have hA : xA b0 (ba a) := xA_ba hba c4
      obtain ⟨t, a1, b1⟩ := vw_same hk rfl (H := H.setIfInBounds (ba a) cellN) (by rw [Array.size_setIfInBounds]; exact g1) g2 (wl_P_set hba g2 g3 (a := a) (xkd_lt (by omega)) rfl (fun b hb => ⟨by
          funext j
          show xcI _ _ _ _ _ _ b j = _
          exact if_neg (fun q => hb q.1), rfl, rfl⟩) (by
          rw [show xcell ba fv dA (h.1, xcI h.2.1 a0 sp.toNatClampNeg a dp.toNatClampNeg n.toNatClampNeg, h.2.2.1, h.2.2.2) a = .inl (dA 10, (xkd h a).2, .inl (xcI h.2.1 a0 sp.toNatClampNeg a dp.toNatClampNeg n.toNatClampNeg a)) from cell_I (h := (h.1, xcI h.2.1 a0 sp.toNatClampNeg a dp.toNatClampNeg n.toNatClampNeg, h.2.2.1, h.2.2.2)) c6 (Or.inl rfl)]
          show (H.setIfInBounds (ba a) cellN)[ba a]? = some (vp_cell _ _)
          rw [show (H.setIfInBounds (ba a) cellN)[ba a]? = some cellN by simp [Array.getElem?_setIfInBounds, hl], ← hcell, vp_cell_i, vp_cell_i]
          refine congrArg some (congrArg (arrV _ _) (funext fun q => congrArg Value.int ?_))
          show va_cpy _ _ _ _ _ q = xcI _ _ _ _ _ _ a q
          unfold va_cpy xcI
          by_cases hq : dp.toNatClampNeg ≤ q ∧ q < dp.toNatClampNeg + n.toNatClampNeg
          · rw [if_pos hq, if_pos ⟨rfl, hq⟩]
          · rw [if_neg hq, if_neg (fun z => hq z.2)]) oq) ⟨by rw [Array.size_setIfInBounds]; exact g4.1, fun q k1 k2 => by
          rw [oq q (fun e => k2 (by rw [e]; exact hA))]
          exact g4.2.1 q k1 k2, fun q hq => by
          rcases List.mem_append.mp hq with h | h
          · exact g4.2.2 q h
          · obtain ⟨z, -, hz⟩ := List.mem_map.mp h
            rw [← hz]
            exact hA⟩ g5 g6 g7 g8 _ hheap X'
      exact ⟨t, step t a1, b1⟩
  · cases hs
end SS2
