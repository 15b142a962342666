/-! a method's entry -/
theorem en_len {ba : Nat → Nat} {fv : Value} (hfv : fv.category = 1) : ∀ as : List Value, (lg_sl (as.map (tv ba fv))).length = (xen as).length
  | [] => rfl
  | v :: r => by
    have ih := en_len (ba := ba) hfv r
    unfold lg_sl at ih ⊢
    rw [List.map_cons, List.flatMap_cons, List.length_append, ih, tv_cat hfv]
    rw [show xen (v :: r) = if v.category = 2 then v :: xdm :: xen r else v :: xen r from rfl]
    by_cases hc : v.category = 2
    · rw [if_pos hc, if_pos hc]
      simp
      omega
    · rw [if_neg hc, if_neg hc]
      simp
      omega
theorem la_rep {ba : Nat → Nat} {fv : Value} : ∀ (k i : Nat), la ba fv i (List.replicate k xdm) = []
  | 0, _ => rfl
  | k + 1, i => by
    rw [List.replicate_succ]
    unfold la
    rw [if_pos rfl]
    exact la_rep k (i + 1)
theorem la_en {ba : Nat → Nat} {fv : Value} (hfv : fv.category = 1) (k : Nat) : ∀ (as : List Value) (i : Nat), ∀ q ∈ la ba fv i (xen as ++ List.replicate k xdm), q ∈ lv_args i (as.map (tv ba fv))
  | [], i, q, h => by
    unfold xen at h
    rw [List.nil_append, la_rep] at h
    cases h
  | v :: r, i, q, h => by
    rw [show xen (v :: r) = if v.category = 2 then v :: xdm :: xen r else v :: xen r from rfl] at h
    rw [List.map_cons, show lv_args i (tv ba fv v :: r.map (tv ba fv)) = (i, tv ba fv v) :: lv_args (if (tv ba fv v).category = 2 then i + 2 else i + 1) (r.map (tv ba fv)) from rfl]
    rw [tv_cat hfv]
    by_cases hc : v.category = 2
    · rw [if_pos hc] at h ⊢
      rw [List.cons_append, List.cons_append] at h
      unfold la at h
      have hne : v ≠ xdm := by rintro rfl; exact absurd hc (by decide)
      rw [if_neg hne] at h
      rcases List.mem_cons.mp h with h | h
      · exact List.mem_cons.mpr (Or.inl h)
      · unfold la at h
        rw [if_pos rfl] at h
        exact List.mem_cons_of_mem _ (la_en hfv k r (i + 2) q h)
    · rw [if_neg hc] at h ⊢
      rw [List.cons_append] at h
      unfold la at h
      split at h
      · exact List.mem_cons_of_mem _ (la_en hfv k r (i + 1) q h)
      · rcases List.mem_cons.mp h with h | h
        · exact List.mem_cons.mpr (Or.inl h)
        · exact List.mem_cons_of_mem _ (la_en hfv k r (i + 1) q h)
theorem xent_len {as : List Value} {n : Nat} (h : (xen as).length ≤ n) : (xent as n).length = n := by
  unfold xent
  rw [List.length_append, List.length_replicate]
  omega
section SIM
variable {p : Program} {l : Launch} {e : Env} {R : Room} {s : State} {m : MethodId} {args : Array Value} {below : List Frame} {meth : Method} {c : Code} {Q : State → Prop}
variable {b0 : Nat} {ba : Nat → Nat} {fv : Value} {D : va_G} {dA : Nat → ClassId} {E : XE} {y n0 s0 d pc pc' : Nat} {ls st ls' st' : List Value} {h h' : XH}
theorem XP.calling {g : JFrame} {mk : MethodId} {a : Array Value} {U : State} (hP : XP b0 ba fv D dA E h U) : XP b0 ba fv D dA E h (U.calling g mk a) := by
  obtain ⟨h1, h0, h2, h3, h4⟩ := hP
  exact ⟨h1, h0, h2, va_K.moved (u := U) (U := U.calling g mk a) (Vm.Alike.refl U.vm) h3, XEnv.same (s := U) (U := U.calling g mk a) rfl rfl h4⟩
theorem vx_call {r1 : Option Value} {h1 : XH} {H : Heap} {locs : List Loc} {cells slots mc ms : Nat} {lsC : Array Slot} {st0 rest : List Value} {a : Array Value} (hr : va_Run p l e R s m args below meth c H locs cells slots mc ms (F0 m pc lsC st0) rest (XQ b0 ba fv D dA r1 h1 a) (xA b0)) (hS : va_S (xA b0) s.heap H locs)
    (kk : ∀ (H1 : Heap) (locs1 : List Loc), H1.size = b0 + h1.1.length → h1.1.length ≤ xTop → va_P D vwCl (wl ba fv dA h1) H1 → va_S (xA b0) s.heap H1 locs1 → W p l e R s m args below meth c H1 locs1 (cells + mc) (slots + ms) Q (F0 m (pc + 3) lsC ((r1.map (tv ba fv)).toList ++ rest))) : W p l e R s m args below meth c H locs cells slots Q (F0 m pc lsC st0) := by
  intro T hT X
  obtain ⟨v, st₀, t, T', L, h0, X', hL, e1, e2, ⟨⟨ho, hz, hle, hP⟩, hsz, hk⟩, st⟩ := hr T hT X
  cases ho
  rw [h0] at hsz hk
  obtain ⟨t2, a1, b1⟩ := kk T'.heap (locs ++ L) (by rw [e1]; exact hz) hle (by rw [e1]; exact hP) ⟨Nat.le_trans hS.1 (by rw [e1]; exact hsz), fun q h1 h2 => by rw [e1, hk q (Nat.lt_of_lt_of_le h1 hS.1) h2]; exact hS.2.1 q h1 h2, fun q hq => by
      rcases List.mem_append.mp hq with h | h
      · exact hS.2.2 q h
      · exact hL q h⟩ T' rfl X'
  exact ⟨t2, st t2 a1, b1⟩
end SIM
/-- what is to be shown of runs of n steps -/
def SimAt (E : XE) (n : Nat) : Prop := ∀ (d y pc : Nat) (ls st : List Value) (h h' : XH) (r : Option Value), ev E n d y pc ls st h = some (r, h') → ∀ (p : Program) (l : Launch) (e : Env) (R : Room) (s : State) (m : MethodId) (args : Array Value) (below : List Frame) (meth : Method) (c : Code) (Q : State → Prop) (b0 : Nat) (ba : Nat → Nat) (fv : Value) (D : va_G) (dA : Nat → ClassId) (n0 s0 : Nat),
  CX p s m args meth c b0 ba fv D dA E y → d ≤ R.frames → 40 * d ≤ R.locals → h'.1.length - n0 ≤ R.cells → xslots h' - s0 ≤ R.slots →
  (∀ (pcr : Nat) (ins : Instr) (lsr str : List Value), xrt y ins str = some r → decode (mB y) pcr = .ok (ins, 1) → VW p l e R s m args below meth c Q b0 ba fv D dA y n0 s0 pcr lsr str h') → VW p l e R s m args below meth c Q b0 ba fv D dA y n0 s0 pc ls st h
theorem met_of {E : XE} {n : Nat} (IH : SimAt E n) {l : Launch} {d y : Nat} {as : List Value} {h h1 : XH} {r : Option Value} {b0 : Nat} {ba : Nat → Nat} {fv : Value} {D : va_G} {dA : Nat → ClassId} (hy : y < 195) (hlen : (xen as).length ≤ mL y) (he : ev E n d y 0 (xent as (mL y)) [] h = some (r, h1)) (hba : ∀ k, k < xTop → ba k = b0 + k) (hfv : fv.category = 1) :
    Met l (mN y) (wcs y) { frames := d, cells := h1.1.length - h.1.length, slots := xslots h1 - xslots h, locals := 40 * d } (va_Pc (as.map (tv ba fv)) (XP b0 ba fv D dA E h)) (XQ b0 ba fv D dA r h1) (h1.1.length - h.1.length) (xslots h1 - xslots h) (xA b0) := by
  refine va_MetF (cc := mB y) (maxL := mL y) (ret := mR y) (mth_at hy).1 rfl ?_
  intro p e s m args below meth c s₁ B hml hv
  obtain ⟨rfl, hz, hle, hP, hK, hE⟩ := hv
  have hts0 := atoms_spec (ws := wcs y) B.pre
  have hown : s.vm.findClass (RN (mC y)) = some m.cls := by
    rw [← cls_ok (by omega)]
    exact findClass_of_methodNamed B.named
  have hC : CX p s m ((as.map (tv ba fv)).toArray) meth c b0 ba fv D dA E y := ⟨⟨B.exec, B.bytes, hml, hown, fun w hw => hts0 w (List.mem_cons_of_mem _ hw)⟩, hK, hE, fun hi => by
    rw [(name_of_methodNamed B.named B.method).1]
    exact of_decide_eq_true hi, hba, hfv⟩
  have hr := B.returns
  have hlocks := B.notSynchronized
  have hx := B.exec
  have hb := B.bytes
  rw [lg_entry_eq]
  have hl := lv_entry (as.map (tv ba fv)) (n := mL y) (by rw [en_len hfv]; exact hlen)
  have K := IH d y 0 (xent as (mL y)) [] h h1 r he p l e (headSpec (wcs y) { frames := d, cells := h1.1.length - h.1.length, slots := xslots h1 - xslots h, locals := 40 * d }).room s m ((as.map (tv ba fv)).toArray) below meth c (MQ below (XQ b0 ba fv D dA r h1) ((as.map (tv ba fv)).toArray) s (h1.1.length - h.1.length) (xslots h1 - xslots h) (xA b0)) b0 ba fv D dA h.1.length (xslots h) hC (Nat.le_refl _) (Nat.le_refl _) (Nat.le_refl _) (Nat.le_refl _) (by
    intro pcr ins lsr str hxr hdr H locs lsC g1 g2 g3 g4 g5 g6 g7 g8
    unfold xrt at hxr
    split at hxr
    · next v ty hmr =>
      split at hxr
      · next hn =>
        cases hxr
        exact W.zret hx hb (hr.trans hmr) hn.1 (fun t ht _ => ⟨⟨rfl, by rw [ht]; exact g1, g2, by rw [ht]; exact g3⟩, g4.F ht⟩) g4.2.2 hdr hlocks
      · cases hxr
    · next v hmr =>
      cases hxr
      exact W.lret hx hb (hr.trans hmr) (fun t ht _ => ⟨⟨rfl, by rw [ht]; exact g1, g2, by rw [ht]; exact g3⟩, g4.F ht⟩) g4.2.2 hdr hlocks
    · next hmr =>
      cases hxr
      exact W.vret hx hb (hr.trans hmr) (fun t ht _ => ⟨⟨rfl, by rw [ht]; exact g1, g2, by rw [ht]; exact g3⟩, g4.F ht⟩) g4.2.2 hdr hlocks
    · cases hxr)
  have t := K s.heap [] _ hz hle hP va_S.rf (lv_mono hl (fun q hq => la_en hfv _ as 0 q hq)) (xent_len hlen) (Nat.le_refl _) (Nat.le_refl _)
  rw [Nat.sub_self, Nat.sub_self] at t
  exact t
section SIM2
variable {p : Program} {l : Launch} {e : Env} {R : Room} {s : State} {m : MethodId} {args : Array Value} {below : List Frame} {meth : Method} {c : Code} {Q : State → Prop}
variable {b0 : Nat} {ba : Nat → Nat} {fv : Value} {D : va_G} {dA : Nat → ClassId} {E : XE} {y n0 s0 d pc pc' : Nat} {ls st ls' st' : List Value} {h h1 h' : XH}
theorem call_go {y' d' n : Nat} {as dr : List Value} {r1 : Option Value} {a : Array Value} (hsh : h.1.length ≤ h1.1.length ∧ xslots h ≤ xslots h1)
    (hr : ∀ (H : Heap) (locs : List Loc) (lsC : Array Slot), H.size = b0 + h.1.length → h.1.length ≤ xTop → va_P D vwCl (wl ba fv dA h) H → va_S (xA b0) s.heap H locs → lsC.size = mL y → n0 ≤ h.1.length → s0 ≤ xslots h → va_Run p l e R s m args below meth c H locs (h.1.length - n0) (xslots h - s0) (h1.1.length - h.1.length) (xslots h1 - xslots h) (F0 m pc lsC (st.map (tv ba fv))) (dr.map (tv ba fv)) (XQ b0 ba fv D dA r1 h1 a) (xA b0))
    (hk : VW p l e R s m args below meth c Q b0 ba fv D dA y n0 s0 (pc + 3) ls (r1.toList ++ dr) h1) : VW p l e R s m args below meth c Q b0 ba fv D dA y n0 s0 pc ls st h := by
  intro H locs lsC g1 g2 g3 g4 g5 g6 g7 g8
  refine vx_call (hr H locs lsC g1 g2 g3 g4 g5.1 g7 g8) g4 fun H1 locs1 k1 k2 k3 k4 => ?_
  have t := hk H1 locs1 lsC k1 k2 k3 k4 g5 g6 (by omega) (by omega)
  rw [show h1.1.length - n0 = h.1.length - n0 + (h1.1.length - h.1.length) by omega, show xslots h1 - s0 = xslots h - s0 + (xslots h1 - xslots h) by omega, List.map_append] at t
  have e0 : (r1.toList.map (tv ba fv)) = (r1.map (tv ba fv)).toList := by cases r1 <;> rfl
  rw [e0] at t
  exact t
theorem pre_of {H : Heap} {locs : List Loc} {as : List Value} (hK : va_K D vwCl (xtys dA) s) (hE : XEnv b0 ba fv E s) (g1 : H.size = b0 + h.1.length) (g2 : h.1.length ≤ xTop) (g3 : va_P D vwCl (wl ba fv dA h) H) (g4 : va_S (xA b0) s.heap H locs) : PreS s H (va_Pc (as.map (tv ba fv)) (XP b0 ba fv D dA E h)) (as.map (tv ba fv)) :=
  ⟨fun a U g mk q => ⟨q.1, XP.calling q.2⟩, fun U hU hW => ⟨rfl, by rw [hU]; exact g1, g2, by rw [hU]; exact g3, va_K.moved hW.alike hK, hE.warm hW (fun q q1 q2 => by rw [hU]; exact g4.2.1 q q1 q2) (by rw [hU]; exact g4.1)⟩⟩
theorem xrc_ok {y' : Nat} {as : List Value} (hx : xrc y' as h = true) : ∃ a asr, as = .ref a :: asr ∧ ((a < xTop ∧ (xkd h a).1 = mC y' ∧ mC y' < 10) ∨ (xStr ≤ a ∧ a < xStr + 5 ∧ mC y' = 20)) := by
  unfold xrc at hx
  split at hx
  · next a asr =>
    simp only [Bool.or_eq_true, Bool.and_eq_true, decide_eq_true_eq] at hx
    exact ⟨a, asr, rfl, hx⟩
  · cases hx
theorem recv_ok {H : Heap} {locs : List Loc} {y' a : Nat} (hK : va_K D vwCl (xtys dA) s) (hE : XEnv b0 ba fv E s) (g3 : va_P D vwCl (wl ba fv dA h) H) (g4 : va_S (xA b0) s.heap H locs) (ha : (a < xTop ∧ (xkd h a).1 = mC y' ∧ mC y' < 10) ∨ (xStr ≤ a ∧ a < xStr + 5 ∧ mC y' = 20)) : ∃ cell : Cell, H[ba a]? = some cell ∧ cell.vm.isStatics = false ∧ s.vm.findClass (RN (mC y')) = some cell.cls := by
  rcases ha with ⟨h1, h2, h3⟩ | ⟨h1, h2, h3⟩
  · exact va_recv hK g3 (vwCl_at h3) (wl_obj h2 h3)
  · have hv := vk_recv hE.2.2.2.1 (i := a - xStr) (sub5 h1 h2).1 g4
    have ea : xStr + (a - xStr) = a := (sub5 h1 h2).2
    simp only [ea] at hv
    rw [h3]
    exact hv
theorem tv_sum (hfv : fv.category = 1) (r : List Value) : ((r.map (tv ba fv)).map fun v => v.category).sum = (r.map fun v => v.category).sum := by
  rw [List.map_map]
  have : ((fun v : Value => v.category) ∘ tv ba fv) = fun v => v.category := funext fun v => tv_cat hfv v
  rw [this]
end SIM2
