/-! ONE STEP OF THE INTERPRETER IS ONE OF THE MACHINE'S -/
def CX (p : Program) (s : State) (m : MethodId) (args : Array Value) (meth : Method) (c : Code) (b0 : Nat) (ba : Nat → Nat) (fv : Value) (D : va_G) (dA : Nat → ClassId) (E : XE) (y : Nat) : Prop :=
  (p.tables.exec = Jvm.exec ∧ c.code = mB y ∧ c.maxLocals = mL y ∧ s.vm.findClass (RN (mC y)) = some m.cls ∧ ∀ w ∈ GWl, w.before args s = true) ∧ va_K D vwCl (xtys dA) s ∧ XEnv b0 ba fv E s ∧ (mIni y = true → meth.name = "<init>") ∧ (∀ k, k < xTop → ba k = b0 + k) ∧ fv.category = 1
def VW (p : Program) (l : Launch) (e : Env) (R : Room) (s : State) (m : MethodId) (args : Array Value) (below : List Frame) (meth : Method) (c : Code) (Q : State → Prop) (b0 : Nat) (ba : Nat → Nat) (fv : Value) (D : va_G) (dA : Nat → ClassId) (y n0 s0 pc : Nat) (ls st : List Value) (h : XH) : Prop :=
  ∀ (H : Heap) (locs : List Loc) (lsC : Array Slot), H.size = b0 + h.1.length → h.1.length ≤ xTop → va_P D vwCl (wl ba fv dA h) H → va_S (xA b0) s.heap H locs → lv_has lsC (mL y) (la ba fv 0 ls) → ls.length = mL y → n0 ≤ h.1.length → s0 ≤ xslots h →
    W p l e R s m args below meth c H locs (h.1.length - n0) (xslots h - s0) Q (F0 m pc lsC (st.map (tv ba fv)))
section XW2
variable {b0 : Nat} {ba : Nat → Nat} {fv : Value} {D : va_G} {dA : Nat → ClassId} {h h' : XH} {a : Nat} {H H1 : Heap}
theorem wl_P_set (hba : ∀ k, k < xTop → ba k = b0 + k) (hl : h.1.length ≤ xTop) (hP : va_P D vwCl (wl ba fv dA h) H) (ha : a < h.1.length) (hs : h'.1 = h.1) (ho : ∀ b, b ≠ a → h'.2.1 b = h.2.1 b ∧ h'.2.2.1 b = h.2.2.1 b ∧ h'.2.2.2 b = h.2.2.2 b) (he : va_at D vwCl (ba a, xcell ba fv dA h' a) H1) (oq : ∀ q : Nat, q ≠ ba a → H1[q]? = H[q]?) : va_P D vwCl (wl ba fv dA h') H1 := by
  rw [← wl_set hs ho]
  exact hP.set (wl_D hba hl) (wl_at ha) he oq
theorem wl_I {k : Nat} (hk : (xkd h a).1 = k) (h1 : k = 10 ∨ k = 12) : (wl ba fv dA h)[a]? = some (ba a, .inl (dA k, (xkd h a).2, .inl (h.2.1 a))) := by
  rw [wl_arr hk (by omega) (by omega)]
  unfold xcon
  rw [if_neg (by omega), if_neg (by omega)]
theorem wl_J (hk : (xkd h a).1 = 11) : (wl ba fv dA h)[a]? = some (ba a, .inl (dA 11, (xkd h a).2, .inr (.inl (h.2.2.1 a)))) := by
  rw [wl_arr hk (by omega) (by omega)]
  rfl
theorem wl_Q {k : Nat} (hk : (xkd h a).1 = k) (h1 : 13 ≤ k) (h2 : k < 18) : (wl ba fv dA h)[a]? = some (ba a, .inl (dA k, (xkd h a).2, .inr (.inr (.inr (.inr (fun i => (h.2.2.2 a i).map ba)))))) := by
  rw [wl_arr hk (by omega) (by omega)]
  unfold xcon
  rw [if_neg (by omega), if_pos h1]
theorem cell_I {k : Nat} (hk : (xkd h a).1 = k) (h1 : k = 10 ∨ k = 12) : xcell ba fv dA h a = .inl (dA k, (xkd h a).2, .inl (h.2.1 a)) := by
  rw [xcell_arr (by omega), hk]
  unfold xcon
  rw [if_neg (by omega), if_neg (by omega)]
theorem cell_J (hk : (xkd h a).1 = 11) : xcell ba fv dA h a = .inl (dA 11, (xkd h a).2, .inr (.inl (h.2.2.1 a))) := by
  rw [xcell_arr (by omega), hk]
  rfl
theorem cell_Q {k : Nat} (hk : (xkd h a).1 = k) (h1 : 13 ≤ k) : xcell ba fv dA h a = .inl (dA k, (xkd h a).2, .inr (.inr (.inr (.inr (fun i => (h.2.2.2 a i).map ba))))) := by
  rw [xcell_arr (by omega), hk]
  unfold xcon
  rw [if_neg (by omega), if_pos h1]
theorem xtys_at (k : Nat) (h1 : 10 ≤ k) (h2 : k < 18) : ∃ ty, (xtys dA)[k - 10]? = some (dA k, ty) ∧ (k = 10 → ty = .int) ∧ (k = 11 → ty = .long) ∧ (k = 12 → ty = .boolean) ∧ (13 ≤ k → ty.isReference = true) := by
  rcases (show k = 10 ∨ k = 11 ∨ k = 12 ∨ k = 13 ∨ k = 14 ∨ k = 15 ∨ k = 16 ∨ k = 17 by omega) with rfl | rfl | rfl | rfl | rfl | rfl | rfl | rfl
  · exact ⟨_, rfl, fun _ => rfl, by omega, by omega, by omega⟩
  · exact ⟨_, rfl, by omega, fun _ => rfl, by omega, by omega⟩
  · exact ⟨_, rfl, by omega, by omega, fun _ => rfl, by omega⟩
  · exact ⟨_, rfl, by omega, by omega, by omega, fun _ => rfl⟩
  · exact ⟨_, rfl, by omega, by omega, by omega, fun _ => rfl⟩
  · exact ⟨_, rfl, by omega, by omega, by omega, fun _ => rfl⟩
  · exact ⟨_, rfl, by omega, by omega, by omega, fun _ => rfl⟩
  · exact ⟨_, rfl, by omega, by omega, by omega, fun _ => rfl⟩
end XW2
theorem xin_ok {i : Int32} {n : Nat} (h : xin i n = true) : vp_in i n := by
  unfold xin at h
  unfold vp_in
  exact of_decide_eq_true h
theorem xgo_ok {pc t : Nat} {off : Int} (h : xgo pc off = some t) : (pc : Int) + off = (t : Int) := by
  unfold xgo at h
  split at h
  · have := Option.some.inj h
    omega
  · cases h
section SS
variable {p : Program} {l : Launch} {e : Env} {R : Room} {s : State} {m : MethodId} {args : Array Value} {below : List Frame} {meth : Method} {c : Code} {Q : State → Prop}
variable {b0 : Nat} {ba : Nat → Nat} {fv : Value} {D : va_G} {dA : Nat → ClassId} {E : XE} {y n0 s0 d pc pc' : Nat} {ls st ls' st' : List Value} {h h' : XH} {k i : Nat}
theorem vs_xli {ins : Instr} {w : Nat} (hC : CX p s m args meth c b0 ba fv D dA E y) (hd : (ins = .iload i ∧ w = 2) ∨ (∃ k : Fin 4, ins = .iload_n k ∧ (k : Nat) = i ∧ w = 1)) (hdg : decode (mB y) pc = .ok (ins, w)) (hs : xli ls st h pc w i = some (pc', ls', st', h')) (hk : VW p l e R s m args below meth c Q b0 ba fv D dA y n0 s0 pc' ls' st' h') : VW p l e R s m args below meth c Q b0 ba fv D dA y n0 s0 pc ls st h := by
  obtain ⟨⟨hx, hb, -⟩, -⟩ := hC
  unfold xli at hs
  split at hs
  · next x hl =>
    cases hs
    intro H locs lsC g1 g2 g3 g4 g5 g6 g7 g8
    have kk := hk H locs lsC g1 g2 g3 g4 g5 g6 g7 g8
    rcases hd with ⟨rfl, rfl⟩ | ⟨k, rfl, rfl, rfl⟩
    · exact lv_iload hx hb hdg (lv_look g5 hl (by intro q; cases q)) kk
    · exact lv_iload_n hx hb hdg rfl (lv_look g5 hl (by intro q; cases q)) kk
  · cases hs
theorem vs_xll {ins : Instr} {w : Nat} (hC : CX p s m args meth c b0 ba fv D dA E y) (hd : (ins = .lload i ∧ w = 2) ∨ (∃ k : Fin 4, ins = .lload_n k ∧ (k : Nat) = i ∧ w = 1)) (hdg : decode (mB y) pc = .ok (ins, w)) (hs : xll ls st h pc w i = some (pc', ls', st', h')) (hk : VW p l e R s m args below meth c Q b0 ba fv D dA y n0 s0 pc' ls' st' h') : VW p l e R s m args below meth c Q b0 ba fv D dA y n0 s0 pc ls st h := by
  obtain ⟨⟨hx, hb, -⟩, -⟩ := hC
  unfold xll at hs
  split at hs
  · next x hl =>
    cases hs
    intro H locs lsC g1 g2 g3 g4 g5 g6 g7 g8
    have kk := hk H locs lsC g1 g2 g3 g4 g5 g6 g7 g8
    rcases hd with ⟨rfl, rfl⟩ | ⟨k, rfl, rfl, rfl⟩
    · exact lv_lload hx hb hdg (lv_look g5 hl (by intro q; cases q)) kk
    · exact lv_lload_n hx hb hdg rfl (lv_look g5 hl (by intro q; cases q)) kk
  · cases hs
theorem vs_xla {ins : Instr} {w : Nat} (hC : CX p s m args meth c b0 ba fv D dA E y) (hd : (ins = .aload i ∧ w = 2) ∨ (∃ k : Fin 4, ins = .aload_n k ∧ (k : Nat) = i ∧ w = 1)) (hdg : decode (mB y) pc = .ok (ins, w)) (hs : xla ls st h pc w i = some (pc', ls', st', h')) (hk : VW p l e R s m args below meth c Q b0 ba fv D dA y n0 s0 pc' ls' st' h') : VW p l e R s m args below meth c Q b0 ba fv D dA y n0 s0 pc ls st h := by
  obtain ⟨⟨hx, hb, -⟩, -⟩ := hC
  unfold xla at hs
  split at hs
  · next x hl =>
    cases hs
    intro H locs lsC g1 g2 g3 g4 g5 g6 g7 g8
    have kk := hk H locs lsC g1 g2 g3 g4 g5 g6 g7 g8
    rcases hd with ⟨rfl, rfl⟩ | ⟨k, rfl, rfl, rfl⟩
    · exact lv_aload hx hb hdg (lv_look g5 hl (by intro q; cases q)) kk
    · exact lv_aload_n hx hb hdg rfl (lv_look g5 hl (by intro q; cases q)) kk
  · cases hs
theorem vs_xsi {ins : Instr} {w : Nat} (hC : CX p s m args meth c b0 ba fv D dA E y) (hd : (ins = .istore i ∧ w = 2) ∨ (∃ k : Fin 4, ins = .istore_n k ∧ (k : Nat) = i ∧ w = 1)) (hdg : decode (mB y) pc = .ok (ins, w)) (hs : xsi ls st h pc w i = some (pc', ls', st', h')) (hk : VW p l e R s m args below meth c Q b0 ba fv D dA y n0 s0 pc' ls' st' h') : VW p l e R s m args below meth c Q b0 ba fv D dA y n0 s0 pc ls st h := by
  obtain ⟨⟨hx, hb, -⟩, -, -, -, -, hfv⟩ := hC
  unfold xsi at hs
  split at hs
  · next x r =>
    split at hs
    · next hi =>
      cases hs
      intro H locs lsC g1 g2 g3 g4 g5 g6 g7 g8
      have kk := fun lsC' (hv : lv_has lsC' (mL y) ((i, tv ba fv (.int x)) :: (la ba fv 0 ls).filter (fun q => !(q.1 == i) && !(q.1 + 1 == i && q.2.category == 2)))) => hk H locs lsC' g1 g2 g3 g4 (la_s1 hfv hv) (by rw [xs1_len]; exact g6) g7 g8
      rcases hd with ⟨rfl, rfl⟩ | ⟨k, rfl, rfl, rfl⟩
      · exact lv_istore hx hb hdg g5 (by rw [← g6]; exact hi) rfl kk
      · exact lv_istore_n hx hb hdg rfl g5 (by rw [← g6]; exact hi) rfl kk
    · cases hs
  · cases hs
theorem vs_xsa {ins : Instr} {w : Nat} (hC : CX p s m args meth c b0 ba fv D dA E y) (hd : (ins = .astore i ∧ w = 2) ∨ (∃ k : Fin 4, ins = .astore_n k ∧ (k : Nat) = i ∧ w = 1)) (hdg : decode (mB y) pc = .ok (ins, w)) (hs : xsa ls st h pc w i = some (pc', ls', st', h')) (hk : VW p l e R s m args below meth c Q b0 ba fv D dA y n0 s0 pc' ls' st' h') : VW p l e R s m args below meth c Q b0 ba fv D dA y n0 s0 pc ls st h := by
  obtain ⟨⟨hx, hb, -⟩, -, -, -, -, hfv⟩ := hC
  unfold xsa at hs
  split at hs
  · next x r =>
    split at hs
    · next hi =>
      cases hs
      intro H locs lsC g1 g2 g3 g4 g5 g6 g7 g8
      have kk := fun lsC' (hv : lv_has lsC' (mL y) ((i, tv ba fv (.ref x)) :: (la ba fv 0 ls).filter (fun q => !(q.1 == i) && !(q.1 + 1 == i && q.2.category == 2)))) => hk H locs lsC' g1 g2 g3 g4 (la_s1 hfv hv) (by rw [xs1_len]; exact g6) g7 g8
      rcases hd with ⟨rfl, rfl⟩ | ⟨k, rfl, rfl, rfl⟩
      · exact lv_astore hx hb hdg g5 (by rw [← g6]; exact hi) rfl kk
      · exact lv_astore_n hx hb hdg rfl g5 (by rw [← g6]; exact hi) rfl kk
    · cases hs
  · cases hs
theorem vs_xsl {ins : Instr} {w : Nat} (hC : CX p s m args meth c b0 ba fv D dA E y) (hd : (ins = .lstore i ∧ w = 2) ∨ (∃ k : Fin 4, ins = .lstore_n k ∧ (k : Nat) = i ∧ w = 1)) (hdg : decode (mB y) pc = .ok (ins, w)) (hs : xsl ls st h pc w i = some (pc', ls', st', h')) (hk : VW p l e R s m args below meth c Q b0 ba fv D dA y n0 s0 pc' ls' st' h') : VW p l e R s m args below meth c Q b0 ba fv D dA y n0 s0 pc ls st h := by
  obtain ⟨⟨hx, hb, -⟩, -, -, -, -, hfv⟩ := hC
  unfold xsl at hs
  split at hs
  · next x r =>
    split at hs
    · next hi =>
      cases hs
      intro H locs lsC g1 g2 g3 g4 g5 g6 g7 g8
      have kk := fun lsC' (hv : lv_has lsC' (mL y) ((i, tv ba fv (.long x)) :: (la ba fv 0 ls).filter (fun q => !(q.1 == i) && (!(q.1 == i + 1) && !(q.1 + 1 == i && q.2.category == 2))))) => hk H locs lsC' g1 g2 g3 g4 (la_s2 hfv hi hv) (by rw [xs2_len]; exact g6) g7 g8
      rcases hd with ⟨rfl, rfl⟩ | ⟨k, rfl, rfl, rfl⟩
      · exact lv_lstore hx hb hdg g5 (by rw [← g6]; exact hi) rfl kk
      · exact lv_lstore_n hx hb hdg rfl g5 (by rw [← g6]; exact hi) rfl kk
    · cases hs
  · cases hs
theorem vs_iadd (hC : CX p s m args meth c b0 ba fv D dA E y) (hdg : decode (mB y) pc = .ok (.iadd, 1)) (hs : xi2 (fun x y => x + y) ls st h pc = some (pc', ls', st', h')) (hk : VW p l e R s m args below meth c Q b0 ba fv D dA y n0 s0 pc' ls' st' h') : VW p l e R s m args below meth c Q b0 ba fv D dA y n0 s0 pc ls st h := by
  obtain ⟨⟨hx, hb, -⟩, -⟩ := hC
  unfold xi2 at hs
  split at hs
  · cases hs
    intro H locs lsC g1 g2 g3 g4 g5 g6 g7 g8
    exact lv_iadd hx hb hdg (hk H locs lsC g1 g2 g3 g4 g5 g6 g7 g8)
  · cases hs
theorem vs_isub (hC : CX p s m args meth c b0 ba fv D dA E y) (hdg : decode (mB y) pc = .ok (.isub, 1)) (hs : xi2 (fun x y => x - y) ls st h pc = some (pc', ls', st', h')) (hk : VW p l e R s m args below meth c Q b0 ba fv D dA y n0 s0 pc' ls' st' h') : VW p l e R s m args below meth c Q b0 ba fv D dA y n0 s0 pc ls st h := by
  obtain ⟨⟨hx, hb, -⟩, -⟩ := hC
  unfold xi2 at hs
  split at hs
  · cases hs
    intro H locs lsC g1 g2 g3 g4 g5 g6 g7 g8
    exact lv_isub hx hb hdg (hk H locs lsC g1 g2 g3 g4 g5 g6 g7 g8)
  · cases hs
theorem vs_imul (hC : CX p s m args meth c b0 ba fv D dA E y) (hdg : decode (mB y) pc = .ok (.imul, 1)) (hs : xi2 (fun x y => x * y) ls st h pc = some (pc', ls', st', h')) (hk : VW p l e R s m args below meth c Q b0 ba fv D dA y n0 s0 pc' ls' st' h') : VW p l e R s m args below meth c Q b0 ba fv D dA y n0 s0 pc ls st h := by
  obtain ⟨⟨hx, hb, -⟩, -⟩ := hC
  unfold xi2 at hs
  split at hs
  · cases hs
    intro H locs lsC g1 g2 g3 g4 g5 g6 g7 g8
    exact lv_imul hx hb hdg (hk H locs lsC g1 g2 g3 g4 g5 g6 g7 g8)
  · cases hs
theorem vs_iand (hC : CX p s m args meth c b0 ba fv D dA E y) (hdg : decode (mB y) pc = .ok (.iand, 1)) (hs : xi2 (fun x y => x &&& y) ls st h pc = some (pc', ls', st', h')) (hk : VW p l e R s m args below meth c Q b0 ba fv D dA y n0 s0 pc' ls' st' h') : VW p l e R s m args below meth c Q b0 ba fv D dA y n0 s0 pc ls st h := by
  obtain ⟨⟨hx, hb, -⟩, -⟩ := hC
  unfold xi2 at hs
  split at hs
  · cases hs
    intro H locs lsC g1 g2 g3 g4 g5 g6 g7 g8
    exact lv_iand hx hb hdg (hk H locs lsC g1 g2 g3 g4 g5 g6 g7 g8)
  · cases hs
theorem vs_ishr (hC : CX p s m args meth c b0 ba fv D dA E y) (hdg : decode (mB y) pc = .ok (.ishr, 1)) (hs : xi2 (fun x y => x >>> (y &&& 31)) ls st h pc = some (pc', ls', st', h')) (hk : VW p l e R s m args below meth c Q b0 ba fv D dA y n0 s0 pc' ls' st' h') : VW p l e R s m args below meth c Q b0 ba fv D dA y n0 s0 pc ls st h := by
  obtain ⟨⟨hx, hb, -⟩, -⟩ := hC
  unfold xi2 at hs
  split at hs
  · cases hs
    intro H locs lsC g1 g2 g3 g4 g5 g6 g7 g8
    exact lv_ishr hx hb hdg (hk H locs lsC g1 g2 g3 g4 g5 g6 g7 g8)
  · cases hs
theorem vs_idiv (hC : CX p s m args meth c b0 ba fv D dA E y) (hdg : decode (mB y) pc = .ok (.idiv, 1)) (hs : xd2 (fun x y => x / y) ls st h pc = some (pc', ls', st', h')) (hk : VW p l e R s m args below meth c Q b0 ba fv D dA y n0 s0 pc' ls' st' h') : VW p l e R s m args below meth c Q b0 ba fv D dA y n0 s0 pc ls st h := by
  obtain ⟨⟨hx, hb, -⟩, -⟩ := hC
  unfold xd2 at hs
  split at hs
  · split at hs
    · cases hs
    · next hne =>
      cases hs
      intro H locs lsC g1 g2 g3 g4 g5 g6 g7 g8
      exact lv_idiv hx hb hdg hne (hk H locs lsC g1 g2 g3 g4 g5 g6 g7 g8)
  · cases hs
theorem vs_irem (hC : CX p s m args meth c b0 ba fv D dA E y) (hdg : decode (mB y) pc = .ok (.irem, 1)) (hs : xd2 (fun x y => x - x / y * y) ls st h pc = some (pc', ls', st', h')) (hk : VW p l e R s m args below meth c Q b0 ba fv D dA y n0 s0 pc' ls' st' h') : VW p l e R s m args below meth c Q b0 ba fv D dA y n0 s0 pc ls st h := by
  obtain ⟨⟨hx, hb, -⟩, -⟩ := hC
  unfold xd2 at hs
  split at hs
  · split at hs
    · cases hs
    · next hne =>
      cases hs
      intro H locs lsC g1 g2 g3 g4 g5 g6 g7 g8
      exact lv_irem hx hb hdg hne (hk H locs lsC g1 g2 g3 g4 g5 g6 g7 g8)
  · cases hs
theorem vs_ladd (hC : CX p s m args meth c b0 ba fv D dA E y) (hdg : decode (mB y) pc = .ok (.ladd, 1)) (hs : xl2 (fun x y => x + y) ls st h pc = some (pc', ls', st', h')) (hk : VW p l e R s m args below meth c Q b0 ba fv D dA y n0 s0 pc' ls' st' h') : VW p l e R s m args below meth c Q b0 ba fv D dA y n0 s0 pc ls st h := by
  obtain ⟨⟨hx, hb, -⟩, -⟩ := hC
  unfold xl2 at hs
  split at hs
  · cases hs
    intro H locs lsC g1 g2 g3 g4 g5 g6 g7 g8
    exact lv_ladd hx hb hdg (hk H locs lsC g1 g2 g3 g4 g5 g6 g7 g8)
  · cases hs
theorem vs_lsub (hC : CX p s m args meth c b0 ba fv D dA E y) (hdg : decode (mB y) pc = .ok (.lsub, 1)) (hs : xl2 (fun x y => x - y) ls st h pc = some (pc', ls', st', h')) (hk : VW p l e R s m args below meth c Q b0 ba fv D dA y n0 s0 pc' ls' st' h') : VW p l e R s m args below meth c Q b0 ba fv D dA y n0 s0 pc ls st h := by
  obtain ⟨⟨hx, hb, -⟩, -⟩ := hC
  unfold xl2 at hs
  split at hs
  · cases hs
    intro H locs lsC g1 g2 g3 g4 g5 g6 g7 g8
    exact lv_lsub hx hb hdg (hk H locs lsC g1 g2 g3 g4 g5 g6 g7 g8)
  · cases hs
theorem vs_lmul (hC : CX p s m args meth c b0 ba fv D dA E y) (hdg : decode (mB y) pc = .ok (.lmul, 1)) (hs : xl2 (fun x y => x * y) ls st h pc = some (pc', ls', st', h')) (hk : VW p l e R s m args below meth c Q b0 ba fv D dA y n0 s0 pc' ls' st' h') : VW p l e R s m args below meth c Q b0 ba fv D dA y n0 s0 pc ls st h := by
  obtain ⟨⟨hx, hb, -⟩, -⟩ := hC
  unfold xl2 at hs
  split at hs
  · cases hs
    intro H locs lsC g1 g2 g3 g4 g5 g6 g7 g8
    exact lv_lmul hx hb hdg (hk H locs lsC g1 g2 g3 g4 g5 g6 g7 g8)
  · cases hs
theorem vs_land (hC : CX p s m args meth c b0 ba fv D dA E y) (hdg : decode (mB y) pc = .ok (.land, 1)) (hs : xl2 (fun x y => x &&& y) ls st h pc = some (pc', ls', st', h')) (hk : VW p l e R s m args below meth c Q b0 ba fv D dA y n0 s0 pc' ls' st' h') : VW p l e R s m args below meth c Q b0 ba fv D dA y n0 s0 pc ls st h := by
  obtain ⟨⟨hx, hb, -⟩, -⟩ := hC
  unfold xl2 at hs
  split at hs
  · cases hs
    intro H locs lsC g1 g2 g3 g4 g5 g6 g7 g8
    exact lv_land hx hb hdg (hk H locs lsC g1 g2 g3 g4 g5 g6 g7 g8)
  · cases hs
theorem vs_lor (hC : CX p s m args meth c b0 ba fv D dA E y) (hdg : decode (mB y) pc = .ok (.lor, 1)) (hs : xl2 (fun x y => x ||| y) ls st h pc = some (pc', ls', st', h')) (hk : VW p l e R s m args below meth c Q b0 ba fv D dA y n0 s0 pc' ls' st' h') : VW p l e R s m args below meth c Q b0 ba fv D dA y n0 s0 pc ls st h := by
  obtain ⟨⟨hx, hb, -⟩, -⟩ := hC
  unfold xl2 at hs
  split at hs
  · cases hs
    intro H locs lsC g1 g2 g3 g4 g5 g6 g7 g8
    exact lv_lor hx hb hdg (hk H locs lsC g1 g2 g3 g4 g5 g6 g7 g8)
  · cases hs
theorem vs_ldiv (hC : CX p s m args meth c b0 ba fv D dA E y) (hdg : decode (mB y) pc = .ok (.ldiv, 1)) (hs : xe2 (fun x y => x / y) ls st h pc = some (pc', ls', st', h')) (hk : VW p l e R s m args below meth c Q b0 ba fv D dA y n0 s0 pc' ls' st' h') : VW p l e R s m args below meth c Q b0 ba fv D dA y n0 s0 pc ls st h := by
  obtain ⟨⟨hx, hb, -⟩, -⟩ := hC
  unfold xe2 at hs
  split at hs
  · split at hs
    · cases hs
    · next hne =>
      cases hs
      intro H locs lsC g1 g2 g3 g4 g5 g6 g7 g8
      exact lv_ldiv hx hb hdg hne (hk H locs lsC g1 g2 g3 g4 g5 g6 g7 g8)
  · cases hs
theorem vs_lrem (hC : CX p s m args meth c b0 ba fv D dA E y) (hdg : decode (mB y) pc = .ok (.lrem, 1)) (hs : xe2 (fun x y => x - x / y * y) ls st h pc = some (pc', ls', st', h')) (hk : VW p l e R s m args below meth c Q b0 ba fv D dA y n0 s0 pc' ls' st' h') : VW p l e R s m args below meth c Q b0 ba fv D dA y n0 s0 pc ls st h := by
  obtain ⟨⟨hx, hb, -⟩, -⟩ := hC
  unfold xe2 at hs
  split at hs
  · split at hs
    · cases hs
    · next hne =>
      cases hs
      intro H locs lsC g1 g2 g3 g4 g5 g6 g7 g8
      exact lv_lrem hx hb hdg hne (hk H locs lsC g1 g2 g3 g4 g5 g6 g7 g8)
  · cases hs
theorem vs_lshl (hC : CX p s m args meth c b0 ba fv D dA E y) (hdg : decode (mB y) pc = .ok (.lshl, 1)) (hs : xlsh (fun x y => x <<< (y.toInt64 &&& 63)) ls st h pc = some (pc', ls', st', h')) (hk : VW p l e R s m args below meth c Q b0 ba fv D dA y n0 s0 pc' ls' st' h') : VW p l e R s m args below meth c Q b0 ba fv D dA y n0 s0 pc ls st h := by
  obtain ⟨⟨hx, hb, -⟩, -⟩ := hC
  unfold xlsh at hs
  split at hs
  · cases hs
    intro H locs lsC g1 g2 g3 g4 g5 g6 g7 g8
    exact lv_lshl hx hb hdg rfl (hk H locs lsC g1 g2 g3 g4 g5 g6 g7 g8)
  · cases hs
theorem vs_lushr (hC : CX p s m args meth c b0 ba fv D dA E y) (hdg : decode (mB y) pc = .ok (.lushr, 1)) (hs : xlsh (fun x y => (x.toUInt64 >>> (y.toInt64.toUInt64 &&& Int64.toUInt64 63)).toInt64) ls st h pc = some (pc', ls', st', h')) (hk : VW p l e R s m args below meth c Q b0 ba fv D dA y n0 s0 pc' ls' st' h') : VW p l e R s m args below meth c Q b0 ba fv D dA y n0 s0 pc ls st h := by
  obtain ⟨⟨hx, hb, -⟩, -⟩ := hC
  unfold xlsh at hs
  split at hs
  · cases hs
    intro H locs lsC g1 g2 g3 g4 g5 g6 g7 g8
    exact lv_lushr hx hb hdg rfl (hk H locs lsC g1 g2 g3 g4 g5 g6 g7 g8)
  · cases hs
theorem vs_if_icmp_eq {x0 y0 : Int32} {off : Int} {r : List Value} (hC : CX p s m args meth c b0 ba fv D dA E y) (hdg : decode (mB y) pc = .ok (.if_icmp .eq off, 3)) (hs : xif (xcm .eq x0 y0) pc off ls r h = some (pc', ls', st', h')) (hk : VW p l e R s m args below meth c Q b0 ba fv D dA y n0 s0 pc' ls' st' h') : VW p l e R s m args below meth c Q b0 ba fv D dA y n0 s0 pc ls (.int y0 :: .int x0 :: r) h := by
  obtain ⟨⟨hx, hb, -⟩, -⟩ := hC
  unfold xif at hs
  split at hs
  · next t ht =>
    intro H locs lsC g1 g2 g3 g4 g5 g6 g7 g8
    refine lv_icmp_eq hx hb hdg (xgo_ok ht) (fun hc => ?_) (fun hc => ?_)
    · have h1 : xcm .eq x0 y0 = true := decide_eq_true hc
      rw [h1] at hs
      cases hs
      exact hk H locs lsC g1 g2 g3 g4 g5 g6 g7 g8
    · have h1 : xcm .eq x0 y0 = false := decide_eq_false hc
      rw [h1] at hs
      cases hs
      exact hk H locs lsC g1 g2 g3 g4 g5 g6 g7 g8
  · cases hs
theorem vs_ifCond_eq {x0 : Int32} {off : Int} {r : List Value} (hC : CX p s m args meth c b0 ba fv D dA E y) (hdg : decode (mB y) pc = .ok (.ifCond .eq off, 3)) (hs : xif (xcm .eq x0 0) pc off ls r h = some (pc', ls', st', h')) (hk : VW p l e R s m args below meth c Q b0 ba fv D dA y n0 s0 pc' ls' st' h') : VW p l e R s m args below meth c Q b0 ba fv D dA y n0 s0 pc ls (.int x0 :: r) h := by
  obtain ⟨⟨hx, hb, -⟩, -⟩ := hC
  unfold xif at hs
  split at hs
  · next t ht =>
    intro H locs lsC g1 g2 g3 g4 g5 g6 g7 g8
    refine lv_if_eq hx hb hdg (xgo_ok ht) (fun hc => ?_) (fun hc => ?_)
    · have h1 : xcm .eq x0 0 = true := decide_eq_true hc
      rw [h1] at hs
      cases hs
      exact hk H locs lsC g1 g2 g3 g4 g5 g6 g7 g8
    · have h1 : xcm .eq x0 0 = false := decide_eq_false hc
      rw [h1] at hs
      cases hs
      exact hk H locs lsC g1 g2 g3 g4 g5 g6 g7 g8
  · cases hs
theorem vs_if_icmp_ne {x0 y0 : Int32} {off : Int} {r : List Value} (hC : CX p s m args meth c b0 ba fv D dA E y) (hdg : decode (mB y) pc = .ok (.if_icmp .ne off, 3)) (hs : xif (xcm .ne x0 y0) pc off ls r h = some (pc', ls', st', h')) (hk : VW p l e R s m args below meth c Q b0 ba fv D dA y n0 s0 pc' ls' st' h') : VW p l e R s m args below meth c Q b0 ba fv D dA y n0 s0 pc ls (.int y0 :: .int x0 :: r) h := by
  obtain ⟨⟨hx, hb, -⟩, -⟩ := hC
  unfold xif at hs
  split at hs
  · next t ht =>
    intro H locs lsC g1 g2 g3 g4 g5 g6 g7 g8
    refine lv_icmp_ne hx hb hdg (xgo_ok ht) (fun hc => ?_) (fun hc => ?_)
    · have h1 : xcm .ne x0 y0 = true := decide_eq_true hc
      rw [h1] at hs
      cases hs
      exact hk H locs lsC g1 g2 g3 g4 g5 g6 g7 g8
    · have h1 : xcm .ne x0 y0 = false := decide_eq_false (fun q => q hc)
      rw [h1] at hs
      cases hs
      exact hk H locs lsC g1 g2 g3 g4 g5 g6 g7 g8
  · cases hs
theorem vs_ifCond_ne {x0 : Int32} {off : Int} {r : List Value} (hC : CX p s m args meth c b0 ba fv D dA E y) (hdg : decode (mB y) pc = .ok (.ifCond .ne off, 3)) (hs : xif (xcm .ne x0 0) pc off ls r h = some (pc', ls', st', h')) (hk : VW p l e R s m args below meth c Q b0 ba fv D dA y n0 s0 pc' ls' st' h') : VW p l e R s m args below meth c Q b0 ba fv D dA y n0 s0 pc ls (.int x0 :: r) h := by
  obtain ⟨⟨hx, hb, -⟩, -⟩ := hC
  unfold xif at hs
  split at hs
  · next t ht =>
    intro H locs lsC g1 g2 g3 g4 g5 g6 g7 g8
    refine lv_if_ne hx hb hdg (xgo_ok ht) (fun hc => ?_) (fun hc => ?_)
    · have h1 : xcm .ne x0 0 = true := decide_eq_true hc
      rw [h1] at hs
      cases hs
      exact hk H locs lsC g1 g2 g3 g4 g5 g6 g7 g8
    · have h1 : xcm .ne x0 0 = false := decide_eq_false (fun q => q hc)
      rw [h1] at hs
      cases hs
      exact hk H locs lsC g1 g2 g3 g4 g5 g6 g7 g8
  · cases hs
theorem vs_if_icmp_lt {x0 y0 : Int32} {off : Int} {r : List Value} (hC : CX p s m args meth c b0 ba fv D dA E y) (hdg : decode (mB y) pc = .ok (.if_icmp .lt off, 3)) (hs : xif (xcm .lt x0 y0) pc off ls r h = some (pc', ls', st', h')) (hk : VW p l e R s m args below meth c Q b0 ba fv D dA y n0 s0 pc' ls' st' h') : VW p l e R s m args below meth c Q b0 ba fv D dA y n0 s0 pc ls (.int y0 :: .int x0 :: r) h := by
  obtain ⟨⟨hx, hb, -⟩, -⟩ := hC
  unfold xif at hs
  split at hs
  · next t ht =>
    intro H locs lsC g1 g2 g3 g4 g5 g6 g7 g8
    refine lv_icmp_lt hx hb hdg (xgo_ok ht) (fun hc => ?_) (fun hc => ?_)
    · have h1 : xcm .lt x0 y0 = true := decide_eq_true hc
      rw [h1] at hs
      cases hs
      exact hk H locs lsC g1 g2 g3 g4 g5 g6 g7 g8
    · have h1 : xcm .lt x0 y0 = false := decide_eq_false hc
      rw [h1] at hs
      cases hs
      exact hk H locs lsC g1 g2 g3 g4 g5 g6 g7 g8
  · cases hs
theorem vs_ifCond_lt {x0 : Int32} {off : Int} {r : List Value} (hC : CX p s m args meth c b0 ba fv D dA E y) (hdg : decode (mB y) pc = .ok (.ifCond .lt off, 3)) (hs : xif (xcm .lt x0 0) pc off ls r h = some (pc', ls', st', h')) (hk : VW p l e R s m args below meth c Q b0 ba fv D dA y n0 s0 pc' ls' st' h') : VW p l e R s m args below meth c Q b0 ba fv D dA y n0 s0 pc ls (.int x0 :: r) h := by
  obtain ⟨⟨hx, hb, -⟩, -⟩ := hC
  unfold xif at hs
  split at hs
  · next t ht =>
    intro H locs lsC g1 g2 g3 g4 g5 g6 g7 g8
    refine lv_if_lt hx hb hdg (xgo_ok ht) (fun hc => ?_) (fun hc => ?_)
    · have h1 : xcm .lt x0 0 = true := decide_eq_true hc
      rw [h1] at hs
      cases hs
      exact hk H locs lsC g1 g2 g3 g4 g5 g6 g7 g8
    · have h1 : xcm .lt x0 0 = false := decide_eq_false hc
      rw [h1] at hs
      cases hs
      exact hk H locs lsC g1 g2 g3 g4 g5 g6 g7 g8
  · cases hs
theorem vs_if_icmp_ge {x0 y0 : Int32} {off : Int} {r : List Value} (hC : CX p s m args meth c b0 ba fv D dA E y) (hdg : decode (mB y) pc = .ok (.if_icmp .ge off, 3)) (hs : xif (xcm .ge x0 y0) pc off ls r h = some (pc', ls', st', h')) (hk : VW p l e R s m args below meth c Q b0 ba fv D dA y n0 s0 pc' ls' st' h') : VW p l e R s m args below meth c Q b0 ba fv D dA y n0 s0 pc ls (.int y0 :: .int x0 :: r) h := by
  obtain ⟨⟨hx, hb, -⟩, -⟩ := hC
  unfold xif at hs
  split at hs
  · next t ht =>
    intro H locs lsC g1 g2 g3 g4 g5 g6 g7 g8
    refine lv_icmp_ge hx hb hdg (xgo_ok ht) (fun hc => ?_) (fun hc => ?_)
    · have h1 : xcm .ge x0 y0 = true := decide_eq_true hc
      rw [h1] at hs
      cases hs
      exact hk H locs lsC g1 g2 g3 g4 g5 g6 g7 g8
    · have h1 : xcm .ge x0 y0 = false := decide_eq_false hc
      rw [h1] at hs
      cases hs
      exact hk H locs lsC g1 g2 g3 g4 g5 g6 g7 g8
  · cases hs
theorem vs_ifCond_ge {x0 : Int32} {off : Int} {r : List Value} (hC : CX p s m args meth c b0 ba fv D dA E y) (hdg : decode (mB y) pc = .ok (.ifCond .ge off, 3)) (hs : xif (xcm .ge x0 0) pc off ls r h = some (pc', ls', st', h')) (hk : VW p l e R s m args below meth c Q b0 ba fv D dA y n0 s0 pc' ls' st' h') : VW p l e R s m args below meth c Q b0 ba fv D dA y n0 s0 pc ls (.int x0 :: r) h := by
  obtain ⟨⟨hx, hb, -⟩, -⟩ := hC
  unfold xif at hs
  split at hs
  · next t ht =>
    intro H locs lsC g1 g2 g3 g4 g5 g6 g7 g8
    refine lv_if_ge hx hb hdg (xgo_ok ht) (fun hc => ?_) (fun hc => ?_)
    · have h1 : xcm .ge x0 0 = true := decide_eq_true hc
      rw [h1] at hs
      cases hs
      exact hk H locs lsC g1 g2 g3 g4 g5 g6 g7 g8
    · have h1 : xcm .ge x0 0 = false := decide_eq_false hc
      rw [h1] at hs
      cases hs
      exact hk H locs lsC g1 g2 g3 g4 g5 g6 g7 g8
  · cases hs
theorem vs_if_icmp_gt {x0 y0 : Int32} {off : Int} {r : List Value} (hC : CX p s m args meth c b0 ba fv D dA E y) (hdg : decode (mB y) pc = .ok (.if_icmp .gt off, 3)) (hs : xif (xcm .gt x0 y0) pc off ls r h = some (pc', ls', st', h')) (hk : VW p l e R s m args below meth c Q b0 ba fv D dA y n0 s0 pc' ls' st' h') : VW p l e R s m args below meth c Q b0 ba fv D dA y n0 s0 pc ls (.int y0 :: .int x0 :: r) h := by
  obtain ⟨⟨hx, hb, -⟩, -⟩ := hC
  unfold xif at hs
  split at hs
  · next t ht =>
    intro H locs lsC g1 g2 g3 g4 g5 g6 g7 g8
    refine lv_icmp_gt hx hb hdg (xgo_ok ht) (fun hc => ?_) (fun hc => ?_)
    · have h1 : xcm .gt x0 y0 = true := decide_eq_true hc
      rw [h1] at hs
      cases hs
      exact hk H locs lsC g1 g2 g3 g4 g5 g6 g7 g8
    · have h1 : xcm .gt x0 y0 = false := decide_eq_false hc
      rw [h1] at hs
      cases hs
      exact hk H locs lsC g1 g2 g3 g4 g5 g6 g7 g8
  · cases hs
theorem vs_ifCond_gt {x0 : Int32} {off : Int} {r : List Value} (hC : CX p s m args meth c b0 ba fv D dA E y) (hdg : decode (mB y) pc = .ok (.ifCond .gt off, 3)) (hs : xif (xcm .gt x0 0) pc off ls r h = some (pc', ls', st', h')) (hk : VW p l e R s m args below meth c Q b0 ba fv D dA y n0 s0 pc' ls' st' h') : VW p l e R s m args below meth c Q b0 ba fv D dA y n0 s0 pc ls (.int x0 :: r) h := by
  obtain ⟨⟨hx, hb, -⟩, -⟩ := hC
  unfold xif at hs
  split at hs
  · next t ht =>
    intro H locs lsC g1 g2 g3 g4 g5 g6 g7 g8
    refine lv_if_gt hx hb hdg (xgo_ok ht) (fun hc => ?_) (fun hc => ?_)
    · have h1 : xcm .gt x0 0 = true := decide_eq_true hc
      rw [h1] at hs
      cases hs
      exact hk H locs lsC g1 g2 g3 g4 g5 g6 g7 g8
    · have h1 : xcm .gt x0 0 = false := decide_eq_false hc
      rw [h1] at hs
      cases hs
      exact hk H locs lsC g1 g2 g3 g4 g5 g6 g7 g8
  · cases hs
theorem vs_if_icmp_le {x0 y0 : Int32} {off : Int} {r : List Value} (hC : CX p s m args meth c b0 ba fv D dA E y) (hdg : decode (mB y) pc = .ok (.if_icmp .le off, 3)) (hs : xif (xcm .le x0 y0) pc off ls r h = some (pc', ls', st', h')) (hk : VW p l e R s m args below meth c Q b0 ba fv D dA y n0 s0 pc' ls' st' h') : VW p l e R s m args below meth c Q b0 ba fv D dA y n0 s0 pc ls (.int y0 :: .int x0 :: r) h := by
  obtain ⟨⟨hx, hb, -⟩, -⟩ := hC
  unfold xif at hs
  split at hs
  · next t ht =>
    intro H locs lsC g1 g2 g3 g4 g5 g6 g7 g8
    refine lv_icmp_le hx hb hdg (xgo_ok ht) (fun hc => ?_) (fun hc => ?_)
    · have h1 : xcm .le x0 y0 = true := decide_eq_true hc
      rw [h1] at hs
      cases hs
      exact hk H locs lsC g1 g2 g3 g4 g5 g6 g7 g8
    · have h1 : xcm .le x0 y0 = false := decide_eq_false hc
      rw [h1] at hs
      cases hs
      exact hk H locs lsC g1 g2 g3 g4 g5 g6 g7 g8
  · cases hs
theorem vs_ifCond_le {x0 : Int32} {off : Int} {r : List Value} (hC : CX p s m args meth c b0 ba fv D dA E y) (hdg : decode (mB y) pc = .ok (.ifCond .le off, 3)) (hs : xif (xcm .le x0 0) pc off ls r h = some (pc', ls', st', h')) (hk : VW p l e R s m args below meth c Q b0 ba fv D dA y n0 s0 pc' ls' st' h') : VW p l e R s m args below meth c Q b0 ba fv D dA y n0 s0 pc ls (.int x0 :: r) h := by
  obtain ⟨⟨hx, hb, -⟩, -⟩ := hC
  unfold xif at hs
  split at hs
  · next t ht =>
    intro H locs lsC g1 g2 g3 g4 g5 g6 g7 g8
    refine lv_if_le hx hb hdg (xgo_ok ht) (fun hc => ?_) (fun hc => ?_)
    · have h1 : xcm .le x0 0 = true := decide_eq_true hc
      rw [h1] at hs
      cases hs
      exact hk H locs lsC g1 g2 g3 g4 g5 g6 g7 g8
    · have h1 : xcm .le x0 0 = false := decide_eq_false hc
      rw [h1] at hs
      cases hs
      exact hk H locs lsC g1 g2 g3 g4 g5 g6 g7 g8
  · cases hs
end SS
