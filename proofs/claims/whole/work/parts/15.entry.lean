def R_law : String := "KnifeTradeLaw"
def lw_P (b : Addr) (xs : List Int32) (args : Array Value) (s : State) : Prop := args = #[.ref b] ∧ s.IntsAt b xs ∧ xs.length ≤ 448 ∧ (Jvm.Cond.and given_1 narrow_1).before args s = true
def lw_Q (_ : Array Value) (s : State) (o : Outcome) (t : State) : Prop := o = .returned (some (.int 1)) ∧ Framed s o t [] 600000 7302250
def lw_Z (below : List Frame) (a : Array Value) (s : State) : State → Prop := fun t => ∃ o, t.status = .running ∧ Ended t below o ∧ lw_Q a s o t
/-- the law's own end, with 1 on the stack, nothing written that was there before, its room as the claim has it -/
theorem lw_ret {p : Program} {l : Launch} {e : Env} {s : State} {m : MethodId} {below : List Frame} {meth : Method} {c : Code} {b : Nat} (hx : p.tables.exec = Jvm.exec) (hb : c.code = code) (hr : meth.sig.returnType = ret) (hlocks : meth.locks = false) {pc : Nat} {H : Heap} {ls : Array Slot} (hdg : decode code pc = .ok (.ireturn, 1)) : W p l e room_1 s m #[Value.ref b] below meth c H [] 600000 7302250 (lw_Z below #[Value.ref b] s) (F0 m pc ls [.int 1]) := by
  intro T hT X
  obtain ⟨fs, hret, hrun, hended, hW, hframe⟩ := X.leave (v := some (.int 1)) (hlocks := hlocks) (fun h => by rw [hr] at h; cases h)
  have hmeth' : T.vm.method? m = some meth := X.method'
  refine ⟨T.setFrames fs, ?_, .returned (some (.int 1)), hrun, hended, rfl, ⟨_, rfl⟩, hW, hframe⟩
  jvm_step X.here [X.here.top, hx, hb, hdg, hmeth', hr, ret, narrow_b1]
  (try refine ⟨rfl, ?_⟩); (try refine ⟨rfl, ?_⟩)
  first | (intro acts; rw [hret _ acts rfl rfl rfl]) | rw [hret _ _ rfl rfl rfl]
  exact Steps.refl _
/-- what holds at the law's entry: the machine, the code, the tables' words (any of lw_tbl by 'hts w (by decide +kernel)'), the script of L ints xs at the cell b, what the Statement gives of the start (any of its parts by flat_of_before) -/
def lw_At (p : Program) (s : State) (m : MethodId) (meth : Method) (c : Code) (b L : Nat) (xs : Nat → Int32) : Prop :=
  p.tables.exec = Jvm.exec ∧ c.code = code ∧ meth.sig.returnType = ret ∧ c.maxLocals = 4 ∧ s.vm.findClass R_law = some m.cls ∧ (∀ w ∈ lw_tbl, w.before #[Value.ref b] s = true) ∧ va_X b L xs s s.heap ∧ b < s.heap.size ∧ meth.locks = false ∧ (Jvm.Cond.and given_1 narrow_1).before #[Value.ref b] s = true
/-! THE LAW'S ENTRY, FOR THE INTERPRETER -/
def xba (b0 : Nat) (adK adV : Nat → Nat) (b : Nat) : Nat → Nat := fun k => if k < xTop then b0 + k else if k < xByt then adK (k - xStr) else if k < xScr then adV (k - xByt) else b
def sIx : List Nat := [55, 57, 59, 61, 45]
def sTm (i : Nat) : Term := .string "KnifeTrade$Steps" (sIx.getD i 0)
def lFl : List Cond := flatC (Jvm.Cond.and given_1 narrow_1)
theorem fl_ex : (List.range 5).all (fun i => lFl.contains (.exactly (sTm i) "java/lang/String") && (lFl.contains (.eq (.field (sTm i) "java/lang/String" "coder" "B") (.int 0)) && (lFl.contains (.arrayOf (.field (sTm i) "java/lang/String" "value" "[B") .byte) && (lFl.contains (.eq (.length (.field (sTm i) "java/lang/String" "value" "[B")) (.int (Int32.ofNat (xLens.getD i 0)))) && ((List.range (xLens.getD i 0)).all (fun j => lFl.contains (.eq (.elem (.field (sTm i) "java/lang/String" "value" "[B") (.int (Int32.ofNat j))) (.int ((xByts.getD i []).getD j 0)))) && (List.range 5).all (fun j => i == j || (lFl.contains (.not (.eq (sTm i) (sTm j))) || lFl.contains (.not (.eq (sTm j) (sTm i)))))))))) = true := by decide +kernel
theorem fl_st : (lFl.contains (.eq (.static "java/lang/String" "COMPACT_STRINGS" "Z") (.int 1)) && lFl.contains (.isRef (.static "jdk/internal/util/Preconditions" "SIOOBE_FORMATTER" "Ljava/util/function/BiFunction;"))) = true := by decide +kernel
theorem tb_ws : ([.laysStatic "java/lang/String" "COMPACT_STRINGS" "Z", .laysStatic "jdk/internal/util/Preconditions" "SIOOBE_FORMATTER" "Ljava/util/function/BiFunction;", .initialized "java/lang/String", .initialized "jdk/internal/util/Preconditions", .arrayOver (.object RX2), .arrayOver (.object RX4), .arrayOver (.object RX6), .arrayOver (.object RX7), .arrayOver (.array .int)] : List Cond).all (fun w => lw_tbl.contains w) = true := by decide +kernel
theorem s9_all : ([0, 1, 2, 3, 4, 5, 6, 7, 8, 9, 10, 20, 21, 22] : List Nat).all (fun own => (RT own).all (fun e => !(e.2.1 == 9) || (own == 4 && (decide (e.2.2.1 < 5) && e.1 == sIx.getD e.2.2.1 0)))) = true := by decide +kernel
theorem s9 {own : Nat} {e : Nat × Nat × Nat × Nat} (he : e ∈ RT own) (h9 : e.2.1 = 9) : own = 4 ∧ e.2.2.1 < 5 ∧ e.1 = sIx.getD e.2.2.1 0 := by
  have hown : own ∈ ([0, 1, 2, 3, 4, 5, 6, 7, 8, 9, 10, 20, 21, 22] : List Nat) := by
    unfold RT at he
    split at he
    all_goals first | (exact absurd he List.not_mem_nil) | decide
  have h1 := List.all_eq_true.mp (List.all_eq_true.mp s9_all own hown) e he
  simp only [h9, beq_self_eq_true, Bool.not_true, Bool.false_or, Bool.and_eq_true, beq_iff_eq, decide_eq_true_eq] at h1
  exact h1
theorem ev_before {args : Array Value} {s : State} {c : Cond} (h : (Jvm.Cond.and given_1 narrow_1).before args s = true) (hc : lFl.contains c = true) : c.before args s = true := flat_of_before _ h c (List.contains_iff_mem.mp hc)
theorem known_all {args : Array Value} {s : State} (hts : ∀ w ∈ lw_tbl, w.before args s = true) : ∃ (D : va_G), ∀ c, c < 10 → u_Kn s (RN c) (TC c) (NC c) (D.1 c) (D.2 c) := by
  have h : ∀ c, ∃ (q : ClassId × (Nat → Nat)), c < 10 → u_Kn s (RN c) (TC c) (NC c) q.1 q.2 := by
    intro c
    by_cases hc : c < 10
    · obtain ⟨cC, iS, hk⟩ := u_known (C := RN c) (T := TC c) (N := NC c) (n := NC c) (ws := lw_tbl) hts (fun w hw => GWl_in w (lays_in hc w hw)) (hts _ (GWl_in _ (GWm_at hc)))
      exact ⟨(cC, iS), fun _ => hk⟩
    · exact ⟨(0, fun _ => 0), fun q => absurd q hc⟩
  exact ⟨(fun c => (Classical.choose (h c)).1, fun c => (Classical.choose (h c)).2), fun c hc => Classical.choose_spec (h c) hc⟩
theorem arr_prim {args : Array Value} {s : State} {ty : FieldType} (hn : ∀ C, ty ≠ .object C) (h : (Cond.arrayClass ty).before args s = true) : ∃ cA : ClassId, ArrOfT s cA ty ∧ va_RA s cA ty := by
  obtain ⟨cA, k, comp, h1, h2, h3⟩ := Cond.arrayClass_spec h
  refine ⟨cA, fun n z => ⟨(fun q hq => by cases hq), k, h2, comp, h3⟩, ?_⟩
  cases ty with
  | object C => exact absurd rfl (hn C)
  | _ => exact h1
theorem arr_obj {args : Array Value} {s : State} {C : String} (h : (Cond.arrayOver (.object C)).before args s = true) : ∃ cA : ClassId, ArrOfT s cA (.object C) ∧ va_RA s cA (.object C) := by
  obtain ⟨comp, cA, k, h1, -, h2, h3, h4⟩ := Cond.arrayOver_spec h
  exact ⟨cA, fun n z => ⟨(fun q hq => by cases hq), k, h2, comp, h3⟩, k, comp, h2, h3, h1, h4⟩
theorem arr_arr {args : Array Value} {s : State} {t : FieldType} (h : (Cond.arrayOver (.array t)).before args s = true) : ∃ cA : ClassId, ArrOfT s cA (.array t) ∧ va_RA s cA (.array t) := by
  obtain ⟨comp, cA, k, h1, -, h2, h3, h4⟩ := arrayOverA_spec h
  exact ⟨cA, fun n z => ⟨(fun q hq => by cases hq), k, h2, comp, h3⟩, h4⟩
theorem K_all {args : Array Value} {s : State} (hts : ∀ w ∈ lw_tbl, w.before args s = true) : ∃ (D : va_G) (dA : Nat → ClassId), va_K D vwCl (xtys dA) s := by
  obtain ⟨D, hD⟩ := known_all hts
  have tb : ∀ w, w ∈ ([.laysStatic "java/lang/String" "COMPACT_STRINGS" "Z", .laysStatic "jdk/internal/util/Preconditions" "SIOOBE_FORMATTER" "Ljava/util/function/BiFunction;", .initialized "java/lang/String", .initialized "jdk/internal/util/Preconditions", .arrayOver (.object RX2), .arrayOver (.object RX4), .arrayOver (.object RX6), .arrayOver (.object RX7), .arrayOver (.array .int)] : List Cond) → w.before args s = true := fun w hw => hts w (List.contains_iff_mem.mp (List.all_eq_true.mp tb_ws w hw))
  obtain ⟨c0, a0⟩ := arr_prim (ty := .int) (fun _ q => by cases q) (hts _ (GWl_in _ (GWx_at (by simp [GWx]))))
  obtain ⟨c1, a1⟩ := arr_prim (ty := .long) (fun _ q => by cases q) (hts _ (GWl_in _ (GWx_at (by simp [GWx]))))
  obtain ⟨c2, a2⟩ := arr_prim (ty := .boolean) (fun _ q => by cases q) (hts _ (GWl_in _ (GWx_at (by simp [GWx]))))
  obtain ⟨c3, a3⟩ := arr_obj (tb (.arrayOver (.object RX2)) (by simp))
  obtain ⟨c4, a4⟩ := arr_obj (tb (.arrayOver (.object RX4)) (by simp))
  obtain ⟨c5, a5⟩ := arr_obj (tb (.arrayOver (.object RX6)) (by simp))
  obtain ⟨c6, a6⟩ := arr_obj (tb (.arrayOver (.object RX7)) (by simp))
  obtain ⟨c7, a7⟩ := arr_arr (tb (.arrayOver (.array .int)) (by simp))
  refine ⟨D, fun k => match k with | 10 => c0 | 11 => c1 | 12 => c2 | 13 => c3 | 14 => c4 | 15 => c5 | 16 => c6 | _ => c7, fun c q hq => ?_, fun k q hq => ?_⟩
  · have hc : c < 10 := (List.getElem?_eq_some_iff.mp hq).1
    rw [vwCl_at hc] at hq
    cases hq
    exact hD c hc
  · unfold xtys at hq
    match k, hq with
    | 0, hq => cases hq; exact a0
    | 1, hq => cases hq; exact a1
    | 2, hq => cases hq; exact a2
    | 3, hq => cases hq; exact a3
    | 4, hq => cases hq; exact a4
    | 5, hq => cases hq; exact a5
    | 6, hq => cases hq; exact a6
    | 7, hq => cases hq; exact a7
    | n + 8, hq => simp at hq
theorem E_all {args : Array Value} {s : State} {b L : Nat} {xs : Nat → Int32} (hts : ∀ w ∈ lw_tbl, w.before args s = true) (hX : va_X b L xs s s.heap) (hb : b < s.heap.size) (hgv : (Jvm.Cond.and given_1 narrow_1).before args s = true) : ∃ (ba : Nat → Nat) (fv : Value), XEnv s.heap.size ba fv (L, xs) s ∧ fv.category = 1 ∧ (∀ k, k < xTop → ba k = s.heap.size + k) ∧ ba xScr = b := by
  have hA : ∀ a : Nat, a < s.heap.size → ¬ xA s.heap.size a := fun a h => Nat.not_le.mpr h
  have tb : ∀ w, w ∈ ([.laysStatic "java/lang/String" "COMPACT_STRINGS" "Z", .laysStatic "jdk/internal/util/Preconditions" "SIOOBE_FORMATTER" "Ljava/util/function/BiFunction;", .initialized "java/lang/String", .initialized "jdk/internal/util/Preconditions", .arrayOver (.object RX2), .arrayOver (.object RX4), .arrayOver (.object RX6), .arrayOver (.object RX7), .arrayOver (.array .int)] : List Cond) → w.before args s = true := fun w hw => hts w (List.contains_iff_mem.mp (List.all_eq_true.mp tb_ws w hw))
  have fl : ∀ i, i < 5 → _ := fun i hi => List.all_eq_true.mp fl_ex i (List.mem_range.mpr hi)
  simp only [Bool.and_eq_true] at fl
  obtain ⟨adK, adV, hvk, hev⟩ := vk_Sof (args := args) (s := s) (N := 5) (tm := sTm) (len := xLens) (byt := xByts) (A := xA s.heap.size) (fun i hi => by
      have key : (List.range 5).all (fun i => decide (xLens.getD i 0 < 2 ^ 31)) = true := by decide +kernel
      exact of_decide_eq_true (List.all_eq_true.mp key i (List.mem_range.mpr hi)))
    (fun i hi => ev_before hgv (fl i hi).1) (fun i hi => ev_before hgv (fl i hi).2.1) (fun i hi => ev_before hgv (fl i hi).2.2.1) (fun i hi => ev_before hgv (fl i hi).2.2.2.1)
    (fun i hi j hj => ev_before hgv (List.all_eq_true.mp (fl i hi).2.2.2.2.1 j (List.mem_range.mpr hj)))
    (fun i j hi hj hne => by
      have h1 := List.all_eq_true.mp (fl i hi).2.2.2.2.2 j (List.mem_range.mpr hj)
      simp only [Bool.or_eq_true, beq_iff_eq] at h1
      rcases h1 with h1 | h1 | h1
      · exact absurd h1 hne
      · exact Or.inl (ev_before hgv h1)
      · exact Or.inr (ev_before hgv h1)) hA
  have bK : ∀ i, i < 5 → xba s.heap.size adK adV b (xStr + i) = adK i := fun i hi => by
    unfold xba
    rw [if_neg (by unfold xTop xStr; omega), if_pos (by unfold xStr xByt; omega), Nat.add_sub_cancel_left]
  have bV : ∀ i, i < 5 → xba s.heap.size adK adV b (xByt + i) = adV i := fun i hi => by
    unfold xba
    rw [if_neg (by unfold xTop xByt; omega), if_neg (by unfold xByt; omega), if_pos (by unfold xByt xScr; omega), Nat.add_sub_cancel_left]
  have bS : xba s.heap.size adK adV b xScr = b := by
    unfold xba
    rw [if_neg (by unfold xTop xScr; omega), if_neg (by unfold xByt xScr; omega), if_neg (by omega)]
  have st := fl_st
  simp only [Bool.and_eq_true] at st
  have hz1 : va_Z "java/lang/String" "COMPACT_STRINGS" "Z" (.int 1) (xA s.heap.size) s s.heap := va_Zof (tb _ (by simp)) (tb _ (by simp)) (va_eqi (ev_before hgv st.1)) hA
  have hz2 := va_Zqof (args := args) (C := "jdk/internal/util/Preconditions") (n := "SIOOBE_FORMATTER") (d := "Ljava/util/function/BiFunction;") (tb _ (by simp)) (tb _ (by simp)) (ev_before hgv st.2) hA
  obtain ⟨fv, hfv, hz3⟩ : ∃ fv : Value, fv.category = 1 ∧ va_Z "jdk/internal/util/Preconditions" "SIOOBE_FORMATTER" "Ljava/util/function/BiFunction;" fv (xA s.heap.size) s s.heap := by
    rcases hz2 with h | ⟨t, h⟩
    · exact ⟨.null, rfl, h⟩
    · exact ⟨.ref t, rfl, h⟩
  refine ⟨xba s.heap.size adK adV b, fv, ⟨fun own e he h4 => ?_, ⟨va_AO.of (tb (.arrayOver (.object RX2)) (by simp)), va_AO.of (tb (.arrayOver (.object RX4)) (by simp)), va_AO.of (tb (.arrayOver (.object RX6)) (by simp)), va_AO.of (tb (.arrayOver (.object RX7)) (by simp))⟩, over_moved (Vm.Alike.refl s.vm) (tb (.arrayOver (.array .int)) (by simp)), ?_, fun own e he h9 => ?_, hz1, hz3, by rw [bS]; exact hX, by rw [bS]; exact hb, Nat.le_refl _⟩, hfv, fun k hk => if_pos hk, bS⟩
  · have h := hts _ (RT_in own e he)
    rw [wOf4 own e h4] at h ⊢
    exact va_Nw.of rfl h
  · refine ⟨fun i hi => ?_, fun i j hi hj e => ?_⟩
    · have t := hvk.1 i hi
      rw [← bK i hi, ← bV i hi] at t
      exact t
    · have e2 : xba s.heap.size adK adV b (xStr + i) = xba s.heap.size adK adV b (xStr + j) := e
      rw [bK i hi, bK j hj] at e2
      exact hvk.2 i j hi hj e2
  · obtain ⟨h1, h2, h3⟩ := s9 he h9
    rw [bK _ h2]
    have h := hts _ (RT_in own e he)
    have ew : wOf own e = .stringRef (RN own) e.1 (SV.getD e.2.2.1 "") := by
      unfold wOf
      rw [h9]
      rfl
    rw [ew] at h
    have h5 := hev _ h2
    subst h1
    refine vk_R.of h ?_
    rw [h3]
    exact h5
def h00 : XH := ([], fun _ _ => 0, fun _ _ => 0, fun _ _ => none)
/-- what is left to show: the law's run on the interpreter, for every script -/
def PURE : Prop := ∀ (L : Nat) (xs : Nat → Int32), L ≤ 448 → ∃ (n : Nat) (h' : XH), ev (L, xs) n 200 195 0 (xent [.ref xScr] 4) [] h00 = some (some (.int 1), h') ∧ h'.1.length ≤ 600000 ∧ xslots h' ≤ 7302250
theorem start_of (hpure : PURE) {p : Program} {e : Env} {s : State} {m : MethodId} {below : List Frame} {meth : Method} {c : Code} (l : Launch) {b L : Nat} {xs : Nat → Int32} (hL : L ≤ 448) (C0 : lw_At p s m meth c b L xs) : W p l e room_1 s m #[Value.ref b] below meth c s.heap [] 0 0 (lw_Z below #[Value.ref b] s) (entryFrame m ([Value.ref b] : List Value).toArray 4) := by
  obtain ⟨hx, hb, hr, hml, hown, hts, hX, hbl, hlocks, hgv⟩ := id C0
  obtain ⟨D, dA, hK⟩ := K_all hts
  obtain ⟨ba, fv, hE, hfv, hba, hbS⟩ := E_all hts hX hbl hgv
  obtain ⟨n, h', he, hn1, hn2⟩ := hpure L xs hL
  have hC : CX p s m #[Value.ref b] meth c s.heap.size ba fv D dA (L, xs) 195 := ⟨⟨hx, hb, hml, hown, fun w hw => hts w (GWl_in w hw)⟩, hK, hE, fun h => absurd h (by decide +kernel), hba, hfv⟩
  have K := sim (L, xs) n 200 195 0 (xent [.ref xScr] 4) [] h00 h' (some (.int 1)) he p l e room_1 s m #[Value.ref b] below meth c (lw_Z below #[Value.ref b] s) s.heap.size ba fv D dA 0 0 hC (Nat.le_of_ble_eq_true rfl) (Nat.le_of_ble_eq_true rfl) hn1 hn2 (by
    intro pcr ins lsr str hxr hdr H locs lsC g1 g2 g3 g4 g5 g6 g7 g8
    unfold xrt at hxr
    split at hxr
    · next v ty hmr =>
      split at hxr
      · cases hxr
        refine va_forget (fun q hq => g4.2.2 q hq) ?_
        refine W.widen hn1 hn2 ?_
        exact lw_ret hx hb hr hlocks hdr
      · cases hxr
    · cases hxr
    · cases hxr
    · cases hxr)
  rw [lg_entry_eq]
  have hl := lv_entry ([Value.ref b]) (n := 4) (Nat.le_of_ble_eq_true rfl)
  have t := K s.heap [] _ rfl (Nat.zero_le _) (fun k q hk => by simp [wl, h00] at hk) va_S.rf (lv_mono hl (fun q hq => by
    have h1 := la_en hfv (4 - (xen [.ref xScr]).length) [.ref xScr] 0 q hq
    rw [List.map_cons, List.map_nil] at h1
    have e1 : tv ba fv (.ref xScr) = .ref b := by
      show Value.ref (ba xScr) = _
      rw [hbS]
    rw [e1] at h1
    exact h1)) rfl (Nat.zero_le _) (Nat.zero_le _)
  exact t
