/-! THE INTERPRETER'S HEAP AS A WORLD OF THE MACHINE'S -/
def xA (b0 : Nat) : Nat → Prop := fun q => b0 ≤ q
def tv (ba : Nat → Nat) (fv : Value) : Value → Value
  | .ref a => .ref (ba a)
  | .retAddr n => if n = 0 then fv else .retAddr n
  | v => v
def la (ba : Nat → Nat) (fv : Value) : Nat → List Value → List (Nat × Value)
  | _, [] => []
  | i, v :: r => if v = xdm then la ba fv (i + 1) r else (i, tv ba fv v) :: la ba fv (i + 1) r
def xtys (dA : Nat → ClassId) : List (ClassId × FieldType) := [(dA 10, .int), (dA 11, .long), (dA 12, .boolean), (dA 13, .object RX2), (dA 14, .object RX4), (dA 15, .object RX6), (dA 16, .object RX7), (dA 17, .array .int)]
def xcon (ba : Nat → Nat) (k : Nat) (h : XH) (a : Nat) : (Nat → Int32) ⊕ (Nat → Int64) ⊕ (Nat → UInt32) ⊕ (Nat → UInt64) ⊕ (Nat → Option Nat) :=
  if k = 11 then .inr (.inl (h.2.2.1 a)) else if 13 ≤ k then .inr (.inr (.inr (.inr (fun i => (h.2.2.2 a i).map ba)))) else .inl (h.2.1 a)
def xfs (ba : Nat → Nat) (fv : Value) (c : Nat) (h : XH) (a : Nat) : List Value := (List.range (NC c)).map (fun k => tv ba fv (xfv c k h a))
def xcell (ba : Nat → Nat) (fv : Value) (dA : Nat → ClassId) (h : XH) (a : Nat) : va_E :=
  if (xkd h a).1 < 10 then .inr ((xkd h a).1, xfs ba fv (xkd h a).1 h a) else .inl (dA (xkd h a).1, (xkd h a).2, xcon ba (xkd h a).1 h a)
def wl (ba : Nat → Nat) (fv : Value) (dA : Nat → ClassId) (h : XH) : va_W := (List.range h.1.length).map (fun a => (ba a, xcell ba fv dA h a))
def xslots (h : XH) : Nat := (h.1.map (fun q => q.2)).sum
theorem vwCl_at {c : Nat} (h : c < 10) : vwCl[c]? = some (RN c, TC c, NC c) := by
  match c, h with
  | 0, _ => rfl
  | 1, _ => rfl
  | 2, _ => rfl
  | 3, _ => rfl
  | 4, _ => rfl
  | 5, _ => rfl
  | 6, _ => rfl
  | 7, _ => rfl
  | 8, _ => rfl
  | 9, _ => rfl
  | n + 10, h => exact absurd h (by omega)
theorem tyC_ok {c : Nat} (h : c < 10) : ∀ k, k < NC c → parseFieldDescriptor (TC c k).2.2.1 = some (tyC c k) := by
  match c, h with
  | 0, _ => exact tyX0_ok
  | 1, _ => exact tyX1_ok
  | 2, _ => exact tyX2_ok
  | 3, _ => exact tyX3_ok
  | 4, _ => exact tyX4_ok
  | 5, _ => exact tyX5_ok
  | 6, _ => exact tyX6_ok
  | 7, _ => exact tyX7_ok
  | 8, _ => exact tyX8_ok
  | 9, _ => exact tyX9_ok
  | n + 10, h => exact absurd h (by omega)
theorem nmC_ok {c : Nat} (h : c < 10) : ∀ a, a < NC c → ∀ b, b < NC c → a ≠ b → (TC c a).2.1 ≠ (TC c b).2.1 := by
  match c, h with
  | 0, _ => exact nmX0
  | 1, _ => exact nmX1
  | 2, _ => exact nmX2
  | 3, _ => exact nmX3
  | 4, _ => exact nmX4
  | 5, _ => exact nmX5
  | 6, _ => exact nmX6
  | 7, _ => exact nmX7
  | 8, _ => exact nmX8
  | 9, _ => exact nmX9
  | n + 10, h => exact absurd h (by omega)
theorem own_decl {c k : Nat} (h : c < 10) (hk : k < NC c) : (TC c k).1 = RN c := by
  have key : (List.range 10).all (fun c => (List.range (NC c)).all (fun k => decide ((TC c k).1 = RN c))) = true := by decide +kernel
  have h1 := List.all_eq_true.mp key c (List.mem_range.mpr h)
  exact of_decide_eq_true (List.all_eq_true.mp h1 k (List.mem_range.mpr hk))
theorem lays_in {c : Nat} (h : c < 10) : ∀ w ∈ u_ws (RN c) (TC c) (NC c), w ∈ GWl := by
  intro w hw
  have h1 : w ∈ GWf := List.mem_flatMap.mpr ⟨c, List.mem_range.mpr h, hw⟩
  unfold GWl
  simp only [List.mem_append]
  exact Or.inr (Or.inr (Or.inr (Or.inr (Or.inr (Or.inr (Or.inr (Or.inl h1)))))))
/-! entries of the pools, and their words -/
theorem rs_mem {own idx t a b : Nat} (h : rs own idx = (t, a, b)) (ht : t ≠ 99) : (idx, t, a, b) ∈ RT own := by
  unfold rs at h
  split at h
  · next e he =>
    have h1 := List.mem_of_find?_eq_some he
    have h2 := List.find?_some he
    simp only [beq_iff_eq] at h2
    obtain ⟨e1, e2⟩ := e
    simp only at h h2
    subst h2
    rw [h] at h1
    exact h1
  · simp only [Prod.mk.injEq] at h
    exact absurd h.1.symm ht
theorem rs_good {own idx t a b : Nat} (h : rs own idx = (t, a, b)) (ht : t ≠ 99) (hg : ¬ t = 4) (hg9 : ¬ t = 9) : wOf own (idx, t, a, b) ∈ GWl := by
  have h1 := rs_mem h ht
  have h2 : (idx, t, a, b) ∈ (RT own).filter gw1 := List.mem_filter.mpr ⟨h1, by simp [gw1, hg, hg9]⟩
  have h3 : wOf own (idx, t, a, b) ∈ GWr := by
    have h4 : wOf own (idx, t, a, b) ∈ ((RT own).filter gw1).map (wOf own) := List.mem_map_of_mem h2
    unfold RT at h4
    unfold GWr
    simp only [List.mem_append]
    split at h4
    all_goals first | (simp only [h4, true_or, or_true]; done) | (exact absurd h4 (by simp))
  unfold GWl
  simp only [List.mem_append]
  exact Or.inl h3
/-! reading and writing the world -/
section XW
variable {b0 : Nat} {ba : Nat → Nat} {fv : Value} {D : va_G} {dA : Nat → ClassId} {h h' : XH} {a : Nat}
theorem xkd_lt (hk : (xkd h a).1 < 99) : a < h.1.length := by
  rcases Nat.lt_or_ge a h.1.length with h1 | h1
  · exact h1
  · unfold xkd at hk
    rw [List.getElem?_eq_none h1] at hk
    exact absurd hk (by decide)
theorem wl_len : (wl ba fv dA h).length = h.1.length := by simp [wl]
theorem wl_at (ha : a < h.1.length) : (wl ba fv dA h)[a]? = some (ba a, xcell ba fv dA h a) := by
  simp [wl, ha]
theorem xcell_obj {ci : Nat} (hk : (xkd h a).1 = ci) (hc : ci < 10) : xcell ba fv dA h a = .inr (ci, xfs ba fv ci h a) := by
  unfold xcell
  rw [if_pos (by omega), hk]
theorem xcell_arr (hk : ¬ (xkd h a).1 < 10) : xcell ba fv dA h a = .inl (dA (xkd h a).1, (xkd h a).2, xcon ba (xkd h a).1 h a) := if_neg hk
theorem wl_obj {ci : Nat} (hk : (xkd h a).1 = ci) (hc : ci < 10) : (wl ba fv dA h)[a]? = some (ba a, .inr (ci, xfs ba fv ci h a)) := by
  rw [wl_at (xkd_lt (by omega)), xcell_obj hk hc]
theorem wl_arr {k : Nat} (hk : (xkd h a).1 = k) (h1 : 10 ≤ k) (h2 : k < 99) : (wl ba fv dA h)[a]? = some (ba a, .inl (dA k, (xkd h a).2, xcon ba k h a)) := by
  subst hk
  rw [wl_at (xkd_lt (by omega)), xcell_arr (by omega)]
theorem wl_set (hs : h'.1 = h.1) (ho : ∀ b, b ≠ a → h'.2.1 b = h.2.1 b ∧ h'.2.2.1 b = h.2.2.1 b ∧ h'.2.2.2 b = h.2.2.2 b) : (wl ba fv dA h).set a (ba a, xcell ba fv dA h' a) = wl ba fv dA h' := by
  apply List.ext_getElem?
  intro i
  rw [List.getElem?_set]
  by_cases hi : a = i
  · subst hi
    rw [if_pos rfl, wl_len]
    by_cases hl : a < h.1.length
    · rw [if_pos hl, wl_at (by rw [hs]; exact hl)]
    · rw [if_neg hl, List.getElem?_eq_none (by rw [wl_len, hs]; omega)]
  · rw [if_neg hi]
    by_cases hl : i < h.1.length
    · rw [wl_at hl, wl_at (by rw [hs]; exact hl)]
      obtain ⟨e1, e2, e3⟩ := ho i (Ne.symm hi)
      have ek : xkd h' i = xkd h i := by unfold xkd; rw [hs]
      unfold xcell xfs xcon xfv
      rw [ek, e1, e2, e3]
    · rw [List.getElem?_eq_none (by rw [wl_len]; omega), List.getElem?_eq_none (by rw [wl_len, hs]; omega)]
theorem wl_D (hba : ∀ k, k < xTop → ba k = b0 + k) (hl : h.1.length ≤ xTop) : va_D (xA b0) (wl ba fv dA h) := by
  have key : ∀ (k : Nat) (q : Nat × va_E), (wl ba fv dA h)[k]? = some q → q.1 = b0 + k := by
    intro k q hq
    have hk : k < h.1.length := by
      have := (List.getElem?_eq_some_iff.mp hq).1
      rwa [wl_len] at this
    rw [wl_at hk] at hq
    cases hq
    exact hba k (by omega)
  refine ⟨fun i j p q hi hj e => ?_, fun k q hq => ?_⟩
  · have := key i p hi
    have := key j q hj
    omega
  · have := key k q hq
    show b0 ≤ q.1
    omega
theorem tv_cat (hfv : fv.category = 1) (v : Value) : (tv ba fv v).category = v.category := by
  cases v with
  | retAddr n =>
    show (if n = 0 then fv else Value.retAddr n).category = _
    by_cases hn : n = 0
    · rw [if_pos hn]
      exact hfv
    · rw [if_neg hn]
  | _ => rfl
theorem tv_rf (o : Option Nat) : tv ba fv (va_rf o) = va_rf (o.map ba) := by
  cases o <;> rfl
theorem xfs_at {c k : Nat} (hk : k < NC c) : (xfs ba fv c h a)[k]? = some (tv ba fv (xfv c k h a)) := by
  simp [xfs, hk]
theorem xfs_len {c : Nat} : (xfs ba fv c h a).length = NC c := by simp [xfs]
theorem xfs_set {c k : Nat} {v : Value} (hk : k < NC c) (hv : tv ba fv (xfv c k h' a) = v) (ho : ∀ j, j ≠ k → xfv c j h' a = xfv c j h a) : (xfs ba fv c h a).set k v = xfs ba fv c h' a := by
  apply List.ext_getElem?
  intro i
  rw [List.getElem?_set]
  by_cases hi : k = i
  · subst hi
    rw [if_pos rfl, xfs_len, if_pos hk, xfs_at hk, hv]
  · rw [if_neg hi]
    by_cases hl : i < NC c
    · rw [xfs_at hl, xfs_at hl, ho i (Ne.symm hi)]
    · rw [List.getElem?_eq_none (by rw [xfs_len]; omega), List.getElem?_eq_none (by rw [xfs_len]; omega)]
end XW
/-! locals -/
section XL
variable {ba : Nat → Nat} {fv : Value}
theorem la_mem : ∀ (ls : List Value) (i : Nat) (q : Nat × Value), q ∈ la ba fv i ls ↔ ∃ (k : Nat) (v : Value), ls[k]? = some v ∧ v ≠ xdm ∧ q = (i + k, tv ba fv v)
  | [], i, q => by simp [la]
  | v :: r, i, q => by
    unfold la
    have ih := la_mem r (i + 1) q
    constructor
    · intro h
      split at h
      · obtain ⟨k, w, h1, h2, h3⟩ := ih.mp h
        exact ⟨k + 1, w, by simpa using h1, h2, by rw [h3]; congr 1; omega⟩
      · next hv =>
        rcases List.mem_cons.mp h with h | h
        · exact ⟨0, v, rfl, hv, by rw [h]; rfl⟩
        · obtain ⟨k, w, h1, h2, h3⟩ := ih.mp h
          exact ⟨k + 1, w, by simpa using h1, h2, by rw [h3]; congr 1; omega⟩
    · intro ⟨k, w, h1, h2, h3⟩
      cases k with
      | zero =>
        have hw : v = w := by simpa using h1
        subst hw
        rw [if_neg h2, h3]
        exact List.mem_cons_self
      | succ k =>
        have h4 : q ∈ la ba fv (i + 1) r := ih.mpr ⟨k, w, by simpa using h1, h2, by rw [h3]; congr 1; omega⟩
        split
        · exact h4
        · exact List.mem_cons_of_mem _ h4
theorem lv_mono {ls : Array Slot} {n : Nat} {l l' : List (Nat × Value)} (h : lv_has ls n l) (hs : ∀ q ∈ l', q ∈ l) : lv_has ls n l' := ⟨h.1, h.2.1, fun q hq => h.2.2 q (hs q hq)⟩
theorem lv_look {lsC : Array Slot} {n : Nat} {ls : List Value} (h : lv_has lsC n (la ba fv 0 ls)) {i : Nat} {v : Value} (hi : ls[i]? = some v) (hv : v ≠ xdm) : lsC[i]? = some (.val (tv ba fv v)) := by
  have := h.2.2 (0 + i, tv ba fv v) ((la_mem ls 0 _).mpr ⟨i, v, hi, hv, rfl⟩)
  simpa using this
theorem xs1_len : ∀ (ls : List Value) (i : Nat) (v : Value), (xs1 ls i v).length = ls.length
  | [], _, _ => rfl
  | _ :: _, 0, _ => rfl
  | a :: r, n + 1, v => by
    show (xs1 r n v).length + 1 = r.length + 1
    rw [xs1_len r n v]
theorem xs2_len : ∀ (ls : List Value) (i : Nat) (v : Value), (xs2 ls i v).length = ls.length
  | [], _, _ => rfl
  | [_], 0, _ => rfl
  | _ :: _ :: _, 0, _ => rfl
  | [a], n + 1, v => by
    show (xs2 [] n v).length + 1 = 1
    rw [xs2_len [] n v]
    rfl
  | a :: b :: r, n + 1, v => by
    show (xs2 (b :: r) n v).length + 1 = (b :: r).length + 1
    rw [xs2_len (b :: r) n v]
theorem xkl_ne {v : Value} (h : xkl v ≠ xdm) : v.category ≠ 2 ∧ xkl v = v := by
  unfold xkl at h ⊢
  by_cases hc : v.category = 2
  · rw [if_pos hc] at h
    exact absurd rfl h
  · exact ⟨hc, if_neg hc⟩
theorem xs1_at : ∀ (ls : List Value) (i : Nat) (v : Value) (k : Nat) (w : Value), (xs1 ls i v)[k]? = some w → w ≠ xdm → (k = i ∧ w = v) ∨ (k ≠ i ∧ ls[k]? = some w ∧ ¬ (k + 1 = i ∧ w.category = 2))
  | [], _, _, k, w, h, _ => by simp [xs1] at h
  | _ :: r, 0, v, k, w, h, _ => by
    cases k with
    | zero => exact Or.inl ⟨rfl, by simpa [xs1] using h.symm⟩
    | succ k => exact Or.inr ⟨by omega, by simpa [xs1] using h, by omega⟩
  | a :: r, n + 1, v, k, w, h, hw => by
    cases k with
    | zero =>
      right
      have h1 : (if n = 0 then xkl a else a) = w := by simpa [xs1] using h
      by_cases hn : n = 0
      · rw [if_pos hn] at h1
        obtain ⟨c1, c2⟩ := xkl_ne (v := a) (by rw [h1]; exact hw)
        have : a = w := c2.symm.trans h1
        subst this
        exact ⟨by omega, rfl, fun q => c1 q.2⟩
      · rw [if_neg hn] at h1
        exact ⟨by omega, by simpa using h1, by omega⟩
    | succ k =>
      have h1 : (xs1 r n v)[k]? = some w := by simpa [xs1] using h
      rcases xs1_at r n v k w h1 hw with ⟨e1, e2⟩ | ⟨e1, e2, e3⟩
      · exact Or.inl ⟨by omega, e2⟩
      · exact Or.inr ⟨by omega, by simpa using e2, by omega⟩
theorem xs2_at : ∀ (ls : List Value) (i : Nat) (v : Value) (k : Nat) (w : Value), i + 1 < ls.length → (xs2 ls i v)[k]? = some w → w ≠ xdm → (k = i ∧ w = v) ∨ (k ≠ i ∧ k ≠ i + 1 ∧ ls[k]? = some w ∧ ¬ (k + 1 = i ∧ w.category = 2))
  | [], i, _, k, w, hl, h, _ => by simp [xs2] at h
  | [_], 0, v, k, w, hl, h, _ => by simp at hl
  | _ :: _ :: r, 0, v, k, w, hl, h, hw => by
    match k, h with
    | 0, h => exact Or.inl ⟨rfl, by simpa [xs2] using h.symm⟩
    | 1, h => exact absurd (by simpa [xs2] using h.symm) hw
    | k + 2, h => exact Or.inr ⟨by omega, by omega, by simpa [xs2] using h, by omega⟩
  | a :: r, n + 1, v, k, w, hl, h, hw => by
    have hx : xs2 (a :: r) (n + 1) v = (if n = 0 then xkl a else a) :: xs2 r n v := by
      cases r <;> rfl
    rw [hx] at h
    cases k with
    | zero =>
      right
      have h1 : (if n = 0 then xkl a else a) = w := by simpa using h
      by_cases hn : n = 0
      · rw [if_pos hn] at h1
        obtain ⟨c1, c2⟩ := xkl_ne (v := a) (by rw [h1]; exact hw)
        have : a = w := c2.symm.trans h1
        subst this
        exact ⟨by omega, by omega, rfl, fun q => c1 q.2⟩
      · rw [if_neg hn] at h1
        exact ⟨by omega, by omega, by simpa using h1, by omega⟩
    | succ k =>
      have h1 : (xs2 r n v)[k]? = some w := by simpa using h
      rcases xs2_at r n v k w (by simp at hl; omega) h1 hw with ⟨e1, e2⟩ | ⟨e1, e2, e3, e4⟩
      · exact Or.inl ⟨by omega, e2⟩
      · exact Or.inr ⟨by omega, by omega, by simpa using e3, by omega⟩
theorem la_s1 (hfv : fv.category = 1) {ls : List Value} {i : Nat} {v : Value} {lsC : Array Slot} {n : Nat} (h : lv_has lsC n ((i, tv ba fv v) :: (la ba fv 0 ls).filter (fun q => !(q.1 == i) && !(q.1 + 1 == i && q.2.category == 2)))) : lv_has lsC n (la ba fv 0 (xs1 ls i v)) := by
  refine lv_mono h fun q hq => ?_
  obtain ⟨k, w, h1, h2, h3⟩ := (la_mem _ 0 q).mp hq
  rcases xs1_at ls i v k w h1 h2 with ⟨e1, e2⟩ | ⟨e1, e2, e3⟩
  · subst e1; subst e2
    rw [h3, Nat.zero_add]
    exact List.mem_cons_self
  · refine List.mem_cons_of_mem _ (List.mem_filter.mpr ⟨(la_mem ls 0 q).mpr ⟨k, w, e2, h2, h3⟩, ?_⟩)
    rw [h3]
    simp only [Nat.zero_add, tv_cat hfv, Bool.and_eq_true, Bool.not_eq_true', beq_eq_false_iff_ne, ne_eq, Bool.and_eq_false_imp, beq_iff_eq]
    exact ⟨e1, fun q1 q2 => e3 ⟨q1, q2⟩⟩
theorem la_s2 (hfv : fv.category = 1) {ls : List Value} {i : Nat} {v : Value} {lsC : Array Slot} {n : Nat} (hl : i + 1 < ls.length) (h : lv_has lsC n ((i, tv ba fv v) :: (la ba fv 0 ls).filter (fun q => !(q.1 == i) && (!(q.1 == i + 1) && !(q.1 + 1 == i && q.2.category == 2))))) : lv_has lsC n (la ba fv 0 (xs2 ls i v)) := by
  refine lv_mono h fun q hq => ?_
  obtain ⟨k, w, h1, h2, h3⟩ := (la_mem _ 0 q).mp hq
  rcases xs2_at ls i v k w hl h1 h2 with ⟨e1, e2⟩ | ⟨e1, e0, e2, e3⟩
  · subst e1; subst e2
    rw [h3, Nat.zero_add]
    exact List.mem_cons_self
  · refine List.mem_cons_of_mem _ (List.mem_filter.mpr ⟨(la_mem ls 0 q).mpr ⟨k, w, e2, h2, h3⟩, ?_⟩)
    rw [h3]
    simp only [Nat.zero_add, tv_cat hfv, Bool.and_eq_true, Bool.not_eq_true', beq_eq_false_iff_ne, ne_eq, Bool.and_eq_false_imp, beq_iff_eq]
    exact ⟨e1, e0, fun q1 q2 => e3 ⟨q1, q2⟩⟩
end XL
/-! what stays as it was: the nest mates' words, the constants, the script -/
def XEnv (b0 : Nat) (ba : Nat → Nat) (fv : Value) (E : XE) (U : State) : Prop :=
  (∀ own : Nat, ∀ e ∈ RT own, e.2.1 = 4 → va_Nw (wOf own e) U) ∧ (va_AO RX2 U ∧ va_AO RX4 U ∧ va_AO RX6 U ∧ va_AO RX7 U) ∧ (Cond.arrayOver (.array .int)).before #[] U = true ∧
  vk_S 5 xLens xByts (fun i => ba (xStr + i)) (fun i => ba (xByt + i)) (xA b0) U U.heap ∧ (∀ own : Nat, ∀ e ∈ RT own, e.2.1 = 9 → vk_R (RN own) e.1 (SV.getD e.2.2.1 "") (ba (xStr + e.2.2.1)) U) ∧
  va_Z "java/lang/String" "COMPACT_STRINGS" "Z" (.int 1) (xA b0) U U.heap ∧ va_Z "jdk/internal/util/Preconditions" "SIOOBE_FORMATTER" "Ljava/util/function/BiFunction;" fv (xA b0) U U.heap ∧
  va_X (ba xScr) E.1 E.2 U U.heap ∧ ba xScr < b0 ∧ b0 ≤ U.heap.size
theorem wOf4 (own : Nat) (e : Nat × Nat × Nat × Nat) (h : e.2.1 = 4) : wOf own e = .methodLinkNest (RN own) e.1 (mN e.2.2.1) RX8 := by
  unfold wOf
  rw [h]
  rfl
theorem XEnv.warm {b0 : Nat} {ba : Nat → Nat} {fv : Value} {E : XE} {s U : State} (hW : s.WarmedH U.vm) (hk : ∀ q, q < s.heap.size → ¬ xA b0 q → U.heap[q]? = s.heap[q]?) (hz : s.heap.size ≤ U.heap.size) (h : XEnv b0 ba fv E s) : XEnv b0 ba fv E U := by
  obtain ⟨h1, ⟨h2, h3, h4, h5⟩, h6, h7, h8, h9, h10, h11, h12, h13⟩ := h
  refine ⟨fun own e he ht => ?_, ⟨h2.moved hW.alike, h3.moved hW.alike, h4.moved hW.alike, h5.moved hW.alike⟩, over_moved hW.alike h6, (h7.moved hW.alike).kept hk, fun own e he ht => (h8 own e he ht).warm hW, (h9.moved hW.alike).kept hk, (h10.moved hW.alike).kept hk, (h11.moved hW.alike).kept (hk _ (by omega) (Nat.not_le.mpr h12)), h12, by omega⟩
  have h := h1 own e he ht
  rw [wOf4 own e ht] at h ⊢
  exact h.warmM hW
theorem XEnv.same {b0 : Nat} {ba : Nat → Nat} {fv : Value} {E : XE} {s U : State} (hv : s.vm = U.vm) (hh : U.heap = s.heap) (h : XEnv b0 ba fv E s) : XEnv b0 ba fv E U := by
  obtain ⟨h1, ⟨h2, h3, h4, h5⟩, h6, h7, h8, h9, h10, h11, h12, h13⟩ := h
  have hal : s.vm.Alike U.vm := by rw [← hv]; exact Vm.Alike.refl s.vm
  have hk : ∀ q, q < s.heap.size → ¬ xA b0 q → U.heap[q]? = s.heap[q]? := fun q _ _ => by rw [hh]
  refine ⟨fun own e he ht => ?_, ⟨h2.moved hal, h3.moved hal, h4.moved hal, h5.moved hal⟩, over_moved hal h6, (h7.moved hal).kept hk, fun own e he ht => (h8 own e he ht).same hv.symm, (h9.moved hal).kept hk, (h10.moved hal).kept hk, (h11.moved hal).kept (by rw [hh]), h12, by rw [hh]; exact h13⟩
  have h := h1 own e he ht
  rw [wOf4 own e ht] at h ⊢
  exact va_Nw.same rfl hv h
