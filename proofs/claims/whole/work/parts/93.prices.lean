/-! PRICES, WITHOUT A MACHINE -/
abbrev Pst : Type := (Nat → Nat) × (Nat → Nat)
def raiseF (G : Gv) (k : Nat) (s : Pst) : Pst := if s.1 (nX G k) * (cA G k * s.2 (nY G k)) < cB G k * s.1 (nY G k) * s.2 (nX G k) then (upR s.1 (nX G k) (cB G k * s.1 (nY G k)), upR s.2 (nX G k) (cA G k * s.2 (nY G k))) else s
def roundF (G : Gv) (s : Pst) : Pst := forF (raiseF G) (gc G) 0 s
def roundsF (G : Gv) : Nat → Pst → Pst
  | 0, s => s
  | r + 1, s => roundsF G r (roundF G s)
def priceS (h : Nat) : Pst := (upR (fun _ => 0) h 1, fun _ => 1)
/-- the things that a walk comes by -/
def vs (G : Gv) : Nat → List Nat → List Nat
  | x, [] => [x]
  | x, k :: l => x :: vs G (nY G k) l
/-- no thing of a walk has a lower price than the walk's rest -/
def Dm (G : Gv) (s : Pst) : Nat → List Nat → Prop
  | x, [] => s.2 x ≤ s.1 x
  | x, k :: l => LB G (k :: l) * s.2 x ≤ s.1 x * LA G (k :: l) ∧ Dm G s (nY G k) l
/-- each price is that of a walk that comes by no thing twice -/
def PI (G : Gv) (h : Nat) (s : Pst) : Prop := ∀ x, 0 < s.2 x ∧ ((s.1 x = 0 ∧ s.2 x = 1) ∨ ∃ l, Wk G x l h ∧ (vs G x l).Nodup ∧ s.1 x = LB G l ∧ s.2 x = LA G l ∧ Dm G s x l)
def Le (s s' : Pst) : Prop := ∀ x, s.1 x * s'.2 x ≤ s'.1 x * s.2 x
theorem Le_rfl {s : Pst} : Le s s := fun _ => Nat.le_refl _
theorem Le_trans {s s' s2 : Pst} (hq : ∀ x, 0 < s'.2 x) (h : Le s s') (h2 : Le s' s2) : Le s s2 := fun x => by
  have h3 := h x
  have h4 := h2 x
  refine xm_le (Q := s'.2 x) (P := s'.1 x) h3 h4 (hq x)
theorem Dm_mono {G : Gv} {s s' : Pst} (hq : ∀ x, 0 < s.2 x) (h : Le s s') : ∀ (l : List Nat) (x : Nat), Dm G s x l → Dm G s' x l
  | [], x, hd => by
    have h1 : s.2 x ≤ s.1 x := hd
    have h2 := xm_le (c := 1) (e := 1) (by rw [Nat.one_mul, Nat.mul_one]; exact h1) (h x) (hq x)
    rw [Nat.one_mul, Nat.mul_one] at h2
    exact h2
  | k :: l, x, ⟨h1, h2⟩ => ⟨xm_le h1 (h x) (hq x), Dm_mono hq h l _ h2⟩
theorem vs_bd {G : Gv} {h : Nat} (hG : OkS G) (hh : h < 6) : ∀ (l : List Nat) (x : Nat), Wk G x l h → ∀ a, a ∈ vs G x l → a < 6
  | [], x, hw, a, ha => by
    have e : x = h := hw
    cases ha with
    | head => omega
    | tail _ q => cases q
  | k :: l, x, ⟨h1, h2, h3⟩, a, ha => by
    have g2 := hG.2.1.2
    have hx := (c_xy hG h1).1.2
    cases ha with
    | head => omega
    | tail _ q => exact vs_bd hG hh l _ h3 a q
theorem vs_len {G : Gv} : ∀ (l : List Nat) (x : Nat), (vs G x l).length = l.length + 1
  | [], _ => rfl
  | k :: l, x => by
    show (vs G (nY G k) l).length + 1 = l.length + 1 + 1
    rw [vs_len l]
theorem sp_len {G : Gv} {h x : Nat} {l : List Nat} (hG : OkS G) (hh : h < 6) (hw : Wk G x l h) (hn : (vs G x l).Nodup) : l.length ≤ 5 := by
  have := len_bd 6 _ hn (vs_bd hG hh l x hw)
  rw [vs_len] at this
  omega
/-- a walk that comes by x, parted there -/
theorem vs_split {G : Gv} {s : Pst} {h x : Nat} : ∀ (l : List Nat) (y : Nat), Wk G y l h → Dm G s y l → (vs G y l).Nodup → x ∈ vs G y l → ∃ l1 l2, l = l1 ++ l2 ∧ Wk G y l1 x ∧ LB G l2 * s.2 x ≤ s.1 x * LA G l2 ∧ (l1.map (nX G)).Nodup ∧ ¬ x ∈ l1.map (nX G) ∧ ∀ a, a ∈ l1.map (nX G) → a ∈ vs G y l
  | [], y, hw, hd, hn, hx => by
    have e : x = y := by
      cases hx with
      | head => rfl
      | tail _ q => cases q
    subst e
    refine ⟨[], [], rfl, rfl, ?_, List.nodup_nil, (by simp), (by simp)⟩
    show 1 * s.2 x ≤ s.1 x * 1
    rw [Nat.one_mul, Nat.mul_one]
    exact hd
  | k :: l, y, ⟨w1, w2, w3⟩, ⟨d1, d2⟩, hn, hx => by
    have hn' : ¬ y ∈ vs G (nY G k) l ∧ (vs G (nY G k) l).Nodup := List.nodup_cons.mp hn
    by_cases e : x = y
    · subst e
      exact ⟨[], k :: l, rfl, rfl, d1, List.nodup_nil, (by simp), (by simp)⟩
    · have hx' : x ∈ vs G (nY G k) l := by
        cases hx with
        | head => exact absurd rfl e
        | tail _ q => exact q
      obtain ⟨l1, l2, q1, q2, q3, q4, q5, q6⟩ := vs_split l _ w3 d2 hn'.2 hx'
      refine ⟨k :: l1, l2, by rw [q1]; rfl, ⟨w1, w2, q2⟩, q3, ?_, ?_, ?_⟩
      · rw [List.map_cons, List.nodup_cons, w2]
        exact ⟨fun z => hn'.1 (q6 y z), q4⟩
      · rw [List.map_cons, w2]
        intro z
        cases z with
        | head => exact e rfl
        | tail _ z => exact q5 z
      · intro a ha
        rw [List.map_cons, w2] at ha
        cases ha with
        | head => exact List.mem_cons_self ..
        | tail _ z => exact List.mem_cons_of_mem _ (q6 a z)
/-- a walk from a change's y that comes by its x: the change raises nothing -/
theorem no_raise {G : Gv} {s : Pst} {h k : Nat} {l : List Nat} (hng : ∀ (c : List Nat) (x : Nat), Wk G x c x → c ≠ [] → (c.map (nX G)).Nodup → LB G c ≤ LA G c) (hk : k < gc G) (hw : Wk G (nY G k) l h) (hd : Dm G s (nY G k) l) (hn : (vs G (nY G k) l).Nodup) (hx : nX G k ∈ vs G (nY G k) l) : cB G k * LB G l * s.2 (nX G k) ≤ s.1 (nX G k) * (cA G k * LA G l) := by
  obtain ⟨l1, l2, q1, q2, q3, q4, q5, q6⟩ := vs_split l _ hw hd hn hx
  have hc := hng (k :: l1) (nX G k) ⟨hk, rfl, q2⟩ (by simp) (by rw [List.map_cons, List.nodup_cons]; exact ⟨q5, q4⟩)
  subst q1
  rw [LB_app, LA_app]
  have hc' : cB G k * LB G l1 ≤ cA G k * LA G l1 := hc
  generalize nX G k = x at *
  calc cB G k * (LB G l1 * LB G l2) * s.2 x = cB G k * LB G l1 * (LB G l2 * s.2 x) := by ac_rfl
    _ ≤ cA G k * LA G l1 * (s.1 x * LA G l2) := Nat.mul_le_mul hc' q3
    _ = s.1 x * (cA G k * (LA G l1 * LA G l2)) := by ac_rfl
section
variable {G : Gv} {h : Nat}
theorem raise_le {s : Pst} {k : Nat} : Le s (raiseF G k s) := by
  unfold raiseF
  split
  · next q =>
    intro x
    show s.1 x * upR s.2 _ _ x ≤ upR s.1 _ _ x * s.2 x
    by_cases e : x = nX G k
    · rw [up_hit e, up_hit e, e]
      exact Nat.le_of_lt q
    · rw [up_miss e, up_miss e]
      exact Nat.le_refl _
  · exact Le_rfl
theorem raise_PI (hG : OkS G) (hng : ∀ (c : List Nat) (x : Nat), Wk G x c x → c ≠ [] → (c.map (nX G)).Nodup → LB G c ≤ LA G c) {s : Pst} {k : Nat} (hk : k < gc G) (hs : PI G h s) : PI G h (raiseF G k s) ∧ (s.1 (nX G k) * (cA G k * s.2 (nY G k)) < cB G k * s.1 (nY G k) * s.2 (nX G k) → ¬ nX G k = h) := by
  have hle := raise_le (G := G) (s := s) (k := k)
  by_cases q : s.1 (nX G k) * (cA G k * s.2 (nY G k)) < cB G k * s.1 (nY G k) * s.2 (nX G k)
  · have hq : ∀ x, 0 < s.2 x := fun x => (hs x).1
    obtain ⟨-, r | ⟨l, l1, l2, l3, l4, l5⟩⟩ := hs (nY G k)
    · rw [r.1, Nat.mul_zero, Nat.zero_mul] at q
      omega
    · have hx : ¬ nX G k ∈ vs G (nY G k) l := by
        intro hx
        have := no_raise hng hk l1 l5 l2 hx
        rw [← l3, ← l4] at this
        omega
      refine ⟨fun x => ?_, fun _ e => ?_⟩
      · have mono := Dm_mono (G := G) hq hle
        unfold raiseF at mono ⊢
        rw [if_pos q] at mono ⊢
        obtain ⟨⟨-, a1, -⟩, -⟩ := c_k hG hk
        by_cases e : x = nX G k
        · show 0 < upR s.2 _ _ x ∧ ((upR s.1 _ _ x = 0 ∧ upR s.2 _ _ x = 1) ∨ ∃ l, Wk G x l h ∧ (vs G x l).Nodup ∧ upR s.1 _ _ x = LB G l ∧ upR s.2 _ _ x = LA G l ∧ Dm G _ x l)
          rw [up_hit e, up_hit e]
          refine ⟨Nat.mul_pos (by omega) (hq _), Or.inr ⟨k :: l, ⟨hk, e.symm, l1⟩, ?_, ?_, ?_, ?_, mono _ _ l5⟩⟩
          · show (x :: vs G (nY G k) l).Nodup
            rw [List.nodup_cons, e]
            exact ⟨hx, l2⟩
          · rw [l3]; rfl
          · rw [l4]; rfl
          · show cB G k * LB G l * upR s.2 _ _ x ≤ upR s.1 _ _ x * (cA G k * LA G l)
            rw [up_hit e, up_hit e, l3, l4]
            exact Nat.le_refl _
        · show 0 < upR s.2 _ _ x ∧ ((upR s.1 _ _ x = 0 ∧ upR s.2 _ _ x = 1) ∨ ∃ l, Wk G x l h ∧ (vs G x l).Nodup ∧ upR s.1 _ _ x = LB G l ∧ upR s.2 _ _ x = LA G l ∧ Dm G _ x l)
          rw [up_miss e, up_miss e]
          obtain ⟨b1, b2 | ⟨m, m1, m2, m3, m4, m5⟩⟩ := hs x
          · exact ⟨b1, Or.inl b2⟩
          · exact ⟨b1, Or.inr ⟨m, m1, m2, m3, m4, mono _ _ m5⟩⟩
      · rw [e] at hx
        have last : ∀ (l : List Nat) (y : Nat), Wk G y l h → h ∈ vs G y l := by
          intro l
          induction l with
          | nil =>
            intro y hw
            have e : y = h := hw
            rw [e]
            exact List.mem_cons_self ..
          | cons j l ih =>
            intro y hw
            exact List.mem_cons_of_mem _ (ih _ hw.2.2)
        exact hx (last l _ l1)
  · unfold raiseF
    rw [if_neg q]
    exact ⟨hs, fun z => absurd z q⟩
theorem PI_bd (hG : OkS G) (hh : h < 6) {s : Pst} (hs : PI G h s) (x : Nat) : s.1 x ≤ 3200000 ∧ 1 ≤ s.2 x ∧ s.2 x ≤ 3200000 := by
  obtain ⟨b1, b2 | ⟨m, m1, m2, m3, m4, m5⟩⟩ := hs x
  · omega
  · have hl := sp_len hG hh m1 m2
    have key : ∀ (l : List Nat) (x : Nat), Wk G x l h → LB G l ≤ 20 ^ l.length ∧ LA G l ≤ 20 ^ l.length := by
      intro l
      induction l with
      | nil => intro x _; exact ⟨Nat.le_refl 1, Nat.le_refl 1⟩
      | cons j l ih =>
        intro x hw
        obtain ⟨i1, i2⟩ := ih _ hw.2.2
        obtain ⟨⟨-, a1, a2⟩, ⟨-, c1, c2⟩⟩ := c_k hG hw.1
        rw [List.length_cons, Nat.pow_succ, Nat.mul_comm]
        exact ⟨Nat.mul_le_mul c2 i1, Nat.mul_le_mul a2 i2⟩
    obtain ⟨k1, k2⟩ := key m x m1
    have hp : 20 ^ m.length ≤ 20 ^ 5 := Nat.pow_le_pow_right (by omega) hl
    rw [m3, m4]
    rw [m4] at b1
    omega
/-- prices no lower than all walks of so many changes -/
def Cv (G : Gv) (h r : Nat) (s : Pst) : Prop := ∀ x l, Wk G x l h → l.length ≤ r → LB G l * s.2 x ≤ s.1 x * LA G l
theorem Cv_mono {r : Nat} {s s' : Pst} (hq : ∀ x, 0 < s.2 x) (hle : Le s s') (hc : Cv G h r s) : Cv G h r s' := fun x l hw hl => xm_le (hc x l hw hl) (hle x) (hq x)
def CvK (G : Gv) (h r k : Nat) (s : Pst) : Prop := ∀ x j l, j < k → Wk G x (j :: l) h → l.length ≤ r → LB G (j :: l) * s.2 x ≤ s.1 x * LA G (j :: l)
theorem raise_Cv {r k : Nat} {s : Pst} (hG : OkS G) (hq : ∀ x, 0 < s.2 x) (hc : Cv G h r s) (hk : CvK G h r k s) (hkc : k < gc G) : CvK G h r (k + 1) (raiseF G k s) := by
  intro x j l hj hw hl
  by_cases e : j = k
  · subst e
    obtain ⟨w1, w2, w3⟩ := hw
    have h1 := hc _ l w3 hl
    have h2 : cB G j * s.1 (nY G j) * (raiseF G j s).2 x ≤ (raiseF G j s).1 x * (cA G j * s.2 (nY G j)) := by
      unfold raiseF
      rw [← w2]
      split
      · show _ * upR s.2 _ _ _ ≤ upR s.1 _ _ _ * _
        rw [up_hit rfl, up_hit rfl]
        exact Nat.le_refl _
      · next q => exact Nat.le_of_not_lt q
    generalize (raiseF G j s) = s' at *
    show cB G j * LB G l * s'.2 x ≤ s'.1 x * (cA G j * LA G l)
    refine Nat.le_of_mul_le_mul_right (c := s.2 (nY G j)) ?_ (hq _)
    calc cB G j * LB G l * s'.2 x * s.2 (nY G j) = cB G j * s'.2 x * (LB G l * s.2 (nY G j)) := by ac_rfl
      _ ≤ cB G j * s'.2 x * (s.1 (nY G j) * LA G l) := Nat.mul_le_mul_left _ h1
      _ = cB G j * s.1 (nY G j) * s'.2 x * LA G l := by ac_rfl
      _ ≤ s'.1 x * (cA G j * s.2 (nY G j)) * LA G l := Nat.mul_le_mul_right _ h2
      _ = s'.1 x * (cA G j * LA G l) * s.2 (nY G j) := by ac_rfl
  · exact xm_le (hk x j l (by omega) hw hl) (raise_le x) (hq x)
theorem round_ok (hG : OkS G) (hng : ∀ (c : List Nat) (x : Nat), Wk G x c x → c ≠ [] → (c.map (nX G)).Nodup → LB G c ≤ LA G c) {r : Nat} : ∀ (m k : Nat) (s : Pst), k + m = gc G → PI G h s → Cv G h r s → CvK G h r k s → PI G h (forF (raiseF G) m k s) ∧ Cv G h r (forF (raiseF G) m k s) ∧ CvK G h r (gc G) (forF (raiseF G) m k s)
  | 0, k, s, hk, hp, hc, hv => by
    have e : k = gc G := by omega
    subst e
    exact ⟨hp, hc, hv⟩
  | m + 1, k, s, hk, hp, hc, hv => by
    have hq : ∀ x, 0 < s.2 x := fun x => (hp x).1
    exact round_ok hG hng m (k + 1) _ (by omega) (raise_PI hG hng (by omega) hp).1 (Cv_mono hq raise_le hc) (raise_Cv hG hq hc hv (by omega))
theorem Cv_up {r : Nat} {s : Pst} (h1 : Cv G h r s) (h2 : CvK G h r (gc G) s) : Cv G h (r + 1) s := by
  intro x l hw hl
  match l, hw, hl with
  | [], hw, hl => exact h1 x [] hw (by simp)
  | k :: l, hw, hl => exact h2 x k l hw.1 hw (by simp only [List.length_cons] at hl; omega)
theorem rounds_ok (hG : OkS G) (hng : ∀ (c : List Nat) (x : Nat), Wk G x c x → c ≠ [] → (c.map (nX G)).Nodup → LB G c ≤ LA G c) : ∀ (n r : Nat) (s : Pst), PI G h s → Cv G h r s → PI G h (roundsF G n s) ∧ Cv G h (r + n) (roundsF G n s)
  | 0, r, s, hp, hc => ⟨hp, hc⟩
  | n + 1, r, s, hp, hc => by
    obtain ⟨a, b, c⟩ := round_ok hG hng (r := r) (gc G) 0 s (by omega) hp hc (fun x j l hj => by omega)
    have := rounds_ok hG hng n (r + 1) _ a (Cv_up b c)
    rw [show r + (n + 1) = r + 1 + n by omega]
    exact this
theorem price_0 : PI G h (priceS h) ∧ Cv G h 0 (priceS h) := by
  refine ⟨fun x => ⟨Nat.one_pos, ?_⟩, fun x l hw hl => ?_⟩
  · by_cases e : x = h
    · refine Or.inr ⟨[], e, List.nodup_cons.mpr ⟨(by simp), List.nodup_nil⟩, (up_hit e : upR (fun _ => 0) h 1 x = 1), rfl, ?_⟩
      show 1 ≤ upR (fun _ => 0) h 1 x
      rw [up_hit e]
      exact Nat.le_refl _
    · exact Or.inl ⟨(up_miss e : upR (fun _ => 0) h 1 x = (fun _ => 0) x), rfl⟩
  · match l, hw, hl with
    | [], hw, hl =>
      have e : x = h := hw
      show 1 * 1 ≤ upR (fun _ => 0) h 1 x * 1
      rw [up_hit e]
      exact Nat.le_refl _
    | k :: l, hw, hl => simp at hl
/-- behind five rounds nothing is raised -/
theorem fix_5 (hG : OkS G) (hh : h < 6) (hng : ∀ (c : List Nat) (x : Nat), Wk G x c x → c ≠ [] → (c.map (nX G)).Nodup → LB G c ≤ LA G c) {s : Pst} (hp : PI G h s) (hc : Cv G h 5 s) {k : Nat} (hk : k < gc G) : ¬ s.1 (nX G k) * (cA G k * s.2 (nY G k)) < cB G k * s.1 (nY G k) * s.2 (nX G k) := by
  refine Nat.not_lt_of_le ?_
  obtain ⟨-, r | ⟨l, l1, l2, l3, l4, l5⟩⟩ := hp (nY G k)
  · rw [r.1, Nat.mul_zero, Nat.zero_mul]
    exact Nat.zero_le _
  · rw [l3, l4]
    by_cases hx : nX G k ∈ vs G (nY G k) l
    · exact no_raise hng hk l1 l5 l2 hx
    · have hw : Wk G (nX G k) (k :: l) h := ⟨hk, rfl, l1⟩
      have hn : (vs G (nX G k) (k :: l)).Nodup := List.nodup_cons.mpr ⟨hx, l2⟩
      exact hc _ _ hw (sp_len hG hh hw hn)
end
