/-! WALKS AND RINGS: the best ring is the best -/
def nX (G : Gv) (k : Nat) : Nat := (cX G k).toNatClampNeg
def nY (G : Gv) (k : Nat) : Nat := (cY G k).toNatClampNeg
theorem c_xy {G : Gv} {k : Nat} (hG : OkS G) (hk : k < gc G) : (cX G k = o (nX G k) ∧ nX G k < gt G) ∧ (cY G k = o (nY G k) ∧ nY G k < gt G) := by
  obtain ⟨-, a2, -, a4, -⟩ := hG.2.2.2.2.2.2.2 k hk
  obtain ⟨n, e, n1, n2, n3⟩ := of_bw a2 (by omega)
  obtain ⟨m, f, m1, m2, m3⟩ := of_bw a4 (by omega)
  unfold nX nY cX cY
  rw [e, f, o_cl n3, o_cl m3]
  exact ⟨⟨rfl, by omega⟩, ⟨rfl, by omega⟩⟩
theorem xy_eq {G : Gv} {j k : Nat} (hG : OkS G) (hj : j < gc G) (hk : k < gc G) : (cX G k = cY G j) = (nX G k = nY G j) := by
  have h := c_xy hG hk
  have h2 := c_xy hG hj
  have g := hG.2.1.2
  rw [h.1.1, h2.2.1]
  exact o_eq (by omega) (by omega)
theorem yx_eq {G : Gv} {j k : Nat} (hG : OkS G) (hj : j < gc G) (hk : k < gc G) : (cY G j = cX G k) = (nY G j = nX G k) := by
  have h := c_xy hG hk
  have h2 := c_xy hG hj
  have g := hG.2.1.2
  rw [h.1.1, h2.2.1]
  exact o_eq (by omega) (by omega)
/-- a walk: changes one behind the other -/
def Wk (G : Gv) : Nat → List Nat → Nat → Prop
  | x, [], z => x = z
  | x, k :: l, z => k < gc G ∧ nX G k = x ∧ Wk G (nY G k) l z
def LB (G : Gv) : List Nat → Nat
  | [] => 1
  | k :: l => cB G k * LB G l
def LA (G : Gv) : List Nat → Nat
  | [] => 1
  | k :: l => cA G k * LA G l
theorem Wk_app {G : Gv} : ∀ (l r : List Nat) (x z : Nat), Wk G x (l ++ r) z ↔ ∃ y, Wk G x l y ∧ Wk G y r z
  | [], r, x, z => ⟨fun h => ⟨x, rfl, h⟩, fun ⟨y, h1, h2⟩ => by
      have e : x = y := h1
      subst e
      exact h2⟩
  | k :: l, r, x, z => by
    refine ⟨fun ⟨h1, h2, h3⟩ => ?_, fun ⟨y, ⟨h1, h2, h3⟩, h4⟩ => ⟨h1, h2, (Wk_app l r _ z).mpr ⟨y, h3, h4⟩⟩⟩
    obtain ⟨y, q1, q2⟩ := (Wk_app l r _ z).mp h3
    exact ⟨y, ⟨h1, h2, q1⟩, q2⟩
theorem LB_app {G : Gv} : ∀ (l r : List Nat), LB G (l ++ r) = LB G l * LB G r
  | [], r => by
    show LB G r = 1 * LB G r
    rw [Nat.one_mul]
  | k :: l, r => by
    show cB G k * LB G (l ++ r) = cB G k * LB G l * LB G r
    rw [LB_app l r, Nat.mul_assoc]
theorem LA_app {G : Gv} : ∀ (l r : List Nat), LA G (l ++ r) = LA G l * LA G r
  | [], r => by
    show LA G r = 1 * LA G r
    rw [Nat.one_mul]
  | k :: l, r => by
    show cA G k * LA G (l ++ r) = cA G k * LA G l * LA G r
    rw [LA_app l r, Nat.mul_assoc]
theorem Wk_mem {G : Gv} : ∀ (l : List Nat) (x z : Nat), Wk G x l z → ∀ k, k ∈ l → k < gc G
  | [], _, _, _, k, hk => by cases hk
  | j :: l, x, z, ⟨h1, h2, h3⟩, k, hk => by
    cases hk with
    | head => exact h1
    | tail _ h => exact Wk_mem l _ z h3 k h
theorem LA_pos {G : Gv} (hG : OkS G) : ∀ (l : List Nat) (x z : Nat), Wk G x l z → 1 ≤ LA G l ∧ 1 ≤ LB G l
  | [], _, _, _ => ⟨Nat.le_refl 1, Nat.le_refl 1⟩
  | j :: l, x, z, ⟨h1, h2, h3⟩ => by
    obtain ⟨a, b⟩ := LA_pos hG l _ z h3
    obtain ⟨⟨-, a1, a2⟩, ⟨-, b1, b2⟩⟩ := c_k hG h1
    exact ⟨Nat.mul_le_mul a1 a, Nat.mul_le_mul b1 b⟩
theorem xm_le {c Q P e Q' P' : Nat} (h : c * Q ≤ P * e) (h2 : P * Q' ≤ P' * Q) (hQ : 0 < Q) : c * Q' ≤ P' * e := by
  refine Nat.le_of_mul_le_mul_right (c := Q) ?_ hQ
  calc c * Q' * Q = c * Q * Q' := by ac_rfl
    _ ≤ P * e * Q' := Nat.mul_le_mul_right _ h
    _ = P * Q' * e := by ac_rfl
    _ ≤ P' * Q * e := Nat.mul_le_mul_right _ h2
    _ = P' * e * Q := by ac_rfl
/-- a state that has seen a ring of this gain, or a better one -/
def KR (t : Bool) (a b : Nat) (s : Rst) : Prop := 0 < s.2.2.1 ∧ (t = true → 0 < s.1 ∧ a * s.2.2.1 ≤ s.2.1 * b)
theorem weigh_keep {t : Bool} {a b a' b' d : Nat} {p : Nat → Nat} {s : Rst} (hd : 0 < d) (hb : 0 < b') (h : KR t a b s) : KR t a b (weighF p d a' b' s) := by
  obtain ⟨h1, h2⟩ := h
  unfold weighF
  split
  · next q =>
    refine ⟨hb, fun ht => ⟨hd, ?_⟩⟩
    obtain ⟨g1, g2⟩ := h2 ht
    refine xm_le g2 (?_ : s.2.1 * b' ≤ a' * s.2.2.1) h1
    rcases q with q | q | q
    · omega
    · exact Nat.le_of_lt q
    · omega
  · exact ⟨h1, h2⟩
theorem weigh_new {a b d : Nat} {p : Nat → Nat} {s : Rst} (hd : 0 < d) (hb : 0 < b) (h : 0 < s.2.2.1) : KR true a b (weighF p d a b s) := by
  unfold weighF
  split
  · exact ⟨hb, fun _ => ⟨hd, Nat.le_refl _⟩⟩
  · next q =>
    refine ⟨h, fun _ => ⟨?_, ?_⟩⟩
    · exact Nat.pos_of_ne_zero (fun z => q (Or.inl z))
    · exact Nat.le_of_not_lt (fun z => q (Or.inr (Or.inl z)))
theorem forF_keep {α : Type} {R : α → Prop} {f : Nat → α → α} : ∀ (m k : Nat) (s : α), (∀ j s, k ≤ j → j < k + m → R s → R (f j s)) → R s → R (forF f m k s)
  | 0, _, _, _, hs => hs
  | m + 1, k, s, h, hs => forF_keep m (k + 1) _ (fun j s h1 h2 => h j s (by omega) (by omega)) (h k s (by omega) (by omega) hs)
theorem forF_hit {α : Type} {R R' : α → Prop} {f : Nat → α → α} {i : Nat} : ∀ (m k : Nat) (s : α), k ≤ i → i < k + m → (∀ j s, k ≤ j → j < k + m → R s → R (f j s)) → (∀ j s, k ≤ j → j < k + m → R' s → R' (f j s)) → (∀ s, R s → R' (f i s)) → R s → R' (forF f m k s)
  | 0, k, s, h1, h2, _, _, _, _ => by omega
  | m + 1, k, s, h1, h2, h3, h4, h5, hs => by
    by_cases e : i = k
    · subst e
      exact forF_keep m (i + 1) _ (fun j s q1 q2 => h4 j s (by omega) (by omega)) (h5 s hs)
    · exact forF_hit m (k + 1) _ (by omega) (by omega) (fun j s q1 q2 => h3 j s (by omega) (by omega)) (fun j s q1 q2 => h4 j s (by omega) (by omega)) h5 (h3 k s (by omega) (by omega) hs)
theorem seek_keep {G : Gv} {t : Bool} {a b : Nat} (hG : OkS G) : ∀ (m e : Nat) (p : Nat → Nat) (s : Rst), (∀ i, i < e + 1 → p i < gc G) → KR t a b s → KR t a b (seekF G m p e s)
  | 0, e, p, s, hp, hs => by
    have h := (P_bd hG (e + 1) hp).2.1
    rw [seekF]
    split
    · exact weigh_keep (by omega) (by omega) hs
    · exact hs
  | m + 1, e, p, s, hp, hs => by
    have h := (P_bd hG (e + 1) hp).2.1
    rw [seekF]
    split
    · exact weigh_keep (by omega) (by omega) hs
    · split
      · exact hs
      · refine forF_keep _ _ _ (fun j s h1 h2 hs => ?_) hs
        split
        · refine seek_keep hG m (e + 1) _ s (fun i hi => ?_) hs
          by_cases q : i = e + 1
          · rw [up_hit q]; omega
          · rw [up_miss q]; exact hp i (by omega)
        · exact hs
theorem was_no {G : Gv} {p : Nat → Nat} {x : Int32} : ∀ (m i : Nat), (∀ j, i ≤ j → j < i + m → ¬ cX G (p j) = x) → wasB G p x m i = false
  | 0, _, _ => rfl
  | m + 1, i, h => by
    unfold wasB
    rw [if_neg (h i (by omega) (by omega))]
    exact was_no m (i + 1) (fun j h1 h2 => h j (by omega) (by omega))
theorem seek_cov {G : Gv} (hG : OkS G) : ∀ (l : List Nat) (m e : Nat) (p : Nat → Nat) (s : Rst), (∀ i, i < e + 1 → p i < gc G) → l.length ≤ m → Wk G (nY G (p e)) l (nX G (p 0)) → (∀ k, k ∈ l → p 0 < k) → (∀ k, k ∈ l → ∀ i, i < e + 1 → ¬ nX G (p i) = nX G k) → (l.map (nX G)).Nodup → 0 < s.2.2.1 → KR true (PB G p (e + 1) * LB G l) (PA G p (e + 1) * LA G l) (seekF G m p e s)
  | [], m, e, p, s, hp, hm, hw, hk, hd, hn, hs => by
    have h := (P_bd hG (e + 1) hp).2.1
    have y : cY G (p e) = cX G (p 0) := by
      rw [yx_eq hG (hp e (by omega)) (hp 0 (by omega))]
      exact hw
    have r := weigh_new (a := PB G p (e + 1)) (p := p) (d := e + 1) (by omega) (by omega : 0 < PA G p (e + 1)) hs
    show KR true (PB G p (e + 1) * 1) (PA G p (e + 1) * 1) _
    rw [Nat.mul_one, Nat.mul_one]
    match m with
    | 0 => rw [seekF, if_pos y]; exact r
    | m + 1 => rw [seekF, if_pos y]; exact r
  | k :: l, 0, e, p, s, hp, hm, hw, hk, hd, hn, hs => absurd hm (by simp)
  | k :: l, m + 1, e, p, s, hp, hm, ⟨w1, w2, w3⟩, hk, hd, hn, hs => by
    have k0 := hk k (List.mem_cons_self ..)
    have d0 := hd k (List.mem_cons_self ..)
    have yx : cX G k = cY G (p e) := by
      rw [xy_eq hG (hp e (by omega)) w1]
      exact w2
    have y : ¬ cY G (p e) = cX G (p 0) := by
      rw [yx_eq hG (hp e (by omega)) (hp 0 (by omega))]
      intro q
      exact d0 0 (by omega) (q.symm.trans w2.symm)
    have hw : wasB G p (cY G (p e)) e 1 = false := by
      refine was_no e 1 (fun j h1 h2 => ?_)
      rw [xy_eq hG (hp e (by omega)) (hp j (by omega))]
      intro q
      exact d0 j (by omega) (q.trans w2.symm)
    have hpu : ∀ j, j < gc G → ∀ i, i < e + 1 + 1 → upR p (e + 1) j i < gc G := by
      intro j hj i hi
      by_cases q : i = e + 1
      · rw [up_hit q]; exact hj
      · rw [up_miss q]; exact hp i (by omega)
    rw [seekF, if_neg y, hw, if_neg (fun q => by cases q)]
    refine forF_hit (R := fun s => 0 < s.2.2.1) (R' := KR true _ _) (i := k) _ _ _ (by omega) (by omega) (fun j s h1 h2 h => ?_) (fun j s h1 h2 h => ?_) (fun s h => ?_) hs
    · split
      · exact (seek_keep (t := false) (a := 0) (b := 0) hG m (e + 1) _ s (hpu j (by omega)) ⟨h, fun q => by cases q⟩).1
      · exact h
    · split
      · exact seek_keep hG m (e + 1) _ s (hpu j (by omega)) h
      · exact h
    · rw [if_pos yx]
      rw [List.map_cons, List.nodup_cons] at hn
      have ih := seek_cov hG l m (e + 1) (upR p (e + 1) k) s (hpu k w1) (by simp only [List.length_cons] at hm; omega) (by rw [up_hit rfl, up_miss (by omega)]; exact w3) ?_ ?_ hn.2 h
      · rw [P_up1.1, P_up1.2, Nat.mul_assoc, Nat.mul_assoc] at ih
        exact ih
      · intro j hj
        rw [up_miss (by omega)]
        exact hk j (List.mem_cons_of_mem _ hj)
      · intro j hj i hi
        by_cases q : i = e + 1
        · rw [up_hit q]
          intro z
          exact hn.1 (z ▸ List.mem_map_of_mem hj)
        · rw [up_miss q]
          exact hd j (List.mem_cons_of_mem _ hj) i (by omega)
theorem min_split : ∀ (l : List Nat), l ≠ [] → ∃ l1 k l2, l = l1 ++ k :: l2 ∧ ∀ j, j ∈ l → k ≤ j
  | [], h => absurd rfl h
  | [k], _ => ⟨[], k, [], rfl, fun j hj => by
      cases hj with
      | head => exact Nat.le_refl _
      | tail _ h => cases h⟩
  | a :: b :: l, _ => by
    obtain ⟨l1, k, l2, h1, h2⟩ := min_split (b :: l) (by simp)
    by_cases q : a ≤ k
    · refine ⟨[], a, b :: l, rfl, fun j hj => ?_⟩
      cases hj with
      | head => exact Nat.le_refl _
      | tail _ h => exact Nat.le_trans q (h2 j h)
    · refine ⟨a :: l1, k, l2, by rw [h1]; rfl, fun j hj => ?_⟩
      cases hj with
      | head => omega
      | tail _ h => exact h2 j h
theorem len_bd : ∀ (n : Nat) (l : List Nat), l.Nodup → (∀ a, a ∈ l → a < n) → l.length ≤ n := by
  intro n l h1 h2
  have h := List.Nodup.length_le_of_subset h1 (l₂ := List.range n) (fun a ha => List.mem_range.mpr (h2 a ha))
  rwa [List.length_range] at h
/-- every ring of unlike things is seen -/
theorem ring_cov {G : Gv} {c : List Nat} {x : Nat} (hG : OkS G) (hw : Wk G x c x) (hc : c ≠ []) (hn : (c.map (nX G)).Nodup) : KR true (LB G c) (LA G c) (ringF G) := by
  have g2 := hG.2.1.2
  obtain ⟨l1, k, l2, e, hm⟩ := min_split c hc
  have hmem := Wk_mem c x x hw
  have hlen : c.length ≤ 6 := by
    have h := len_bd 6 (c.map (nX G)) hn (fun a ha => by
      obtain ⟨j, hj, rfl⟩ := List.mem_map.mp ha
      have := (c_xy hG (hmem j hj)).1.2
      omega)
    rwa [List.length_map] at h
  subst e
  have kc : k < gc G := hmem k (by simp)
  obtain ⟨z, w1, w2, w3, w4⟩ := (Wk_app l1 (k :: l2) x x).mp hw
  have hp : (k :: (l2 ++ l1)).Perm (l1 ++ k :: l2) := List.perm_append_comm (l₁ := k :: l2) (l₂ := l1)
  have hn2 : ((k :: (l2 ++ l1)).map (nX G)).Nodup := (hp.map (nX G)).nodup_iff.mpr hn
  rw [List.map_cons, List.nodup_cons] at hn2
  have hB : LB G (l1 ++ k :: l2) = cB G k * LB G (l2 ++ l1) := by
    rw [LB_app, LB_app]
    show LB G l1 * (cB G k * LB G l2) = _
    ac_rfl
  have hA : LA G (l1 ++ k :: l2) = cA G k * LA G (l2 ++ l1) := by
    rw [LA_app, LA_app]
    show LA G l1 * (cA G k * LA G l2) = _
    ac_rfl
  rw [hB, hA]
  have hu : ∀ j, j < gc G → ∀ i, i < 0 + 1 → upR (fun _ => 0) 0 j i < gc G := by
    intro j hj i hi
    rw [up_hit (by omega)]
    exact hj
  unfold ringF
  refine forF_hit (R := fun s => 0 < s.2.2.1) (R' := KR true _ _) (i := k) _ _ _ (by omega) (by omega) (fun j s h1 h2 h => ?_) (fun j s h1 h2 h => ?_) (fun s h => ?_) (by decide)
  · exact (seek_keep (t := false) (a := 0) (b := 0) hG 5 0 _ s (hu j (by omega)) ⟨h, fun q => by cases q⟩).1
  · exact seek_keep hG 5 0 _ s (hu j (by omega)) h
  · have r := seek_cov hG (l2 ++ l1) 5 0 (upR (fun _ => 0) 0 k) s (hu k kc) ?_ ?_ ?_ ?_ hn2.2 h
    · rw [P_up1.1, P_up1.2, show PB G (fun _ => 0) 0 = 1 from rfl, show PA G (fun _ => 0) 0 = 1 from rfl, Nat.one_mul, Nat.one_mul] at r
      exact r
    · have := hp.length_eq
      simp only [List.length_cons] at this
      omega
    · rw [up_hit rfl, w3]
      exact (Wk_app l2 l1 _ z).mpr ⟨x, w4, w1⟩
    · intro j hj
      rw [up_hit rfl]
      have h1 := hm j (hp.mem_iff.mp (List.mem_cons_of_mem _ hj))
      have h2 : ¬ j = k := fun q => hn2.1 (q ▸ List.mem_map_of_mem hj)
      omega
    · intro j hj i hi
      rw [up_hit (by omega)]
      exact fun q => hn2.1 (q ▸ List.mem_map_of_mem hj)
/-- where the best ring doesn't gain, none does -/
theorem no_gain {G : Gv} (hG : OkS G) (h : ¬ (0 < (ringF G).1 ∧ (ringF G).2.2.1 < (ringF G).2.1)) : ∀ (c : List Nat) (x : Nat), Wk G x c x → c ≠ [] → (c.map (nX G)).Nodup → LB G c ≤ LA G c := by
  intro c x h1 h2 h3
  obtain ⟨q1, q2⟩ := ring_cov hG h1 h2 h3
  obtain ⟨q3, q4⟩ := q2 rfl
  generalize ringF G = s at *
  have h4 : s.2.1 ≤ s.2.2.1 := Nat.le_of_not_lt (fun z => h ⟨q3, z⟩)
  refine Nat.le_of_mul_le_mul_right (c := s.2.2.1) ?_ q1
  refine Nat.le_trans q4 ?_
  rw [Nat.mul_comm]
  exact Nat.mul_le_mul_left _ h4
