/-! RINGS, WITHOUT A MACHINE -/
abbrev Rst : Type := Nat × Nat × Nat × (Nat → Nat)
def cX (G : Gv) (k : Nat) : Int32 := G (72 + 8 * k + 1)
def cY (G : Gv) (k : Nat) : Int32 := G (72 + 8 * k + 3)
def cA (G : Gv) (k : Nat) : Nat := (G (72 + 8 * k + 2)).toNatClampNeg
def cB (G : Gv) (k : Nat) : Nat := (G (72 + 8 * k + 4)).toNatClampNeg
def PB (G : Gv) (p : Nat → Nat) : Nat → Nat
  | 0 => 1
  | d + 1 => PB G p d * cB G (p d)
def PA (G : Gv) (p : Nat → Nat) : Nat → Nat
  | 0 => 1
  | d + 1 => PA G p d * cA G (p d)
theorem PB_s {G : Gv} {p : Nat → Nat} {d : Nat} : PB G p (d + 1) = PB G p d * cB G (p d) := rfl
theorem PA_s {G : Gv} {p : Nat → Nat} {d : Nat} : PA G p (d + 1) = PA G p d * cA G (p d) := rfl
def upR (p : Nat → Nat) (d k : Nat) : Nat → Nat := fun i => if i = d then k else p i
theorem up_hit {p : Nat → Nat} {d k i : Nat} (h : i = d) : upR p d k i = k := if_pos h
theorem up_miss {p : Nat → Nat} {d k i : Nat} (h : ¬ i = d) : upR p d k i = p i := if_neg h
def weighF (p : Nat → Nat) (d a b : Nat) (s : Rst) : Rst := if s.1 = 0 ∨ s.2.1 * b < a * s.2.2.1 ∨ (a * s.2.2.1 = s.2.1 * b ∧ d < s.1) then (d, a, b, p) else s
def wasB (G : Gv) (p : Nat → Nat) (x : Int32) : Nat → Nat → Bool
  | 0, _ => false
  | m + 1, i => if cX G (p i) = x then true else wasB G p x m (i + 1)
def forF {α : Type} (f : Nat → α → α) : Nat → Nat → α → α
  | 0, _, s => s
  | m + 1, k, s => forF f m (k + 1) (f k s)
def seekF (G : Gv) : Nat → (Nat → Nat) → Nat → Rst → Rst
  | 0, p, e, s => if cY G (p e) = cX G (p 0) then weighF p (e + 1) (PB G p (e + 1)) (PA G p (e + 1)) s else s
  | m + 1, p, e, s => if cY G (p e) = cX G (p 0) then weighF p (e + 1) (PB G p (e + 1)) (PA G p (e + 1)) s else if wasB G p (cY G (p e)) e 1 = true then s else forF (fun k s => if cX G k = cY G (p e) then seekF G m (upR p (e + 1) k) (e + 1) s else s) (gc G - (p 0 + 1)) (p 0 + 1) s
def ringS : Rst := (0, 0, 1, fun _ => 0)
def ringF (G : Gv) : Rst := forF (fun k s => seekF G 5 (upR (fun _ => 0) 0 k) 0 s) (gc G) 0 ringS
theorem c_k {G : Gv} {k : Nat} (hG : OkS G) (hk : k < gc G) : (G (72 + 8 * k + 2) = o (cA G k) ∧ 1 ≤ cA G k ∧ cA G k ≤ 20) ∧ (G (72 + 8 * k + 4) = o (cB G k) ∧ 1 ≤ cB G k ∧ cB G k ≤ 20) := by
  obtain ⟨-, -, a3, -, a5, -⟩ := hG.2.2.2.2.2.2.2 k hk
  obtain ⟨n, e, n1, n2, n3⟩ := of_bw a3 (by omega)
  obtain ⟨m, f, m1, m2, m3⟩ := of_bw a5 (by omega)
  unfold cA cB
  rw [e, f, o_cl n3, o_cl m3]
  exact ⟨⟨rfl, by omega, by omega⟩, ⟨rfl, by omega, by omega⟩⟩
theorem P_up {G : Gv} {p : Nat → Nat} {d k : Nat} : ∀ (e : Nat), e ≤ d → PB G (upR p d k) e = PB G p e ∧ PA G (upR p d k) e = PA G p e
  | 0, _ => ⟨rfl, rfl⟩
  | e + 1, h => by
    obtain ⟨h1, h2⟩ := P_up (G := G) (p := p) (k := k) e (by omega : e ≤ d)
    rw [PB_s, PA_s, h1, h2, up_miss (by omega), PB_s, PA_s]
    exact ⟨rfl, rfl⟩
theorem P_up1 {G : Gv} {p : Nat → Nat} {d k : Nat} : PB G (upR p d k) (d + 1) = PB G p d * cB G k ∧ PA G (upR p d k) (d + 1) = PA G p d * cA G k := by
  obtain ⟨h1, h2⟩ := P_up (G := G) (p := p) (k := k) d (Nat.le_refl d)
  rw [PB_s, PA_s, h1, h2, up_hit rfl]
  exact ⟨rfl, rfl⟩
theorem P_bd {G : Gv} {p : Nat → Nat} (hG : OkS G) : ∀ (d : Nat), (∀ i, i < d → p i < gc G) → (1 ≤ PB G p d ∧ PB G p d ≤ 20 ^ d) ∧ (1 ≤ PA G p d ∧ PA G p d ≤ 20 ^ d)
  | 0, _ => ⟨⟨Nat.le_refl 1, Nat.le_refl 1⟩, ⟨Nat.le_refl 1, Nat.le_refl 1⟩⟩
  | d + 1, h => by
    obtain ⟨⟨h1, h2⟩, ⟨h3, h4⟩⟩ := P_bd hG d (fun i hi => h i (by omega))
    obtain ⟨⟨-, a1, a2⟩, ⟨-, b1, b2⟩⟩ := c_k hG (h d (by omega))
    rw [PB_s, PA_s, Nat.pow_succ]
    exact ⟨⟨Nat.mul_le_mul h1 b1, Nat.mul_le_mul h2 b2⟩, ⟨Nat.mul_le_mul h3 a1, Nat.mul_le_mul h4 a2⟩⟩
theorem P_bd6 {G : Gv} {p : Nat → Nat} {d : Nat} (hG : OkS G) (h : ∀ i, i < d → p i < gc G) (hd : d ≤ 6) : (1 ≤ PB G p d ∧ PB G p d ≤ 64000000) ∧ (1 ≤ PA G p d ∧ PA G p d ≤ 64000000) := by
  obtain ⟨⟨h1, h2⟩, ⟨h3, h4⟩⟩ := P_bd hG d h
  have hp : 20 ^ d ≤ 20 ^ 6 := Nat.pow_le_pow_right (by omega) hd
  omega
/-- the best ring so far, as a machine holds it -/
def RelR (s : Rst) (z : Int32) (x y : Int64) (b : Nat → Int32) : Prop := z = o s.1 ∧ s.1 ≤ 6 ∧ (0 < s.1 → x = ol s.2.1 ∧ y = ol s.2.2.1 ∧ (1 ≤ s.2.1 ∧ s.2.1 ≤ 64000000) ∧ (1 ≤ s.2.2.1 ∧ s.2.2.1 ≤ 64000000) ∧ ∀ i, i < s.1 → b i = o (s.2.2.2 i))
theorem RelR_new {p : Nat → Nat} {d a b : Nat} {bb : Nat → Int32} (hd : d ≤ 6) (ha : 1 ≤ a ∧ a ≤ 64000000) (hb : 1 ≤ b ∧ b ≤ 64000000) (h : ∀ i, i < d → bb i = o (p i)) : RelR (d, a, b, p) (o d) (ol a) (ol b) bb := ⟨rfl, hd, fun _ => ⟨rfl, rfl, ha, hb, h⟩⟩
theorem mul_bd {a b : Nat} (ha : a ≤ 64000000) (hb : b ≤ 64000000) : a * b ≤ 4096000000000000 := Nat.mul_le_mul ha hb
/-- the sign of the difference -/
theorem more_ti {a b c d : Nat} (ha : a ≤ 64000000) (hb : b ≤ 64000000) (hc : c ≤ 64000000) (hd : d ≤ 64000000) : (ol a * ol b - ol c * ol d).toInt = ((a * b : Nat) : Int) - ((c * d : Nat) : Int) := by
  have h1 := mul_bd ha hb
  have h2 := mul_bd hc hd
  rw [ol_mul, ol_mul, tl_sub (by rw [ol_ti (by omega), ol_ti (by omega)]; omega), ol_ti (by omega), ol_ti (by omega)]
theorem forF_if {α : Type} {f g : Nat → α → α} (h : ∀ k s, f k s = g k s) : ∀ (m k : Nat) (s : α), forF f m k s = forF g m k s
  | 0, _, _ => rfl
  | m + 1, k, s => by
    unfold forF
    rw [h k s]
    exact forF_if h m _ _
theorem forF_id {α : Type} {f : Nat → α → α} (h : ∀ k s, f k s = s) : ∀ (m k : Nat) (s : α), forF f m k s = s
  | 0, _, _ => rfl
  | m + 1, k, s => by
    unfold forF
    rw [h k s]
    exact forF_id h m _ _
/-- what the model does with one change in place e -/
def bodyM (G : Gv) (m : Nat) (p : Nat → Nat) : Nat → Nat → Rst → Rst
  | 0, k, s => seekF G m (upR p 0 k) 0 s
  | f + 1, k, s => if cX G k = cY G (p f) ∧ wasB G p (cY G (p f)) f 1 = false then seekF G m (upR p (f + 1) k) (f + 1) s else s
theorem bodyM_s {G : Gv} {m f k : Nat} {p : Nat → Nat} {s : Rst} : bodyM G m p (f + 1) k s = if cX G k = cY G (p f) ∧ wasB G p (cY G (p f)) f 1 = false then seekF G m (upR p (f + 1) k) (f + 1) s else s := rfl
theorem seekF_M {G : Gv} {m e : Nat} {p : Nat → Nat} {s : Rst} (h : ¬ cY G (p e) = cX G (p 0)) : seekF G (m + 1) p e s = forF (bodyM G m p (e + 1)) (gc G - (p 0 + 1)) (p 0 + 1) s := by
  rw [seekF, if_neg h]
  cases hw : wasB G p (cY G (p e)) e 1 with
  | true =>
    rw [if_pos rfl]
    refine (forF_id (fun k s => ?_) _ _ _).symm
    rw [bodyM_s, hw, if_neg (fun q => by cases q.2)]
  | false =>
    rw [if_neg (fun q => by cases q)]
    refine forF_if (fun k s => ?_) _ _ _
    rw [bodyM_s, hw]
    by_cases q : cX G k = cY G (p e)
    · rw [if_pos q, if_pos ⟨q, rfl⟩]
    · rw [if_neg q, if_neg (fun z => q z.1)]
theorem wasB_cg {G : Gv} {p q : Nat → Nat} {x : Int32} : ∀ (m i : Nat), (∀ j, i ≤ j → j < i + m → p j = q j) → wasB G p x m i = wasB G q x m i
  | 0, _, _ => rfl
  | m + 1, i, h => by
    unfold wasB
    rw [h i (by omega) (by omega), wasB_cg m (i + 1) (fun j h1 h2 => h j (by omega) (by omega))]
