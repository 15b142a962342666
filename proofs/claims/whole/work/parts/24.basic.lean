/-! BOUNDS BY INTS; THE MODEL'S SMALL METHODS; WITHIN -/
abbrev Gv : Type := Nat → Int32
abbrev Iv : Type := Nat → Nat → Int32
abbrev Jv : Type := Nat → Nat → Int64
def bw (x : Int32) (a b : Int) : Prop := a ≤ x.toInt ∧ x.toInt ≤ b
theorem lt_ti (a b : Int32) : (a < b) = (a.toInt < b.toInt) := propext Int32.lt_iff_toInt_lt
theorem le_ti (a b : Int32) : (a ≤ b) = (a.toInt ≤ b.toInt) := propext Int32.le_iff_toInt_le
theorem eq_ti (a b : Int32) : (a = b) = (a.toInt = b.toInt) := propext Int32.toInt_inj.symm
theorem lt_tl (a b : Int64) : (a < b) = (a.toInt < b.toInt) := propext Int64.lt_iff_toInt_lt
theorem le_tl (a b : Int64) : (a ≤ b) = (a.toInt ≤ b.toInt) := propext Int64.le_iff_toInt_le
theorem eq_tl (a b : Int64) : (a = b) = (a.toInt = b.toInt) := propext Int64.toInt_inj.symm
theorem t32_64 (a : Int32) : a.toInt64.toInt = a.toInt := Int32.toInt_toInt64 a
theorem cl_ti (a : Int32) : a.toNatClampNeg = a.toInt.toNat := rfl
theorem ti_rng (a : Int32) : -2147483648 ≤ a.toInt ∧ a.toInt < 2147483648 := ⟨Int32.le_toInt a, Int32.toInt_lt a⟩
theorem tl_rng (a : Int64) : -9223372036854775808 ≤ a.toInt ∧ a.toInt < 9223372036854775808 := ⟨Int64.le_toInt a, Int64.toInt_lt a⟩
theorem bm32 {z : Int} (h : -2147483648 ≤ z ∧ z < 2147483648) : z.bmod (2 ^ 32) = z := Int.bmod_eq_of_le (by omega) (by omega)
theorem bm64 {z : Int} (h : -9223372036854775808 ≤ z ∧ z < 9223372036854775808) : z.bmod (2 ^ 64) = z := Int.bmod_eq_of_le (by omega) (by omega)
theorem ti_add {a b : Int32} (h : -2147483648 ≤ a.toInt + b.toInt ∧ a.toInt + b.toInt < 2147483648) : (a + b).toInt = a.toInt + b.toInt := by rw [Int32.toInt_add, bm32 h]
theorem ti_sub {a b : Int32} (h : -2147483648 ≤ a.toInt - b.toInt ∧ a.toInt - b.toInt < 2147483648) : (a - b).toInt = a.toInt - b.toInt := by rw [Int32.toInt_sub, bm32 h]
theorem ti_mul {a b : Int32} (h : -2147483648 ≤ a.toInt * b.toInt ∧ a.toInt * b.toInt < 2147483648) : (a * b).toInt = a.toInt * b.toInt := by rw [Int32.toInt_mul, bm32 h]
theorem tl_add {a b : Int64} (h : -9223372036854775808 ≤ a.toInt + b.toInt ∧ a.toInt + b.toInt < 9223372036854775808) : (a + b).toInt = a.toInt + b.toInt := by rw [Int64.toInt_add, bm64 h]
theorem tl_sub {a b : Int64} (h : -9223372036854775808 ≤ a.toInt - b.toInt ∧ a.toInt - b.toInt < 9223372036854775808) : (a - b).toInt = a.toInt - b.toInt := by rw [Int64.toInt_sub, bm64 h]
theorem tl_mul {a b : Int64} (h : -9223372036854775808 ≤ a.toInt * b.toInt ∧ a.toInt * b.toInt < 9223372036854775808) : (a * b).toInt = a.toInt * b.toInt := by rw [Int64.toInt_mul, bm64 h]
theorem xin_ti (i : Int32) (n : Nat) : (xin i n = true) = (0 ≤ i.toInt ∧ i.toInt < n) := by
  unfold xin
  rw [decide_eq_true_eq, lt_ti, cl_ti, show (0 : Int32).toInt = 0 from rfl]
  exact propext (by omega)
theorem of_cl {x : Int32} (h : 0 ≤ x.toInt) : x = o x.toNatClampNeg := o_of (by rw [le_ti]; exact h)
theorem of_bw {x : Int32} {a b : Int} (h : bw x a b) (ha : 0 ≤ a) : ∃ n : Nat, x = o n ∧ a ≤ (n : Int) ∧ (n : Int) ≤ b ∧ n < 2147483648 := by
  have h1 := h.1
  have h2 := h.2
  have h3 := ti_rng x
  refine ⟨x.toNatClampNeg, of_cl (by omega), ?_, ?_, ?_⟩ <;> rw [cl_ti] <;> omega
theorem of_ti {x : Int32} {b : Nat} (h : 0 ≤ x.toInt) (h2 : x.toInt < b) : ∃ n : Nat, x = o n ∧ n < b ∧ n < 2147483648 := by
  have h3 := ti_rng x
  refine ⟨x.toNatClampNeg, of_cl h, ?_, ?_⟩ <;> rw [cl_ti] <;> omega
theorem bI_ne0 (b : Bool) : (¬ bI b = 0) = (b = true) := by cases b <;> decide
theorem ito_o (n : Nat) (h : n < 2147483648) : (o n).toInt = n := o_toInt h
theorem dec_t {p : Prop} [Decidable p] : (decide p = true) = p := by simp
theorem dec_f {p : Prop} [Decidable p] : (decide p = false) = ¬ p := by simp
theorem o_lit0 : (0 : Int32) = o 0 := rfl
theorem o_lit1 : (1 : Int32) = o 1 := rfl
theorem o_lit2 : (2 : Int32) = o 2 := rfl
theorem o_lit3 : (3 : Int32) = o 3 := rfl
theorem o_lit4 : (4 : Int32) = o 4 := rfl
theorem o_lit5 : (5 : Int32) = o 5 := rfl
theorem o_lit6 : (6 : Int32) = o 6 := rfl
theorem o_lit7 : (7 : Int32) = o 7 := rfl
theorem o_lit8 : (8 : Int32) = o 8 := rfl
theorem o_lit48 : (48 : Int32) = o 48 := rfl
theorem o_lit66 : (66 : Int32) = o 66 := rfl
theorem o_lit72 : (72 : Int32) = o 72 := rfl
theorem o_lit136 : (136 : Int32) = o 136 := rfl
theorem o_lit161 : (161 : Int32) = o 161 := rfl
theorem o_lit458 : (458 : Int32) = o 458 := rfl
theorem o_lit459 : (459 : Int32) = o 459 := rfl
theorem o_lit460 : (460 : Int32) = o 460 := rfl
theorem o_lit461 : (461 : Int32) = o 461 := rfl
theorem bIt0 : (bI true = 0) = False := by simp [bI]
theorem bIf0 : (bI false = 0) = True := by simp [bI]
theorem oz (a : Nat) : 0 + o a = o a := by rw [o_lit0, o_add, Nat.zero_add]
theorem op0 (a : Nat) : o a + 0 = o a := by rw [o_lit0, o_add, Nat.add_zero]
theorem op1 (a : Nat) : o a + 1 = o (a + 1) := o_add1 a
theorem op2 (a : Nat) : o a + 2 = o (a + 2) := by rw [o_lit2, o_add]
theorem op3 (a : Nat) : o a + 3 = o (a + 3) := by rw [o_lit3, o_add]
theorem op4 (a : Nat) : o a + 4 = o (a + 4) := by rw [o_lit4, o_add]
theorem op5 (a : Nat) : o a + 5 = o (a + 5) := by rw [o_lit5, o_add]
theorem op6 (a : Nat) : o a + 6 = o (a + 6) := by rw [o_lit6, o_add]
theorem op7 (a : Nat) : o a + 7 = o (a + 7) := by rw [o_lit7, o_add]
theorem o8m (a : Nat) : 8 * o a = o (8 * a) := by rw [o_lit8, o_mul]
theorem o3m (a : Nat) : 3 * o a = o (3 * a) := by rw [o_lit3, o_mul]
theorem o161m (a : Nat) : 161 * o a = o (161 * a) := by rw [o_lit161, o_mul]
theorem o461m (a : Nat) : 461 * o a = o (461 * a) := by rw [o_lit461, o_mul]
theorem o48p (a : Nat) : 48 + o a = o (48 + a) := by rw [o_lit48, o_add]
theorem o66p (a : Nat) : 66 + o a = o (66 + a) := by rw [o_lit66, o_add]
theorem o72p (a : Nat) : 72 + o a = o (72 + a) := by rw [o_lit72, o_add]
theorem o136p (a : Nat) : 136 + o a = o (136 + a) := by rw [o_lit136, o_add]
theorem xl_0 (n : Nat) : (xin 0 n = true) = (0 < n) := xin_o (j := 0) (by omega)
theorem xl_1 (n : Nat) : (xin 1 n = true) = (1 < n) := xin_o (j := 1) (by omega)
theorem xl_2 (n : Nat) : (xin 2 n = true) = (2 < n) := xin_o (j := 2) (by omega)
theorem xl_3 (n : Nat) : (xin 3 n = true) = (3 < n) := xin_o (j := 3) (by omega)
theorem xl_4 (n : Nat) : (xin 4 n = true) = (4 < n) := xin_o (j := 4) (by omega)
theorem xl_5 (n : Nat) : (xin 5 n = true) = (5 < n) := xin_o (j := 5) (by omega)
theorem xl_6 (n : Nat) : (xin 6 n = true) = (6 < n) := xin_o (j := 6) (by omega)
theorem xl_7 (n : Nat) : (xin 7 n = true) = (7 < n) := xin_o (j := 7) (by omega)
theorem xl_8 (n : Nat) : (xin 8 n = true) = (8 < n) := xin_o (j := 8) (by omega)
theorem xl_458 (n : Nat) : (xin 458 n = true) = (458 < n) := xin_o (j := 458) (by omega)
theorem xl_459 (n : Nat) : (xin 459 n = true) = (459 < n) := xin_o (j := 459) (by omega)
theorem xl_460 (n : Nat) : (xin 460 n = true) = (460 < n) := xin_o (j := 460) (by omega)
theorem ite_n {α : Sort _} {c : Prop} [Decidable c] {a b : α} (h : ¬ c) : (if c then a else b) = b := if_neg h
theorem ite_p {α : Sort _} {c : Prop} [Decidable c] {a b : α} (h : c) : (if c then a else b) = a := if_pos h
theorem xu_hit {I : Nat → Nat → Int32} {a k b j : Nat} {x : Int32} (h : b = a ∧ j = k) : xuI I a k x b j = x := if_pos h
theorem xu_miss {I : Nat → Nat → Int32} {a k b j : Nat} {x : Int32} (h : ¬ (b = a ∧ j = k)) : xuI I a k x b j = I b j := if_neg h
theorem op11 (a : Nat) : o (a + 1) - 1 = o a := o_sub1 a
theorem oe_0 {n : Nat} (h : n < 2147483648) : (o n = 0) = (n = 0) := o_eq h (by omega : 0 < 2147483648)
theorem oe_1 {n : Nat} (h : n < 2147483648) : (o n = 1) = (n = 1) := o_eq h (by omega : 1 < 2147483648)
theorem oe_6 {n : Nat} (h : n < 2147483648) : (o n = 6) = (n = 6) := o_eq h (by omega : 6 < 2147483648)
theorem oe_8 {n : Nat} (h : n < 2147483648) : (o n = 8) = (n = 8) := o_eq h (by omega : 8 < 2147483648)
theorem i_10 : ((1 : Int32) = 0) = False := by decide
theorem i_01 : ((0 : Int32) = 1) = False := by decide
theorem le_om1 {z : Int} {n : Nat} (h : n < 2147483648) : (z ≤ (o n - 1).toInt) = (z < (n : Int)) := by
  have e : (o n - 1).toInt = (n : Int) - 1 := by
    rw [ti_sub (by rw [ito_o n h, show (1 : Int32).toInt = 1 from rfl]; omega), ito_o n h]
    rfl
  rw [e]
  exact propext (by omega)
theorem sub_0 (a : Int32) : a - 0 = a := Int32.sub_zero a
theorem i_20 : ((2 : Int32) = 0) = False := by decide
theorem i_21 : ((2 : Int32) = 1) = False := by decide
theorem i_30 : ((3 : Int32) = 0) = False := by decide
theorem i_31 : ((3 : Int32) = 1) = False := by decide
theorem i_32 : ((3 : Int32) = 2) = False := by decide
theorem i_40 : ((4 : Int32) = 0) = False := by decide
theorem i_41 : ((4 : Int32) = 1) = False := by decide
theorem i_42 : ((4 : Int32) = 2) = False := by decide
theorem i_43 : ((4 : Int32) = 3) = False := by decide
section
variable {E : XE} {d : Nat} {I : Nat → Nat → Int32} {J : Nat → Nat → Int64} {Q : XQt}
theorem s_within {v a b : Int32} : XM E d 101 [.int v, .int a, .int b] I J Q = Q (some (.int (bI (decide (a.toInt ≤ v.toInt ∧ v.toInt ≤ b.toInt))))) I J := by
  simp only [mKT_within, eKT_within_0, eKT_within_1, eKT_within_2, eKT_within_5, eKT_within_6, eKT_within_7, eKT_within_10, eKT_within_11, eKT_within_14, eKT_within_15, nar_0, nar_1, lt_ti]
  by_cases h : v.toInt < a.toInt
  · have h2 : ¬ (a.toInt ≤ v.toInt ∧ v.toInt ≤ b.toInt) := by omega
    simp only [h, if_true, h2, decide_false]
    rfl
  · by_cases h3 : b.toInt < v.toInt
    · have h2 : ¬ (a.toInt ≤ v.toInt ∧ v.toInt ≤ b.toInt) := by omega
      simp only [h, if_false, h3, if_true, h2, decide_false]
      rfl
    · have h2 : (a.toInt ≤ v.toInt ∧ v.toInt ≤ b.toInt) := by omega
      simp only [h, if_false, h3, h2, decide_true]
      rfl
theorem s_in {v a b : Int64} : XM E d 104 [.long v, .long a, .long b] I J Q = Q (some (.int (bI (decide (a.toInt ≤ v.toInt ∧ v.toInt ≤ b.toInt))))) I J := by
  simp only [mM_in, eM_in_0, eM_in_1, eM_in_2, eM_in_3, eM_in_6, eM_in_7, eM_in_9, eM_in_10, eM_in_13, eM_in_14, eM_in_17, eM_in_18, nar_0, nar_1, lg_cmp_gt, lg_cmp_lt, lt_tl]
  by_cases h : v.toInt < a.toInt
  · have h2 : ¬ (a.toInt ≤ v.toInt ∧ v.toInt ≤ b.toInt) := by omega
    simp only [h, if_true, h2, decide_false]
    rfl
  · by_cases h3 : b.toInt < v.toInt
    · have h2 : ¬ (a.toInt ≤ v.toInt ∧ v.toInt ≤ b.toInt) := by omega
      simp only [h, if_false, h3, if_true, h2, decide_false]
      rfl
    · have h2 : (a.toInt ≤ v.toInt ∧ v.toInt ≤ b.toInt) := by omega
      simp only [h, if_false, h3, h2, decide_true]
      rfl
theorem s_landings : XM E d 105 [.ref 157] I J Q = Q (some (.int (I 158 458))) I J := by
  simp only [mM_landings, eM_landings_0, eM_landings_1, eM_landings_4, eM_landings_7, eM_landings_8, KD_157, LN_157, P0_157_0, P0_157_1, P0_157_2, P0_157_12, P0_157_16, P0_157_17, P0_157_18, P0_157_19, P0_157_20, P0_157_21, P0_157_22, P0_157_24, P0_157_25, P0_157_29, P0_157_30, P0_157_31, P0_157_32, KD_158, LN_158, va_rf_some, xin_ti, Int32.reduceToInt, Int32.reduceToNatClampNeg]
  simp
theorem s_things : XM E d 106 [.ref 157] I J Q = Q (some (.int (I 158 459))) I J := by
  simp only [mM_things, eM_things_0, eM_things_1, eM_things_4, eM_things_7, eM_things_8, KD_157, LN_157, P0_157_0, P0_157_1, P0_157_2, P0_157_12, P0_157_16, P0_157_17, P0_157_18, P0_157_19, P0_157_20, P0_157_21, P0_157_22, P0_157_24, P0_157_25, P0_157_29, P0_157_30, P0_157_31, P0_157_32, KD_158, LN_158, va_rf_some, xin_ti, Int32.reduceToInt, Int32.reduceToNatClampNeg]
  simp
theorem s_changes : XM E d 107 [.ref 157] I J Q = Q (some (.int (I 158 460))) I J := by
  simp only [mM_changes, eM_changes_0, eM_changes_1, eM_changes_4, eM_changes_7, eM_changes_8, KD_157, LN_157, P0_157_0, P0_157_1, P0_157_2, P0_157_12, P0_157_16, P0_157_17, P0_157_18, P0_157_19, P0_157_20, P0_157_21, P0_157_22, P0_157_24, P0_157_25, P0_157_29, P0_157_30, P0_157_31, P0_157_32, KD_158, LN_158, va_rf_some, xin_ti, Int32.reduceToInt, Int32.reduceToNatClampNeg]
  simp
theorem s_isLanding {x : Int32} : XM E (d + 1) 108 [.ref 157, .int x] I J Q = Q (some (.int (bI (decide (0 ≤ x.toInt ∧ x.toInt ≤ (I 158 458 - 1).toInt))))) I J := by
  simp only [mM_isLanding, eM_isLanding_0, eM_isLanding_1, eM_isLanding_2, eM_isLanding_3, eM_isLanding_4, eM_isLanding_7, eM_isLanding_8, eM_isLanding_9, eM_isLanding_10, eM_isLanding_13, KD_157, LN_157, P0_157_0, P0_157_1, P0_157_2, P0_157_12, P0_157_16, P0_157_17, P0_157_18, P0_157_19, P0_157_20, P0_157_21, P0_157_22, P0_157_24, P0_157_25, P0_157_29, P0_157_30, P0_157_31, P0_157_32, s_landings, s_in, tl_some, t32_64, Int64.reduceToInt, nar_b]
theorem s_isThing {x : Int32} : XM E (d + 1) 109 [.ref 157, .int x] I J Q = Q (some (.int (bI (decide (0 ≤ x.toInt ∧ x.toInt ≤ (I 158 459 - 1).toInt))))) I J := by
  simp only [mM_isThing, eM_isThing_0, eM_isThing_1, eM_isThing_2, eM_isThing_3, eM_isThing_4, eM_isThing_7, eM_isThing_8, eM_isThing_9, eM_isThing_10, eM_isThing_13, KD_157, LN_157, P0_157_0, P0_157_1, P0_157_2, P0_157_12, P0_157_16, P0_157_17, P0_157_18, P0_157_19, P0_157_20, P0_157_21, P0_157_22, P0_157_24, P0_157_25, P0_157_29, P0_157_30, P0_157_31, P0_157_32, s_things, s_in, tl_some, t32_64, Int64.reduceToInt, nar_b]
theorem s_isChange {x : Int32} : XM E (d + 1) 110 [.ref 157, .int x] I J Q = Q (some (.int (bI (decide (0 ≤ x.toInt ∧ x.toInt ≤ (I 158 460 - 1).toInt))))) I J := by
  simp only [mM_isChange, eM_isChange_0, eM_isChange_1, eM_isChange_2, eM_isChange_3, eM_isChange_4, eM_isChange_7, eM_isChange_8, eM_isChange_9, eM_isChange_10, eM_isChange_13, KD_157, LN_157, P0_157_0, P0_157_1, P0_157_2, P0_157_12, P0_157_16, P0_157_17, P0_157_18, P0_157_19, P0_157_20, P0_157_21, P0_157_22, P0_157_24, P0_157_25, P0_157_29, P0_157_30, P0_157_31, P0_157_32, s_changes, s_in, tl_some, t32_64, Int64.reduceToInt, nar_b]
theorem s_ofLanding {l k : Nat} (h : 8 * l + k < 461) : XM E d 111 [.ref 157, .int (o l), .int (o k)] I J Q = Q (some (.int (I 158 (8 * l + k)))) I J := by
  have e : 0 + (o l * 8) + o k = o (8 * l + k) := by rw [o_lit8, o_mul, o_lit0, o_add, o_add]; congr 1; omega
  have e' : 0 + (8 * o l) + o k = o (8 * l + k) := by rw [o_lit8, o_mul, o_lit0, o_add, o_add]; congr 1; omega
  simp only [mM_ofLanding, eM_ofLanding_0, eM_ofLanding_1, eM_ofLanding_4, eM_ofLanding_5, eM_ofLanding_7, eM_ofLanding_8, eM_ofLanding_9, eM_ofLanding_10, eM_ofLanding_11, eM_ofLanding_12, eM_ofLanding_13, KD_157, LN_157, P0_157_0, P0_157_1, P0_157_2, P0_157_12, P0_157_16, P0_157_17, P0_157_18, P0_157_19, P0_157_20, P0_157_21, P0_157_22, P0_157_24, P0_157_25, P0_157_29, P0_157_30, P0_157_31, P0_157_32, KD_158, LN_158, va_rf_some, e, e', xin_o (by omega : 8 * l + k < 2147483648), h, true_and, o_cl (by omega : 8 * l + k < 2147483648)]
theorem s_ofThing {l k : Nat} (h : 48 + 3 * l + k < 461) : XM E d 112 [.ref 157, .int (o l), .int (o k)] I J Q = Q (some (.int (I 158 (48 + 3 * l + k)))) I J := by
  have e : 48 + (o l * 3) + o k = o (48 + 3 * l + k) := by rw [o_lit3, o_mul, o_lit48, o_add, o_add]; congr 1; omega
  have e' : 48 + (3 * o l) + o k = o (48 + 3 * l + k) := by rw [o_lit3, o_mul, o_lit48, o_add, o_add]
  simp only [mM_ofThing, eM_ofThing_0, eM_ofThing_1, eM_ofThing_4, eM_ofThing_6, eM_ofThing_7, eM_ofThing_8, eM_ofThing_9, eM_ofThing_10, eM_ofThing_11, eM_ofThing_12, eM_ofThing_13, KD_157, LN_157, P0_157_0, P0_157_1, P0_157_2, P0_157_12, P0_157_16, P0_157_17, P0_157_18, P0_157_19, P0_157_20, P0_157_21, P0_157_22, P0_157_24, P0_157_25, P0_157_29, P0_157_30, P0_157_31, P0_157_32, KD_158, LN_158, va_rf_some, e, e', xin_o (by omega : 48 + 3 * l + k < 2147483648), h, true_and, o_cl (by omega : 48 + 3 * l + k < 2147483648)]
theorem s_number {k : Nat} (h : 66 + k < 461) : XM E d 113 [.ref 157, .int (o k)] I J Q = Q (some (.int (I 158 (66 + k)))) I J := by
  have e : 66 + o k = o (66 + k) := by rw [o_lit66, o_add]
  simp only [mM_number, eM_number_0, eM_number_1, eM_number_4, eM_number_6, eM_number_7, eM_number_8, eM_number_9, KD_157, LN_157, P0_157_0, P0_157_1, P0_157_2, P0_157_12, P0_157_16, P0_157_17, P0_157_18, P0_157_19, P0_157_20, P0_157_21, P0_157_22, P0_157_24, P0_157_25, P0_157_29, P0_157_30, P0_157_31, P0_157_32, KD_158, LN_158, va_rf_some, e, xin_o (by omega : 66 + k < 2147483648), h, true_and, o_cl (by omega : 66 + k < 2147483648)]
theorem s_of {l k : Nat} (h : 72 + 8 * l + k < 461) : XM E d 114 [.ref 157, .int (o l), .int (o k)] I J Q = Q (some (.int (I 158 (72 + 8 * l + k)))) I J := by
  have e : 72 + (o l * 8) + o k = o (72 + 8 * l + k) := by rw [o_lit8, o_mul, o_lit72, o_add, o_add]; congr 1; omega
  have e' : 72 + (8 * o l) + o k = o (72 + 8 * l + k) := by rw [o_lit8, o_mul, o_lit72, o_add, o_add]
  simp only [mM_of, eM_of_0, eM_of_1, eM_of_4, eM_of_6, eM_of_8, eM_of_9, eM_of_10, eM_of_11, eM_of_12, eM_of_13, eM_of_14, KD_157, LN_157, P0_157_0, P0_157_1, P0_157_2, P0_157_12, P0_157_16, P0_157_17, P0_157_18, P0_157_19, P0_157_20, P0_157_21, P0_157_22, P0_157_24, P0_157_25, P0_157_29, P0_157_30, P0_157_31, P0_157_32, KD_158, LN_158, va_rf_some, e, e', xin_o (by omega : 72 + 8 * l + k < 2147483648), h, true_and, o_cl (by omega : 72 + 8 * l + k < 2147483648)]
theorem s_misText {x : Int32} : XM E (d + 1) 123 [.int x] I J Q = Q (some (.int (bI (decide (0 ≤ x.toInt ∧ x.toInt ≤ 1))))) I J := by
  simp only [mM_isText, eM_isText_0, eM_isText_1, eM_isText_2, eM_isText_3, eM_isText_4, eM_isText_7, s_in, tl_some, t32_64, Int64.reduceToInt, nar_b]
theorem s_misMany {x : Int32} : XM E (d + 1) 162 [.int x] I J Q = Q (some (.int (bI (decide (0 ≤ x.toInt ∧ x.toInt ≤ 4))))) I J := by
  simp only [mM_isMany, eM_isMany_0, eM_isMany_1, eM_isMany_2, eM_isMany_3, eM_isMany_6, eM_isMany_9, s_in, tl_some, t32_64, Int64.reduceToInt, nar_b]
theorem s_textLong {l : Nat} (h : l < 2) : XM E d 124 [.ref 157, .int (o l)] I J Q = Q (some (.int (I 158 (136 + 161 * l)))) I J := by
  have e : 136 + (161 * o l) = o (136 + 161 * l) := by rw [o_lit161, o_mul, o_lit136, o_add]
  simp only [mM_textLong, eM_textLong_0, eM_textLong_1, eM_textLong_4, eM_textLong_7, eM_textLong_10, eM_textLong_11, eM_textLong_12, eM_textLong_13, eM_textLong_14, KD_157, LN_157, P0_157_0, P0_157_1, P0_157_2, P0_157_12, P0_157_16, P0_157_17, P0_157_18, P0_157_19, P0_157_20, P0_157_21, P0_157_22, P0_157_24, P0_157_25, P0_157_29, P0_157_30, P0_157_31, P0_157_32, KD_158, LN_158, va_rf_some, e, xin_o (by omega : 136 + 161 * l < 2147483648), (by omega : 136 + 161 * l < 461), true_and, o_cl (by omega : 136 + 161 * l < 2147483648)]
theorem s_byteAt {l k : Nat} (h : l < 2) (hk : k < 160) : XM E d 125 [.ref 157, .int (o l), .int (o k)] I J Q = Q (some (.int (I 158 (137 + 161 * l + k)))) I J := by
  have e : 136 + (161 * o l) + 1 + o k = o (137 + 161 * l + k) := by rw [o_lit161, o_mul, o_lit136, o_add, o_lit1, o_add, o_add]; congr 1; omega
  simp only [mM_byteAt, eM_byteAt_0, eM_byteAt_1, eM_byteAt_4, eM_byteAt_7, eM_byteAt_10, eM_byteAt_11, eM_byteAt_12, eM_byteAt_13, eM_byteAt_14, eM_byteAt_15, eM_byteAt_16, eM_byteAt_17, eM_byteAt_18, KD_157, LN_157, P0_157_0, P0_157_1, P0_157_2, P0_157_12, P0_157_16, P0_157_17, P0_157_18, P0_157_19, P0_157_20, P0_157_21, P0_157_22, P0_157_24, P0_157_25, P0_157_29, P0_157_30, P0_157_31, P0_157_32, KD_158, LN_158, va_rf_some, e, xin_o (by omega : 137 + 161 * l + k < 2147483648), (by omega : 137 + 161 * l + k < 461), true_and, o_cl (by omega : 137 + 161 * l + k < 2147483648)]
theorem s_isText {x : Int32} : XM E (d + 1) 76 [.int x] I J Q = Q (some (.int (bI (decide (0 ≤ x.toInt ∧ x.toInt ≤ 1))))) I J := by
  simp only [mKT_isText, eKT_isText_0, eKT_isText_1, eKT_isText_2, eKT_isText_3, eKT_isText_6, s_within, tl_some, Int32.reduceToInt, nar_b]
theorem s_isActs {x : Int32} : XM E (d + 1) 90 [.int x] I J Q = Q (some (.int (bI (decide (0 ≤ x.toInt ∧ x.toInt ≤ 4))))) I J := by
  simp only [mKT_isActs, eKT_isActs_0, eKT_isActs_1, eKT_isActs_2, eKT_isActs_3, eKT_isActs_6, s_within, tl_some, Int32.reduceToInt, nar_b]
theorem s_isImage {x : Int32} : XM E (d + 1) 100 [.int x] I J Q = Q (some (.int (bI (decide (0 ≤ x.toInt ∧ x.toInt ≤ 1))))) I J := by
  simp only [mKT_isImage, eKT_isImage_0, eKT_isImage_1, eKT_isImage_2, eKT_isImage_3, eKT_isImage_6, s_within, tl_some, Int32.reduceToInt, nar_b]
theorem ofL_0 {l : Nat} (h : 8 * l + 0 < 461) : XM E d 111 [.ref 157, .int (o l), .int 0] I J Q = Q (some (.int (I 158 (8 * l + 0)))) I J := s_ofLanding h
theorem ofL_1 {l : Nat} (h : 8 * l + 1 < 461) : XM E d 111 [.ref 157, .int (o l), .int 1] I J Q = Q (some (.int (I 158 (8 * l + 1)))) I J := s_ofLanding h
theorem ofL_2 {l : Nat} (h : 8 * l + 2 < 461) : XM E d 111 [.ref 157, .int (o l), .int 2] I J Q = Q (some (.int (I 158 (8 * l + 2)))) I J := s_ofLanding h
theorem ofL_3 {l : Nat} (h : 8 * l + 3 < 461) : XM E d 111 [.ref 157, .int (o l), .int 3] I J Q = Q (some (.int (I 158 (8 * l + 3)))) I J := s_ofLanding h
theorem ofL_4 {l : Nat} (h : 8 * l + 4 < 461) : XM E d 111 [.ref 157, .int (o l), .int 4] I J Q = Q (some (.int (I 158 (8 * l + 4)))) I J := s_ofLanding h
theorem ofL_5 {l : Nat} (h : 8 * l + 5 < 461) : XM E d 111 [.ref 157, .int (o l), .int 5] I J Q = Q (some (.int (I 158 (8 * l + 5)))) I J := s_ofLanding h
theorem ofL_6 {l : Nat} (h : 8 * l + 6 < 461) : XM E d 111 [.ref 157, .int (o l), .int 6] I J Q = Q (some (.int (I 158 (8 * l + 6)))) I J := s_ofLanding h
theorem ofL_7 {l : Nat} (h : 8 * l + 7 < 461) : XM E d 111 [.ref 157, .int (o l), .int 7] I J Q = Q (some (.int (I 158 (8 * l + 7)))) I J := s_ofLanding h
theorem ofT_0 {l : Nat} (h : 48 + 3 * l + 0 < 461) : XM E d 112 [.ref 157, .int (o l), .int 0] I J Q = Q (some (.int (I 158 (48 + 3 * l + 0)))) I J := s_ofThing h
theorem ofT_1 {l : Nat} (h : 48 + 3 * l + 1 < 461) : XM E d 112 [.ref 157, .int (o l), .int 1] I J Q = Q (some (.int (I 158 (48 + 3 * l + 1)))) I J := s_ofThing h
theorem ofT_2 {l : Nat} (h : 48 + 3 * l + 2 < 461) : XM E d 112 [.ref 157, .int (o l), .int 2] I J Q = Q (some (.int (I 158 (48 + 3 * l + 2)))) I J := s_ofThing h
theorem ofC_0 {l : Nat} (h : 72 + 8 * l + 0 < 461) : XM E d 114 [.ref 157, .int (o l), .int 0] I J Q = Q (some (.int (I 158 (72 + 8 * l + 0)))) I J := s_of h
theorem ofC_1 {l : Nat} (h : 72 + 8 * l + 1 < 461) : XM E d 114 [.ref 157, .int (o l), .int 1] I J Q = Q (some (.int (I 158 (72 + 8 * l + 1)))) I J := s_of h
theorem ofC_2 {l : Nat} (h : 72 + 8 * l + 2 < 461) : XM E d 114 [.ref 157, .int (o l), .int 2] I J Q = Q (some (.int (I 158 (72 + 8 * l + 2)))) I J := s_of h
theorem ofC_3 {l : Nat} (h : 72 + 8 * l + 3 < 461) : XM E d 114 [.ref 157, .int (o l), .int 3] I J Q = Q (some (.int (I 158 (72 + 8 * l + 3)))) I J := s_of h
theorem ofC_4 {l : Nat} (h : 72 + 8 * l + 4 < 461) : XM E d 114 [.ref 157, .int (o l), .int 4] I J Q = Q (some (.int (I 158 (72 + 8 * l + 4)))) I J := s_of h
theorem ofC_5 {l : Nat} (h : 72 + 8 * l + 5 < 461) : XM E d 114 [.ref 157, .int (o l), .int 5] I J Q = Q (some (.int (I 158 (72 + 8 * l + 5)))) I J := s_of h
theorem ofC_6 {l : Nat} (h : 72 + 8 * l + 6 < 461) : XM E d 114 [.ref 157, .int (o l), .int 6] I J Q = Q (some (.int (I 158 (72 + 8 * l + 6)))) I J := s_of h
theorem ofC_7 {l : Nat} (h : 72 + 8 * l + 7 < 461) : XM E d 114 [.ref 157, .int (o l), .int 7] I J Q = Q (some (.int (I 158 (72 + 8 * l + 7)))) I J := s_of h
theorem num_0 : XM E d 113 [.ref 157, .int 0] I J Q = Q (some (.int (I 158 66))) I J := s_number (k := 0) (by omega)
theorem num_1 : XM E d 113 [.ref 157, .int 1] I J Q = Q (some (.int (I 158 67))) I J := s_number (k := 1) (by omega)
theorem num_2 : XM E d 113 [.ref 157, .int 2] I J Q = Q (some (.int (I 158 68))) I J := s_number (k := 2) (by omega)
theorem num_3 : XM E d 113 [.ref 157, .int 3] I J Q = Q (some (.int (I 158 69))) I J := s_number (k := 3) (by omega)
theorem num_4 : XM E d 113 [.ref 157, .int 4] I J Q = Q (some (.int (I 158 70))) I J := s_number (k := 4) (by omega)
theorem num_5 : XM E d 113 [.ref 157, .int 5] I J Q = Q (some (.int (I 158 71))) I J := s_number (k := 5) (by omega)
end
