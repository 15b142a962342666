/-! SMALL NUMBERS, TRUTH VALUES, THE SHAPE'S FACTS -/
def o (n : Nat) : Int32 := Int32.ofNat n
theorem o_def (n : Nat) : Int32.ofNat n = o n := rfl
theorem o_toInt {n : Nat} (h : n < 2147483648) : (o n).toInt = n := Int32.toInt_ofNat_of_lt h
theorem o_cl {n : Nat} (h : n < 2147483648) : (o n).toNatClampNeg = n := Int32.toNatClampNeg_ofNat_of_lt h
theorem o_lt {a b : Nat} (ha : a < 2147483648) (hb : b < 2147483648) : (o a < o b) = (a < b) := by
  rw [Int32.lt_iff_toInt_lt, o_toInt ha, o_toInt hb]
  exact propext (by omega)
theorem o_le {a b : Nat} (ha : a < 2147483648) (hb : b < 2147483648) : (o a ≤ o b) = (a ≤ b) := by
  rw [Int32.le_iff_toInt_le, o_toInt ha, o_toInt hb]
  exact propext (by omega)
theorem o_eq {a b : Nat} (ha : a < 2147483648) (hb : b < 2147483648) : (o a = o b) = (a = b) := by
  rw [← Int32.toInt_inj, o_toInt ha, o_toInt hb]
  exact propext (by omega)
theorem o_add (a b : Nat) : o a + o b = o (a + b) := (Int32.ofNat_add a b).symm
theorem o_mul (a b : Nat) : o a * o b = o (a * b) := (Int32.ofNat_mul a b).symm
theorem o_sub {a b : Nat} (h : b ≤ a) : o a - o b = o (a - b) := (Int32.ofNat_sub a b h).symm
theorem o_add1 (a : Nat) : o a + 1 = o (a + 1) := (Int32.ofNat_add a 1).symm
theorem o_sub1 (a : Nat) : o (a + 1) - 1 = o a := by
  have h := o_sub (a := a + 1) (b := 1) (by omega)
  exact h
theorem o_neg {a : Nat} (ha : a < 2147483648) : ¬ o a < 0 := by
  rw [Int32.lt_iff_toInt_lt, o_toInt ha]
  have : (0 : Int32).toInt = 0 := rfl
  omega
theorem o_nn {a : Nat} (ha : a < 2147483648) : 0 ≤ o a := by
  rw [Int32.le_iff_toInt_le, o_toInt ha]
  have : (0 : Int32).toInt = 0 := rfl
  omega
theorem o_of {x : Int32} (h : 0 ≤ x) : x = o x.toNatClampNeg := (Int32.ofNat_toNatClampNeg x h).symm
theorem o_ex {x : Int32} (h : 0 ≤ x) : ∃ n, n < 2147483648 ∧ x = o n := ⟨x.toNatClampNeg, x.toNatClampNeg_lt, o_of h⟩
theorem o_ex2 {x : Int32} {n : Nat} (h : 0 ≤ x) (hx : x < o n) (hn : n < 2147483648) : ∃ j, j < n ∧ x = o j := by
  obtain ⟨j, hj, rfl⟩ := o_ex h
  rw [o_lt hj hn] at hx
  exact ⟨j, hx, rfl⟩
theorem xin_o {j n : Nat} (h : j < 2147483648) : (xin (o j) n = true) = (j < n) := by
  unfold xin
  rw [decide_eq_true_eq, o_cl h]
  have := o_neg h
  simp only [this, false_or, Nat.not_le]
def bI (b : Bool) : Int32 := if b = true then 1 else 0
theorem bI_0 (b : Bool) : (bI b = 0) = (b = false) := by cases b <;> decide
theorem bI_1 (b : Bool) : (bI b = 1) = (b = true) := by cases b <;> decide
theorem nar_0 : narrow .boolean (.int 0) = .int 0 := by decide
theorem nar_1 : narrow .boolean (.int 1) = .int 1 := by decide
theorem nar_b (b : Bool) : narrow .boolean (.int (bI b)) = .int (bI b) := by cases b <;> decide
theorem bIt : (1 : Int32) = bI true := rfl
theorem bIf : (0 : Int32) = bI false := rfl
theorem xn_mono {E : XE} {d y pc : Nat} {ls st : List Value} {I : Nat → Nat → Int32} {J : Nat → Nat → Int64} {Q Q' : XQt} (h : ∀ r I J, Q r I J → Q' r I J) (hx : X E d y pc ls st I J Q) : X E d y pc ls st I J Q' := by
  unfold X at hx ⊢
  exact Ev_imp (fun r h' ⟨I', J', e, q⟩ => ⟨I', J', e, h _ _ _ q⟩) hx
theorem xu_self {I : Nat → Nat → Int32} {a k : Nat} {x : Int32} : xuI I a k x a k = x := if_pos ⟨rfl, rfl⟩
theorem xu_ne {I : Nat → Nat → Int32} {a k b j : Nat} {x : Int32} (h : ¬ (b = a ∧ j = k)) : xuI I a k x b j = I b j := if_neg h
theorem xuI_ap {I : Nat → Nat → Int32} {a k b j : Nat} {x : Int32} : xuI I a k x b j = if b = a ∧ j = k then x else I b j := rfl
theorem xuJ_ap {I : Nat → Nat → Int64} {a k b j : Nat} {x : Int64} : xuJ I a k x b j = if b = a ∧ j = k then x else I b j := rfl
theorem xcI_ap {I : Nat → Nat → Int32} {a0 sp a dp n b j : Nat} : xcI I a0 sp a dp n b j = if b = a ∧ dp ≤ j ∧ j < dp + n then I a0 (sp + (j - dp)) else I b j := rfl
theorem KD_0 : KD 0 = 8 := by decide +kernel
theorem LN_0 : LN 0 = 8 := by decide +kernel
theorem KD_1 : KD 1 = 2 := by decide +kernel
theorem LN_1 : LN 1 = 5 := by decide +kernel
theorem KD_2 : KD 2 = 5 := by decide +kernel
theorem LN_2 : LN 2 = 3 := by decide +kernel
theorem KD_3 : KD 3 = 17 := by decide +kernel
theorem LN_3 : LN 3 = 6 := by decide +kernel
theorem KD_4 : KD 4 = 10 := by decide +kernel
theorem LN_4 : LN 4 = 7 := by decide +kernel
theorem KD_5 : KD 5 = 10 := by decide +kernel
theorem LN_5 : LN 5 = 7 := by decide +kernel
theorem KD_6 : KD 6 = 10 := by decide +kernel
theorem LN_6 : LN 6 = 7 := by decide +kernel
theorem KD_7 : KD 7 = 10 := by decide +kernel
theorem LN_7 : LN 7 = 7 := by decide +kernel
theorem KD_8 : KD 8 = 10 := by decide +kernel
theorem LN_8 : LN 8 = 7 := by decide +kernel
theorem KD_9 : KD 9 = 10 := by decide +kernel
theorem LN_9 : LN 9 = 7 := by decide +kernel
theorem KD_10 : KD 10 = 5 := by decide +kernel
theorem LN_10 : LN 10 = 3 := by decide +kernel
theorem KD_11 : KD 11 = 17 := by decide +kernel
theorem LN_11 : LN 11 = 6 := by decide +kernel
theorem KD_12 : KD 12 = 10 := by decide +kernel
theorem LN_12 : LN 12 = 3 := by decide +kernel
theorem KD_13 : KD 13 = 10 := by decide +kernel
theorem LN_13 : LN 13 = 3 := by decide +kernel
theorem KD_14 : KD 14 = 10 := by decide +kernel
theorem LN_14 : LN 14 = 3 := by decide +kernel
theorem KD_15 : KD 15 = 10 := by decide +kernel
theorem LN_15 : LN 15 = 3 := by decide +kernel
theorem KD_16 : KD 16 = 10 := by decide +kernel
theorem LN_16 : LN 16 = 3 := by decide +kernel
theorem KD_17 : KD 17 = 10 := by decide +kernel
theorem LN_17 : LN 17 = 3 := by decide +kernel
theorem KD_18 : KD 18 = 5 := by decide +kernel
theorem LN_18 : LN 18 = 3 := by decide +kernel
theorem KD_19 : KD 19 = 17 := by decide +kernel
theorem LN_19 : LN 19 = 8 := by decide +kernel
theorem KD_20 : KD 20 = 10 := by decide +kernel
theorem LN_20 : LN 20 = 8 := by decide +kernel
theorem KD_21 : KD 21 = 10 := by decide +kernel
theorem LN_21 : LN 21 = 8 := by decide +kernel
theorem KD_22 : KD 22 = 10 := by decide +kernel
theorem LN_22 : LN 22 = 8 := by decide +kernel
theorem KD_23 : KD 23 = 10 := by decide +kernel
theorem LN_23 : LN 23 = 8 := by decide +kernel
theorem KD_24 : KD 24 = 10 := by decide +kernel
theorem LN_24 : LN 24 = 8 := by decide +kernel
theorem KD_25 : KD 25 = 10 := by decide +kernel
theorem LN_25 : LN 25 = 8 := by decide +kernel
theorem KD_26 : KD 26 = 10 := by decide +kernel
theorem LN_26 : LN 26 = 8 := by decide +kernel
theorem KD_27 : KD 27 = 10 := by decide +kernel
theorem LN_27 : LN 27 = 8 := by decide +kernel
theorem KD_28 : KD 28 = 10 := by decide +kernel
theorem LN_28 : LN 28 = 6 := by decide +kernel
theorem KD_29 : KD 29 = 15 := by decide +kernel
theorem LN_29 : LN 29 = 2 := by decide +kernel
theorem KD_30 : KD 30 = 6 := by decide +kernel
theorem LN_30 : LN 30 = 2 := by decide +kernel
theorem KD_31 : KD 31 = 10 := by decide +kernel
theorem LN_31 : LN 31 = 160 := by decide +kernel
theorem KD_32 : KD 32 = 6 := by decide +kernel
theorem LN_32 : LN 32 = 2 := by decide +kernel
theorem KD_33 : KD 33 = 10 := by decide +kernel
theorem LN_33 : LN 33 = 160 := by decide +kernel
theorem KD_34 : KD 34 = 13 := by decide +kernel
theorem LN_34 : LN 34 = 2 := by decide +kernel
theorem KD_35 : KD 35 = 2 := by decide +kernel
theorem LN_35 : LN 35 = 5 := by decide +kernel
theorem KD_36 : KD 36 = 5 := by decide +kernel
theorem LN_36 : LN 36 = 3 := by decide +kernel
theorem KD_37 : KD 37 = 17 := by decide +kernel
theorem LN_37 : LN 37 = 6 := by decide +kernel
theorem KD_38 : KD 38 = 10 := by decide +kernel
theorem LN_38 : LN 38 = 7 := by decide +kernel
theorem KD_39 : KD 39 = 10 := by decide +kernel
theorem LN_39 : LN 39 = 7 := by decide +kernel
theorem KD_40 : KD 40 = 10 := by decide +kernel
theorem LN_40 : LN 40 = 7 := by decide +kernel
theorem KD_41 : KD 41 = 10 := by decide +kernel
theorem LN_41 : LN 41 = 7 := by decide +kernel
theorem KD_42 : KD 42 = 10 := by decide +kernel
theorem LN_42 : LN 42 = 7 := by decide +kernel
theorem KD_43 : KD 43 = 10 := by decide +kernel
theorem LN_43 : LN 43 = 7 := by decide +kernel
theorem KD_44 : KD 44 = 5 := by decide +kernel
theorem LN_44 : LN 44 = 3 := by decide +kernel
theorem KD_45 : KD 45 = 17 := by decide +kernel
theorem LN_45 : LN 45 = 6 := by decide +kernel
theorem KD_46 : KD 46 = 10 := by decide +kernel
theorem LN_46 : LN 46 = 3 := by decide +kernel
theorem KD_47 : KD 47 = 10 := by decide +kernel
theorem LN_47 : LN 47 = 3 := by decide +kernel
theorem KD_48 : KD 48 = 10 := by decide +kernel
theorem LN_48 : LN 48 = 3 := by decide +kernel
theorem KD_49 : KD 49 = 10 := by decide +kernel
theorem LN_49 : LN 49 = 3 := by decide +kernel
theorem KD_50 : KD 50 = 10 := by decide +kernel
theorem LN_50 : LN 50 = 3 := by decide +kernel
theorem KD_51 : KD 51 = 10 := by decide +kernel
theorem LN_51 : LN 51 = 3 := by decide +kernel
theorem KD_52 : KD 52 = 5 := by decide +kernel
theorem LN_52 : LN 52 = 3 := by decide +kernel
theorem KD_53 : KD 53 = 17 := by decide +kernel
theorem LN_53 : LN 53 = 8 := by decide +kernel
theorem KD_54 : KD 54 = 10 := by decide +kernel
theorem LN_54 : LN 54 = 8 := by decide +kernel
theorem KD_55 : KD 55 = 10 := by decide +kernel
theorem LN_55 : LN 55 = 8 := by decide +kernel
theorem KD_56 : KD 56 = 10 := by decide +kernel
theorem LN_56 : LN 56 = 8 := by decide +kernel
theorem KD_57 : KD 57 = 10 := by decide +kernel
theorem LN_57 : LN 57 = 8 := by decide +kernel
theorem KD_58 : KD 58 = 10 := by decide +kernel
theorem LN_58 : LN 58 = 8 := by decide +kernel
theorem KD_59 : KD 59 = 10 := by decide +kernel
theorem LN_59 : LN 59 = 8 := by decide +kernel
theorem KD_60 : KD 60 = 10 := by decide +kernel
theorem LN_60 : LN 60 = 8 := by decide +kernel
theorem KD_61 : KD 61 = 10 := by decide +kernel
theorem LN_61 : LN 61 = 8 := by decide +kernel
theorem KD_62 : KD 62 = 10 := by decide +kernel
theorem LN_62 : LN 62 = 6 := by decide +kernel
theorem KD_63 : KD 63 = 15 := by decide +kernel
theorem LN_63 : LN 63 = 2 := by decide +kernel
theorem KD_64 : KD 64 = 6 := by decide +kernel
theorem LN_64 : LN 64 = 2 := by decide +kernel
theorem KD_65 : KD 65 = 10 := by decide +kernel
theorem LN_65 : LN 65 = 160 := by decide +kernel
theorem KD_66 : KD 66 = 6 := by decide +kernel
theorem LN_66 : LN 66 = 2 := by decide +kernel
theorem KD_67 : KD 67 = 10 := by decide +kernel
theorem LN_67 : LN 67 = 160 := by decide +kernel
theorem KD_68 : KD 68 = 2 := by decide +kernel
theorem LN_68 : LN 68 = 5 := by decide +kernel
theorem KD_69 : KD 69 = 5 := by decide +kernel
theorem LN_69 : LN 69 = 3 := by decide +kernel
theorem KD_70 : KD 70 = 17 := by decide +kernel
theorem LN_70 : LN 70 = 6 := by decide +kernel
theorem KD_71 : KD 71 = 10 := by decide +kernel
theorem LN_71 : LN 71 = 7 := by decide +kernel
theorem KD_72 : KD 72 = 10 := by decide +kernel
theorem LN_72 : LN 72 = 7 := by decide +kernel
theorem KD_73 : KD 73 = 10 := by decide +kernel
theorem LN_73 : LN 73 = 7 := by decide +kernel
theorem KD_74 : KD 74 = 10 := by decide +kernel
theorem LN_74 : LN 74 = 7 := by decide +kernel
theorem KD_75 : KD 75 = 10 := by decide +kernel
theorem LN_75 : LN 75 = 7 := by decide +kernel
theorem KD_76 : KD 76 = 10 := by decide +kernel
theorem LN_76 : LN 76 = 7 := by decide +kernel
theorem KD_77 : KD 77 = 5 := by decide +kernel
theorem LN_77 : LN 77 = 3 := by decide +kernel
theorem KD_78 : KD 78 = 17 := by decide +kernel
theorem LN_78 : LN 78 = 6 := by decide +kernel
theorem KD_79 : KD 79 = 10 := by decide +kernel
theorem LN_79 : LN 79 = 3 := by decide +kernel
theorem KD_80 : KD 80 = 10 := by decide +kernel
theorem LN_80 : LN 80 = 3 := by decide +kernel
theorem KD_81 : KD 81 = 10 := by decide +kernel
theorem LN_81 : LN 81 = 3 := by decide +kernel
theorem KD_82 : KD 82 = 10 := by decide +kernel
theorem LN_82 : LN 82 = 3 := by decide +kernel
theorem KD_83 : KD 83 = 10 := by decide +kernel
theorem LN_83 : LN 83 = 3 := by decide +kernel
theorem KD_84 : KD 84 = 10 := by decide +kernel
theorem LN_84 : LN 84 = 3 := by decide +kernel
theorem KD_85 : KD 85 = 5 := by decide +kernel
theorem LN_85 : LN 85 = 3 := by decide +kernel
theorem KD_86 : KD 86 = 17 := by decide +kernel
theorem LN_86 : LN 86 = 8 := by decide +kernel
theorem KD_87 : KD 87 = 10 := by decide +kernel
theorem LN_87 : LN 87 = 8 := by decide +kernel
theorem KD_88 : KD 88 = 10 := by decide +kernel
theorem LN_88 : LN 88 = 8 := by decide +kernel
theorem KD_89 : KD 89 = 10 := by decide +kernel
theorem LN_89 : LN 89 = 8 := by decide +kernel
theorem KD_90 : KD 90 = 10 := by decide +kernel
theorem LN_90 : LN 90 = 8 := by decide +kernel
theorem KD_91 : KD 91 = 10 := by decide +kernel
theorem LN_91 : LN 91 = 8 := by decide +kernel
theorem KD_92 : KD 92 = 10 := by decide +kernel
theorem LN_92 : LN 92 = 8 := by decide +kernel
theorem KD_93 : KD 93 = 10 := by decide +kernel
theorem LN_93 : LN 93 = 8 := by decide +kernel
theorem KD_94 : KD 94 = 10 := by decide +kernel
theorem LN_94 : LN 94 = 8 := by decide +kernel
theorem KD_95 : KD 95 = 10 := by decide +kernel
theorem LN_95 : LN 95 = 6 := by decide +kernel
theorem KD_96 : KD 96 = 15 := by decide +kernel
theorem LN_96 : LN 96 = 2 := by decide +kernel
theorem KD_97 : KD 97 = 6 := by decide +kernel
theorem LN_97 : LN 97 = 2 := by decide +kernel
theorem KD_98 : KD 98 = 10 := by decide +kernel
theorem LN_98 : LN 98 = 160 := by decide +kernel
theorem KD_99 : KD 99 = 6 := by decide +kernel
theorem LN_99 : LN 99 = 2 := by decide +kernel
theorem KD_100 : KD 100 = 10 := by decide +kernel
theorem LN_100 : LN 100 = 160 := by decide +kernel
theorem KD_101 : KD 101 = 12 := by decide +kernel
theorem LN_101 : LN 101 = 2 := by decide +kernel
theorem KD_102 : KD 102 = 14 := by decide +kernel
theorem LN_102 : LN 102 = 2 := by decide +kernel
theorem KD_103 : KD 103 = 4 := by decide +kernel
theorem LN_103 : LN 103 = 4 := by decide +kernel
theorem KD_104 : KD 104 = 10 := by decide +kernel
theorem LN_104 : LN 104 = 54 := by decide +kernel
theorem KD_105 : KD 105 = 10 := by decide +kernel
theorem LN_105 : LN 105 = 54 := by decide +kernel
theorem KD_106 : KD 106 = 10 := by decide +kernel
theorem LN_106 : LN 106 = 54 := by decide +kernel
theorem KD_107 : KD 107 = 4 := by decide +kernel
theorem LN_107 : LN 107 = 4 := by decide +kernel
theorem KD_108 : KD 108 = 10 := by decide +kernel
theorem LN_108 : LN 108 = 54 := by decide +kernel
theorem KD_109 : KD 109 = 10 := by decide +kernel
theorem LN_109 : LN 109 = 54 := by decide +kernel
theorem KD_110 : KD 110 = 10 := by decide +kernel
theorem LN_110 : LN 110 = 54 := by decide +kernel
theorem KD_111 : KD 111 = 7 := by decide +kernel
theorem LN_111 : LN 111 = 10 := by decide +kernel
theorem KD_112 : KD 112 = 10 := by decide +kernel
theorem LN_112 : LN 112 = 6 := by decide +kernel
theorem KD_113 : KD 113 = 10 := by decide +kernel
theorem LN_113 : LN 113 = 6 := by decide +kernel
theorem KD_114 : KD 114 = 10 := by decide +kernel
theorem LN_114 : LN 114 = 8 := by decide +kernel
theorem KD_115 : KD 115 = 10 := by decide +kernel
theorem LN_115 : LN 115 = 8 := by decide +kernel
theorem KD_116 : KD 116 = 10 := by decide +kernel
theorem LN_116 : LN 116 = 8 := by decide +kernel
theorem KD_117 : KD 117 = 3 := by decide +kernel
theorem LN_117 : LN 117 = 7 := by decide +kernel
theorem KD_118 : KD 118 = 10 := by decide +kernel
theorem LN_118 : LN 118 = 4 := by decide +kernel
theorem KD_119 : KD 119 = 10 := by decide +kernel
theorem LN_119 : LN 119 = 4 := by decide +kernel
theorem KD_120 : KD 120 = 16 := by decide +kernel
theorem LN_120 : LN 120 = 5 := by decide +kernel
theorem KD_121 : KD 121 = 7 := by decide +kernel
theorem LN_121 : LN 121 = 10 := by decide +kernel
theorem KD_122 : KD 122 = 10 := by decide +kernel
theorem LN_122 : LN 122 = 6 := by decide +kernel
theorem KD_123 : KD 123 = 10 := by decide +kernel
theorem LN_123 : LN 123 = 6 := by decide +kernel
theorem KD_124 : KD 124 = 10 := by decide +kernel
theorem LN_124 : LN 124 = 8 := by decide +kernel
theorem KD_125 : KD 125 = 10 := by decide +kernel
theorem LN_125 : LN 125 = 8 := by decide +kernel
theorem KD_126 : KD 126 = 10 := by decide +kernel
theorem LN_126 : LN 126 = 8 := by decide +kernel
theorem KD_127 : KD 127 = 7 := by decide +kernel
theorem LN_127 : LN 127 = 10 := by decide +kernel
theorem KD_128 : KD 128 = 10 := by decide +kernel
theorem LN_128 : LN 128 = 6 := by decide +kernel
theorem KD_129 : KD 129 = 10 := by decide +kernel
theorem LN_129 : LN 129 = 6 := by decide +kernel
theorem KD_130 : KD 130 = 10 := by decide +kernel
theorem LN_130 : LN 130 = 8 := by decide +kernel
theorem KD_131 : KD 131 = 10 := by decide +kernel
theorem LN_131 : LN 131 = 8 := by decide +kernel
theorem KD_132 : KD 132 = 10 := by decide +kernel
theorem LN_132 : LN 132 = 8 := by decide +kernel
theorem KD_133 : KD 133 = 7 := by decide +kernel
theorem LN_133 : LN 133 = 10 := by decide +kernel
theorem KD_134 : KD 134 = 10 := by decide +kernel
theorem LN_134 : LN 134 = 6 := by decide +kernel
theorem KD_135 : KD 135 = 10 := by decide +kernel
theorem LN_135 : LN 135 = 6 := by decide +kernel
theorem KD_136 : KD 136 = 10 := by decide +kernel
theorem LN_136 : LN 136 = 8 := by decide +kernel
theorem KD_137 : KD 137 = 10 := by decide +kernel
theorem LN_137 : LN 137 = 8 := by decide +kernel
theorem KD_138 : KD 138 = 10 := by decide +kernel
theorem LN_138 : LN 138 = 8 := by decide +kernel
theorem KD_139 : KD 139 = 7 := by decide +kernel
theorem LN_139 : LN 139 = 10 := by decide +kernel
theorem KD_140 : KD 140 = 10 := by decide +kernel
theorem LN_140 : LN 140 = 6 := by decide +kernel
theorem KD_141 : KD 141 = 10 := by decide +kernel
theorem LN_141 : LN 141 = 6 := by decide +kernel
theorem KD_142 : KD 142 = 10 := by decide +kernel
theorem LN_142 : LN 142 = 8 := by decide +kernel
theorem KD_143 : KD 143 = 10 := by decide +kernel
theorem LN_143 : LN 143 = 8 := by decide +kernel
theorem KD_144 : KD 144 = 10 := by decide +kernel
theorem LN_144 : LN 144 = 8 := by decide +kernel
theorem KD_145 : KD 145 = 7 := by decide +kernel
theorem LN_145 : LN 145 = 10 := by decide +kernel
theorem KD_146 : KD 146 = 10 := by decide +kernel
theorem LN_146 : LN 146 = 6 := by decide +kernel
theorem KD_147 : KD 147 = 10 := by decide +kernel
theorem LN_147 : LN 147 = 6 := by decide +kernel
theorem KD_148 : KD 148 = 10 := by decide +kernel
theorem LN_148 : LN 148 = 8 := by decide +kernel
theorem KD_149 : KD 149 = 10 := by decide +kernel
theorem LN_149 : LN 149 = 8 := by decide +kernel
theorem KD_150 : KD 150 = 10 := by decide +kernel
theorem LN_150 : LN 150 = 8 := by decide +kernel
theorem KD_151 : KD 151 = 1 := by decide +kernel
theorem LN_151 : LN 151 = 8 := by decide +kernel
theorem KD_152 : KD 152 = 10 := by decide +kernel
theorem LN_152 : LN 152 = 6 := by decide +kernel
theorem KD_153 : KD 153 = 10 := by decide +kernel
theorem LN_153 : LN 153 = 6 := by decide +kernel
theorem KD_154 : KD 154 = 11 := by decide +kernel
theorem LN_154 : LN 154 = 6 := by decide +kernel
theorem KD_155 : KD 155 = 11 := by decide +kernel
theorem LN_155 : LN 155 = 6 := by decide +kernel
theorem KD_156 : KD 156 = 0 := by decide +kernel
theorem LN_156 : LN 156 = 2 := by decide +kernel
theorem KD_157 : KD 157 = 9 := by decide +kernel
theorem LN_157 : LN 157 = 34 := by decide +kernel
theorem KD_158 : KD 158 = 10 := by decide +kernel
theorem LN_158 : LN 158 = 461 := by decide +kernel
theorem KD_159 : KD 159 = 10 := by decide +kernel
theorem LN_159 : LN 159 = 922 := by decide +kernel
theorem KD_160 : KD 160 = 12 := by decide +kernel
theorem LN_160 : LN 160 = 2 := by decide +kernel
theorem KD_161 : KD 161 = 10 := by decide +kernel
theorem LN_161 : LN 161 = 6 := by decide +kernel
theorem KD_162 : KD 162 = 10 := by decide +kernel
theorem LN_162 : LN 162 = 8 := by decide +kernel
theorem KD_163 : KD 163 = 10 := by decide +kernel
theorem LN_163 : LN 163 = 8 := by decide +kernel
theorem KD_164 : KD 164 = 10 := by decide +kernel
theorem LN_164 : LN 164 = 8 := by decide +kernel
theorem KD_165 : KD 165 = 10 := by decide +kernel
theorem LN_165 : LN 165 = 6 := by decide +kernel
theorem KD_166 : KD 166 = 10 := by decide +kernel
theorem LN_166 : LN 166 = 6 := by decide +kernel
theorem KD_167 : KD 167 = 10 := by decide +kernel
theorem LN_167 : LN 167 = 6 := by decide +kernel
theorem KD_168 : KD 168 = 12 := by decide +kernel
theorem LN_168 : LN 168 = 6 := by decide +kernel
theorem KD_169 : KD 169 = 10 := by decide +kernel
theorem LN_169 : LN 169 = 8 := by decide +kernel
theorem KD_170 : KD 170 = 10 := by decide +kernel
theorem LN_170 : LN 170 = 8 := by decide +kernel
theorem KD_171 : KD 171 = 11 := by decide +kernel
theorem LN_171 : LN 171 = 6 := by decide +kernel
theorem KD_172 : KD 172 = 11 := by decide +kernel
theorem LN_172 : LN 172 = 6 := by decide +kernel
theorem KD_173 : KD 173 = 10 := by decide +kernel
theorem LN_173 : LN 173 = 4 := by decide +kernel
theorem KD_174 : KD 174 = 10 := by decide +kernel
theorem LN_174 : LN 174 = 4 := by decide +kernel
