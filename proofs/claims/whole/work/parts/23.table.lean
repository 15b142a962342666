/-! TABLES: has, isFull, add, copy, mix -/
theorem eFill_3 {E : XE} {d : Nat} {I : Nat → Nat → Int32} {J : Nat → Nat → Int64} {Q : XQt} {v0 v1 v2 v3 : Value} {a : Nat} {st : List Value} (ha : 10 ≤ KD a ∧ KD a < 18) : X E d 193 3 [v0, v1, v2, v3] (.ref a :: st) I J Q = X E d 193 4 [v0, v1, v2, v3] (.int (o (LN a)) :: st) I J Q := X_alen (by decide +kernel : dec 193 3 = some (.arraylength, 1)) ha
theorem eFillJ_3 {E : XE} {d : Nat} {I : Nat → Nat → Int32} {J : Nat → Nat → Int64} {Q : XQt} {v0 v1 v2 v3 v4 : Value} {a : Nat} {st : List Value} (ha : 10 ≤ KD a ∧ KD a < 18) : X E d 192 3 [v0, v1, v2, v3, v4] (.ref a :: st) I J Q = X E d 192 4 [v0, v1, v2, v3, v4] (.int (o (LN a)) :: st) I J Q := X_alen (by decide +kernel : dec 192 3 = some (.arraylength, 1)) ha
def TB (T w m : Nat) : Prop := KD T = 5 ∧ P0 T 0 = some (T + 1) ∧ KD (T + 1) = 17 ∧ LN (T + 1) = m ∧ ∀ k, k < m → P0 (T + 1) k = some (T + 2 + k) ∧ KD (T + 2 + k) = 10 ∧ LN (T + 2 + k) = w
section
variable {E : XE} {d : Nat} {I : Nat → Nat → Int32} {J : Nat → Nat → Int64} {Q : XQt}
theorem s_has {T w m : Nat} {x : Int32} (hT : TB T w m) : XM E d 26 [.ref T, .int x] I J Q = Q (some (.int (bI (decide (0 ≤ x ∧ x < I T 2))))) I J := by
  obtain ⟨h1, -⟩ := hT
  simp only [mTable_has, eTable_has_0, eTable_has_1, eTable_has_4, eTable_has_5, eTable_has_6, eTable_has_9, eTable_has_12, eTable_has_13, eTable_has_16, eTable_has_17, h1, nar_0, nar_1]
  by_cases h : x < 0
  · have h2 : ¬ 0 ≤ x := by rwa [Int32.not_le]
    simp only [h, if_true, h2, false_and, decide_false]
    rfl
  · have h2 : 0 ≤ x := by rwa [← Int32.not_lt]
    by_cases h3 : I T 2 ≤ x
    · have h4 : ¬ x < I T 2 := by rwa [Int32.not_lt]
      simp only [h, if_false, h3, if_true, h2, h4, and_false, decide_false]
      rfl
    · have h4 : x < I T 2 := by rwa [← Int32.not_le]
      simp only [h, if_false, h3, h2, h4, and_true, decide_true]
      rfl
theorem s_isFull {T w m : Nat} (hT : TB T w m) : XM E d 27 [.ref T] I J Q = Q (some (.int (bI (decide (o m ≤ I T 2))))) I J := by
  obtain ⟨h1, h2, h3, h4, -⟩ := hT
  simp only [mTable_isFull, eTable_isFull_0, eTable_isFull_1, eTable_isFull_4, eTable_isFull_5, eTable_isFull_8, eTable_isFull_9, eTable_isFull_12, eTable_isFull_13, eTable_isFull_16, eTable_isFull_17, h1, h2, va_rf_some, h3, h4, nar_0, nar_1, and_self, Nat.reduceLeDiff, Nat.reduceLT, o_def]
  by_cases h : I T 2 < o m
  · have h2 : ¬ o m ≤ I T 2 := by rwa [Int32.not_le]
    simp only [h, if_true, h2, decide_false]
    rfl
  · have h2 : o m ≤ I T 2 := by rwa [← Int32.not_lt]
    simp only [h, if_false, h2, decide_true]
    rfl
theorem fill_loop {a n : Nat} {x : Int32} (ha : KD a = 10) (hn : LN a = n) (hb : n < 2147483648) : ∀ (m j : Nat) (I : Nat → Nat → Int32), j + m = n → X E d 193 5 [.ref a, .int x, .int (o j), .int (o n)] [] I J Q = Q none (fun b k => if b = a ∧ j ≤ k ∧ k < n then x else I b k) J
  | 0, j, I, h => by
    have hj : n ≤ j := by omega
    simp only [eArrays_fill_53178_5, mArrays_fill_53178, eArrays_fill_53178_0, eArrays_fill_53178_1, eArrays_fill_53178_2, eArrays_fill_53178_4, eArrays_fill_53178_6, eArrays_fill_53178_7, eArrays_fill_53178_10, eArrays_fill_53178_11, eArrays_fill_53178_12, eArrays_fill_53178_13, eArrays_fill_53178_14, eArrays_fill_53178_17, eArrays_fill_53178_20, o_le hb (by omega : j < 2147483648), hj, if_true]
    congr 1
    funext b k
    rw [if_neg (by omega)]
  | m + 1, j, I, h => by
    have hj : ¬ n ≤ j := by omega
    have hj2 : j < n := by omega
    have hj3 : j < 2147483648 := by omega
    rw [eArrays_fill_53178_5]
    simp only [mArrays_fill_53178, eArrays_fill_53178_0, eArrays_fill_53178_1, eArrays_fill_53178_2, eArrays_fill_53178_4, eArrays_fill_53178_6, eArrays_fill_53178_7, eArrays_fill_53178_10, eArrays_fill_53178_11, eArrays_fill_53178_12, eArrays_fill_53178_13, eArrays_fill_53178_14, eArrays_fill_53178_17, eArrays_fill_53178_20, o_le hb hj3, hj, if_false, ha, hn, xin_o hj3, hj2, true_and, o_cl hj3, xkl_int, o_add1]
    rw [fill_loop ha hn hb m (j + 1) _ (by omega)]
    congr 1
    funext b k
    simp only [xuI_ap]
    grind
theorem s_fill {a n : Nat} {x : Int32} (ha : KD a = 10) (hn : LN a = n) (hb : n < 2147483648) : XM E d 193 [.ref a, .int x] I J Q = Q none (fun b k => if b = a ∧ k < n then x else I b k) J := by
  simp only [mArrays_fill_53178, eArrays_fill_53178_0, eArrays_fill_53178_1, eArrays_fill_53178_2, eArrays_fill_53178_4, eArrays_fill_53178_6, eArrays_fill_53178_7, eArrays_fill_53178_10, eArrays_fill_53178_11, eArrays_fill_53178_12, eArrays_fill_53178_13, eArrays_fill_53178_14, eArrays_fill_53178_17, eArrays_fill_53178_20, eFill_3 (by omega : 10 ≤ KD a ∧ KD a < 18), xkl_int, xkl_ref, hn]
  have := fill_loop (E := E) (d := d) (J := J) (Q := Q) (x := x) ha hn hb n 0 I (by omega)
  simp only [Nat.zero_le, true_and] at this
  exact this
end
def mixA (h : Int64) (f : Nat → Int32) : Nat → Int64
  | 0 => h
  | n + 1 => 31 * mixA h f n + (f n).toInt64
def mixT (h : Int64) (g : Nat → Nat → Int32) (w : Nat) : Nat → Int64
  | 0 => h
  | n + 1 => mixA (mixT h g w n) (g n) w
theorem TB_1 {T w m : Nat} (h : TB T w m) : KD T = 5 := h.1
section
variable {E : XE} {d : Nat} {I : Nat → Nat → Int32} {J : Nat → Nat → Int64} {Q : XQt}
theorem s_add {T w m n : Nat} (hT : TB T w m) (hs : I T 2 = o n) (hn : n < m) (hm : m < 1000) (hw : w < 1000) : XM E (d + 1) 28 [.ref T] I J Q = Q (some (.int (o n))) (xuI (fun b k => if b = T + 2 + n ∧ k < w then 0 else I b k) T 2 (o (n + 1))) J := by
  obtain ⟨h1, h2, h3, h4, h5⟩ := hT
  obtain ⟨h6, h7, h8⟩ := h5 n hn
  have hne : ¬ T = T + 2 + n := by omega
  simp only [mTable_add, eTable_add_0, eTable_add_1, eTable_add_4, eTable_add_5, eTable_add_8, eTable_add_9, eTable_add_10, eTable_add_13, eTable_add_14, eTable_add_15, eTable_add_18, eTable_add_19, eTable_add_20, eTable_add_23, eTable_add_24, eTable_add_27, eTable_add_28, eTable_add_29, h1, h2, h3, va_rf_some, and_self, Nat.reduceLeDiff, Nat.reduceLT, hs, h4, xin_o (by omega : n < 2147483648), hn, true_and, o_cl (by omega : n < 2147483648), h6, s_fill h7 h8 (by omega : w < 2147483648), tl_none, hne, false_and, if_false, o_add1, o_sub1, xu_self]
theorem mixAll_loop {a n : Nat} {v0 v1 : Value} (ha : KD a = 10) (hn : n ≤ LN a) (hb : LN a < 1000) (h0 : Int64) : ∀ (m j : Nat), j + m = n → X E d 102 6 [v0, v1, .ref a, .int (o n), .long (mixA h0 (I a) j), xdm, .int (o j)] [] I J Q = Q (some (.long (mixA h0 (I a) n))) I J
  | 0, j, h => by
    have hj : n ≤ j := by omega
    have e : j = n := by omega
    simp only [eKT_mixAll_6, mKT_mixAll, eKT_mixAll_0, eKT_mixAll_1, eKT_mixAll_3, eKT_mixAll_4, eKT_mixAll_8, eKT_mixAll_9, eKT_mixAll_12, eKT_mixAll_14, eKT_mixAll_15, eKT_mixAll_16, eKT_mixAll_19, eKT_mixAll_22, eKT_mixAll_24, eKT_mixAll_25, eKT_mixAll_26, eKT_mixAll_28, eKT_mixAll_29, eKT_mixAll_30, eKT_mixAll_31, eKT_mixAll_33, eKT_mixAll_36, eKT_mixAll_39, eKT_mixAll_41, o_le (by omega : n < 2147483648) (by omega : j < 2147483648), hj, if_true]
    rw [e]
  | m + 1, j, h => by
    have hj : ¬ n ≤ j := by omega
    have hj3 : j < 2147483648 := by omega
    have hj4 : ¬ LN a ≤ j := by omega
    rw [eKT_mixAll_6]
    simp only [mKT_mixAll, eKT_mixAll_0, eKT_mixAll_1, eKT_mixAll_3, eKT_mixAll_4, eKT_mixAll_8, eKT_mixAll_9, eKT_mixAll_12, eKT_mixAll_14, eKT_mixAll_15, eKT_mixAll_16, eKT_mixAll_19, eKT_mixAll_22, eKT_mixAll_24, eKT_mixAll_25, eKT_mixAll_26, eKT_mixAll_28, eKT_mixAll_29, eKT_mixAll_30, eKT_mixAll_31, eKT_mixAll_33, eKT_mixAll_36, eKT_mixAll_39, eKT_mixAll_41, o_le (by omega : n < 2147483648) hj3, o_le (by omega : LN a < 2147483648) hj3, hj, hj4, if_false, ha, o_def, xin_o hj3, (by omega : j < LN a), true_and, o_cl hj3, xkl_int, xkl_dm, o_add1, Nat.reduceLeDiff, Nat.reduceLT, and_self]
    exact mixAll_loop ha hn hb h0 m (j + 1) (by omega)
theorem s_mixAll {a n : Nat} {h0 : Int64} (ha : KD a = 10) (hn : n ≤ LN a) (hb : LN a < 1000) : XM E d 102 [.long h0, .ref a, .int (o n)] I J Q = Q (some (.long (mixA h0 (I a) n))) I J := by
  simp only [mKT_mixAll, eKT_mixAll_0, eKT_mixAll_1, eKT_mixAll_3, eKT_mixAll_4, eKT_mixAll_8, eKT_mixAll_9, eKT_mixAll_12, eKT_mixAll_14, eKT_mixAll_15, eKT_mixAll_16, eKT_mixAll_19, eKT_mixAll_22, eKT_mixAll_24, eKT_mixAll_25, eKT_mixAll_26, eKT_mixAll_28, eKT_mixAll_29, eKT_mixAll_30, eKT_mixAll_31, eKT_mixAll_33, eKT_mixAll_36, eKT_mixAll_39, eKT_mixAll_41, xkl_int, xkl_dm]
  exact mixAll_loop ha hn hb h0 n 0 (by omega)
theorem mix_loop {T w m n : Nat} {v1 : Value} (hT : TB T w m) (hs : I T 2 = o n) (hW : I T 1 = o w) (hn : n ≤ m) (hm : m < 1000) (hw : w < 1000) (h0 : Int64) : ∀ (q j : Nat), j + q = n → X E (d + 1) 30 5 [.ref T, v1, xdm, .long (mixT h0 (fun r => I (T + 2 + r)) w j), xdm, .int (o j)] [] I J Q = Q (some (.long (mixT h0 (fun r => I (T + 2 + r)) w n))) I J
  | 0, j, h => by
    have hj : n ≤ j := by omega
    have e : j = n := by omega
    simp only [eTable_mix_5, mTable_mix, eTable_mix_0, eTable_mix_1, eTable_mix_2, eTable_mix_3, eTable_mix_7, eTable_mix_8, eTable_mix_11, eTable_mix_14, eTable_mix_15, eTable_mix_16, eTable_mix_19, eTable_mix_21, eTable_mix_22, eTable_mix_23, eTable_mix_26, eTable_mix_29, eTable_mix_30, eTable_mix_33, eTable_mix_36, eTable_mix_37, TB_1 hT, hs, o_le (by omega : n < 2147483648) (by omega : j < 2147483648), hj, if_true]
    rw [e]
  | q + 1, j, h => by
    have hj : ¬ n ≤ j := by omega
    have hj3 : j < 2147483648 := by omega
    have ih := mix_loop (v1 := v1) hT hs hW hn hm hw h0 q (j + 1) (by omega)
    obtain ⟨h1, h2, h3, h4, h5⟩ := hT
    obtain ⟨h6, h7, h8⟩ := h5 j (by omega)
    rw [eTable_mix_5]
    simp only [mTable_mix, eTable_mix_0, eTable_mix_1, eTable_mix_2, eTable_mix_3, eTable_mix_7, eTable_mix_8, eTable_mix_11, eTable_mix_14, eTable_mix_15, eTable_mix_16, eTable_mix_19, eTable_mix_21, eTable_mix_22, eTable_mix_23, eTable_mix_26, eTable_mix_29, eTable_mix_30, eTable_mix_33, eTable_mix_36, eTable_mix_37, h1, hs, hW, o_le (by omega : n < 2147483648) hj3, hj, if_false, h2, va_rf_some, h3, h4, Nat.reduceLeDiff, Nat.reduceLT, and_self, xin_o hj3, (by omega : j < m), true_and, o_cl hj3, h6, s_mixAll h7 (by omega : w ≤ LN (T + 2 + j)) (by omega), tl_some, xkl_dm, o_add1]
    exact ih
theorem s_mix {T w m n : Nat} {h0 : Int64} (hT : TB T w m) (hs : I T 2 = o n) (hW : I T 1 = o w) (hn : n ≤ m) (hm : m < 1000) (hw : w < 1000) : XM E (d + 1) 30 [.ref T, .long h0] I J Q = Q (some (.long (mixT h0 (fun r => I (T + 2 + r)) w n))) I J := by
  simp only [mTable_mix, eTable_mix_0, eTable_mix_1, eTable_mix_2, eTable_mix_3, eTable_mix_7, eTable_mix_8, eTable_mix_11, eTable_mix_14, eTable_mix_15, eTable_mix_16, eTable_mix_19, eTable_mix_21, eTable_mix_22, eTable_mix_23, eTable_mix_26, eTable_mix_29, eTable_mix_30, eTable_mix_33, eTable_mix_36, eTable_mix_37, xkl_int, xkl_dm]
  exact mix_loop hT hs hW hn hm hw h0 n 0 (by omega)
theorem copy_loop {T T' w m n : Nat} (hT : TB T w m) (hT' : TB T' w m) (hd : T + 2 + m ≤ T' ∨ T' + 2 + m ≤ T) (hn : n ≤ m) (hm : m < 1000) (hw : w < 1000) : ∀ (q j : Nat) (I : Nat → Nat → Int32), j + q = n → I T 2 = o n → I T 1 = o w → X E (d + 1) 29 10 [.ref T, .ref T', .int (o j)] [] I J Q = Q none (fun b k => if T + 2 + j ≤ b ∧ b < T + 2 + n ∧ k < w then I (b - T + T') k else I b k) J
  | 0, j, I, h, hs, hW => by
    have hj : n ≤ j := by omega
    simp only [eTable_copy_10, mTable_copy, eTable_copy_0, eTable_copy_1, eTable_copy_2, eTable_copy_5, eTable_copy_8, eTable_copy_9, eTable_copy_11, eTable_copy_12, eTable_copy_15, eTable_copy_18, eTable_copy_19, eTable_copy_22, eTable_copy_23, eTable_copy_24, eTable_copy_25, eTable_copy_26, eTable_copy_29, eTable_copy_30, eTable_copy_31, eTable_copy_32, eTable_copy_33, eTable_copy_36, eTable_copy_39, eTable_copy_42, eTable_copy_45, TB_1 hT, hs, o_le (by omega : n < 2147483648) (by omega : j < 2147483648), hj, if_true]
    congr 1
    funext b k
    rw [if_neg (by omega)]
  | q + 1, j, I, h, hs, hW => by
    have hj : ¬ n ≤ j := by omega
    have hj3 : j < 2147483648 := by omega
    have ih := fun I' => copy_loop hT hT' hd hn hm hw q (j + 1) I' (by omega)
    obtain ⟨h1, h2, h3, h4, h5⟩ := hT
    obtain ⟨h6, h7, h8⟩ := h5 j (by omega)
    obtain ⟨g1, g2, g3, g4, g5⟩ := hT'
    obtain ⟨g6, g7, g8⟩ := g5 j (by omega)
    have z0 : ¬ (0 : Int32) < 0 := by decide
    have z1 : (0 : Int32).toNatClampNeg = 0 := by decide
    rw [eTable_copy_10]
    simp only [mTable_copy, eTable_copy_0, eTable_copy_1, eTable_copy_2, eTable_copy_5, eTable_copy_8, eTable_copy_9, eTable_copy_11, eTable_copy_12, eTable_copy_15, eTable_copy_18, eTable_copy_19, eTable_copy_22, eTable_copy_23, eTable_copy_24, eTable_copy_25, eTable_copy_26, eTable_copy_29, eTable_copy_30, eTable_copy_31, eTable_copy_32, eTable_copy_33, eTable_copy_36, eTable_copy_39, eTable_copy_42, eTable_copy_45, h1, hs, hW, o_le (by omega : n < 2147483648) hj3, hj, if_false, h2, va_rf_some, h3, h4, Nat.reduceLeDiff, Nat.reduceLT, and_self, xin_o hj3, (by omega : j < m), true_and, o_cl hj3, h6, h7, h8, g1, g2, g3, g4, g6, g7, g8, z0, not_false_eq_true, o_neg (by omega : w < 2147483648), z1, o_cl (by omega : w < 2147483648), Nat.zero_add, Nat.le_refl, o_add1, xkl_ref]
    rw [ih]
    · congr 1
      funext b k
      simp only [xcI_ap]
      grind
    · simp only [xcI_ap]
      rw [if_neg (by omega), hs]
    · simp only [xcI_ap]
      rw [if_neg (by omega), hW]
theorem s_copy {T T' w m n : Nat} (hT : TB T w m) (hT' : TB T' w m) (hd : T + 2 + m ≤ T' ∨ T' + 2 + m ≤ T) (hn : n ≤ m) (hm : m < 1000) (hw : w < 1000) (hs : I T' 2 = o n) (hW : I T 1 = o w) : XM E (d + 1) 29 [.ref T, .ref T'] I J Q = Q none (fun b k => if b = T ∧ k = 2 then o n else if T + 2 ≤ b ∧ b < T + 2 + n ∧ k < w then I (b - T + T') k else I b k) J := by
  have e := copy_loop (E := E) (d := d) (J := J) (Q := Q) hT hT' hd hn hm hw n 0 (xuI I T 2 (o n)) (by omega) xu_self (by rw [xu_ne (by omega)]; exact hW)
  simp only [mTable_copy, eTable_copy_0, eTable_copy_1, eTable_copy_2, eTable_copy_5, eTable_copy_8, eTable_copy_9, eTable_copy_11, eTable_copy_12, eTable_copy_15, eTable_copy_18, eTable_copy_19, eTable_copy_22, eTable_copy_23, eTable_copy_24, eTable_copy_25, eTable_copy_26, eTable_copy_29, eTable_copy_30, eTable_copy_31, eTable_copy_32, eTable_copy_33, eTable_copy_36, eTable_copy_39, eTable_copy_42, eTable_copy_45, TB_1 hT, TB_1 hT', hs, xkl_ref]
  refine Eq.trans e ?_
  congr 1
  funext b k
  simp only [xuI_ap]
  grind
end
