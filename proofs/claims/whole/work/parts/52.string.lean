/-! STRINGS -/
section
variable {E : XE} {d : Nat} {I : Iv} {J : Jv} {Q : XQt} {st : List Value} {v0 v1 v2 : Value} {i0 i1 : Int32} {r0 : Nat}
theorem z182_1 (ha : xStr ≤ r0 ∧ r0 < xStr + 5) : X E d 182 1 [v0] (.ref r0 :: st) I J Q = X E d 182 4 [v0] (.ref (xByt + (r0 - xStr)) :: st) I J Q := X_stp (by decide +kernel : dec 182 1 = some (.getfield 9, 3)) rfl rfl rfl (by simp only [stp, xgf, (by decide +kernel : rs (mC 182) 9 = (1, 1, 0))]; rw [if_pos ha]; rfl)
theorem z183_8 (ha : xStr ≤ r0 ∧ r0 < xStr + 5) : X E d 183 8 [v0, v1] (.ref r0 :: st) I J Q = X E d 183 11 [v0, v1] (.ref (xByt + (r0 - xStr)) :: st) I J Q := X_stp (by decide +kernel : dec 183 8 = some (.getfield 9, 3)) rfl rfl rfl (by simp only [stp, xgf, (by decide +kernel : rs (mC 183) 9 = (1, 1, 0))]; rw [if_pos ha]; rfl)
theorem z184_7 (ha : xStr ≤ r0 ∧ r0 < xStr + 5) : X E d 184 7 [v0] (.ref r0 :: st) I J Q = X E d 184 10 [v0] (.int 0 :: st) I J Q := X_stp (by decide +kernel : dec 184 7 = some (.getfield 15, 3)) rfl rfl rfl (by simp only [stp, xgf, (by decide +kernel : rs (mC 184) 15 = (1, 0, 0))]; rw [if_pos ha]; rfl)
theorem z185_7 (ha : xStr ≤ r0 ∧ r0 < xStr + 5) : X E d 185 7 [v0] (.ref r0 :: st) I J Q = X E d 185 10 [v0] (.int 0 :: st) I J Q := X_stp (by decide +kernel : dec 185 7 = some (.getfield 15, 3)) rfl rfl rfl (by simp only [stp, xgf, (by decide +kernel : rs (mC 185) 15 = (1, 0, 0))]; rw [if_pos ha]; rfl)
theorem z184_0 : X E d 184 0 [v0] st I J Q = X E d 184 3 [v0] (.int 1 :: st) I J Q := X_stp (by decide +kernel : dec 184 0 = some (.getstatic 38, 3)) rfl rfl rfl (by simp only [stp, xgs, (by decide +kernel : rs (mC 184) 38 = (2, 0, 0))]; rfl)
theorem z185_0 : X E d 185 0 [v0] st I J Q = X E d 185 3 [v0] (.int 1 :: st) I J Q := X_stp (by decide +kernel : dec 185 0 = some (.getstatic 38, 3)) rfl rfl rfl (by simp only [stp, xgs, (by decide +kernel : rs (mC 185) 38 = (2, 0, 0))]; rfl)
theorem z186_2 : X E d 186 2 [v0, v1] st I J Q = X E d 186 5 [v0, v1] (.retAddr 0 :: st) I J Q := X_stp (by decide +kernel : dec 186 2 = some (.getstatic 1053, 3)) rfl rfl rfl (by simp only [stp, xgs, (by decide +kernel : rs (mC 186) 1053 = (2, 1, 0))]; rfl)
theorem z182_4 (ha : xByt ≤ r0 ∧ r0 < xByt + 5) : X E d 182 4 [v0] (.ref r0 :: st) I J Q = X E d 182 5 [v0] (.int (Int32.ofNat (xLens.getD (r0 - xByt) 0)) :: st) I J Q := X_stp (by decide +kernel : dec 182 4 = some (.arraylength, 1)) rfl rfl rfl (by simp only [stp, xlen]; rw [if_neg (show ¬ r0 = xScr by unfold xByt at ha; unfold xScr; omega), if_pos ha])
theorem z187_2 (ha : xByt ≤ r0 ∧ r0 < xByt + 5) : X E d 187 2 [v0, v1] (.ref r0 :: st) I J Q = X E d 187 3 [v0, v1] (.int (Int32.ofNat (xLens.getD (r0 - xByt) 0)) :: st) I J Q := X_stp (by decide +kernel : dec 187 2 = some (.arraylength, 1)) rfl rfl rfl (by simp only [stp, xlen]; rw [if_neg (show ¬ r0 = xScr by unfold xByt at ha; unfold xScr; omega), if_pos ha])
theorem z187_8 (ha : xByt ≤ r0 ∧ r0 < xByt + 5) (hi : xin i0 (xLens.getD (r0 - xByt) 0) = true) : X E d 187 8 [v0, v1] (.int i0 :: .ref r0 :: st) I J Q = X E d 187 9 [v0, v1] (.int ((xByts.getD (r0 - xByt) []).getD i0.toNatClampNeg 0) :: st) I J Q := X_stp (by decide +kernel : dec 187 8 = some (.baload, 1)) rfl rfl rfl (by simp only [stp, xbal]; rw [if_pos ha, if_pos hi])
theorem z186_5 : X E (d + 1) 186 5 [v0, v1] [.retAddr 0, .int i1, .int i0] I J Q = XM E d 194 [.int i0, .int i1, .retAddr 0] I J (fun r I1 J1 => X E (d + 1) 186 8 [v0, v1] (r.toList ++ []) I1 J1 Q) := X_call (o := 0) (n := 3) (by decide +kernel) (by decide +kernel : dec 186 5 = some (.invokestatic 1059, 3)) rfl rfl (by decide +kernel) (by decide +kernel) rfl rfl (Nat.le_of_ble_eq_true rfl) (Nat.le_of_ble_eq_true rfl) (fun q => absurd q (by decide))
theorem z194_m : XM E d 194 [.int i0, .int i1, .retAddr 0] I J Q = X E d 194 0 [.int i0, .int i1, .retAddr 0] [] I J Q := rfl
def lenW (w : Nat) : Nat := xLens.getD w 0
def chW (w i : Nat) : Int32 := (xByts.getD w []).getD i 0
theorem z_r {w : Nat} (hw : w < 5) : (xStr ≤ xStr + w ∧ xStr + w < xStr + 5) ∧ (xByt ≤ xByt + (xStr + w - xStr) ∧ xByt + (xStr + w - xStr) < xByt + 5) ∧ xByt + (xStr + w - xStr) - xByt = w := by
  unfold xStr xByt
  omega
theorem z_len {w : Nat} (hw : w < 5) : (Int32.ofNat (lenW w)) >>> ((0 : Int32) &&& 31) = o (lenW w) := by
  match w, hw with
  | 0, _ => decide
  | 1, _ => decide
  | 2, _ => decide
  | 3, _ => decide
  | 4, _ => decide
theorem z_ch : ∀ w, w < 5 → ∀ i, i < lenW w → ((chW w i &&& 255).toUInt32 % 65536).toInt32 = chW w i ∧ narrow .char (.int (chW w i)) = .int (chW w i) := by decide
theorem nar_by : narrow .byte (.int 0) = .int 0 := by decide
theorem lenW_le {w : Nat} (hw : w < 5) : lenW w ≤ 4 := by
  match w, hw with
  | 0, _ => decide
  | 1, _ => decide
  | 2, _ => decide
  | 3, _ => decide
  | 4, _ => decide
theorem s_coder {w : Nat} (hw : w < 5) : XM E d 184 [.ref (xStr + w)] I J Q = Q (some (.int 0)) I J := by
  obtain ⟨h1, h2, h3⟩ := z_r hw
  simp only [mString_coder_7d493, eString_coder_7d493_3, eString_coder_7d493_6, eString_coder_7d493_10, eString_coder_7d493_13, eString_coder_7d493_14, z184_0, z184_7 h1, i_10, if_false, nar_by]
theorem s_len {w : Nat} (hw : w < 5) : XM E (d + 1) 182 [.ref (xStr + w)] I J Q = Q (some (.int (o (lenW w)))) I J := by
  obtain ⟨h1, h2, h3⟩ := z_r hw
  simp only [mString_length_8abf5, eString_length_8abf5_0, eString_length_8abf5_5, eString_length_8abf5_6, eString_length_8abf5_9, eString_length_8abf5_10, z182_1 h1, z182_4 h2, h3, h1, and_self, s_coder hw, tl_some]
  rw [show xLens.getD w 0 = lenW w from rfl, z_len hw]
theorem s_latin {w : Nat} (hw : w < 5) : XM E d 185 [.ref (xStr + w)] I J Q = Q (some (.int 1)) I J := by
  obtain ⟨h1, h2, h3⟩ := z_r hw
  simp only [mString_isLatin1_aae02, eString_isLatin1_aae02_3, eString_isLatin1_aae02_6, eString_isLatin1_aae02_10, eString_isLatin1_aae02_13, eString_isLatin1_aae02_14, eString_isLatin1_aae02_17, eString_isLatin1_aae02_18, z185_0, z185_7 h1, i_10, if_false, not_true_eq_false, nar_1]
theorem s_ckix {i n : Nat} (h : i < n) (hn : n < 1000) : XM E (d + 1) 186 [.int (o i), .int (o n)] I J Q = Q none I J := by
  have h1 : ¬ o i < 0 := o_neg (by omega)
  have h2 : o i < o n := by rw [o_lt (by omega) (by omega)]; exact h
  simp only [mString_checkIndex_df160, eString_checkIndex_df160_0, eString_checkIndex_df160_1, eString_checkIndex_df160_8, eString_checkIndex_df160_9, z186_2, z186_5, z194_m, ePre_checkIndex_8e157_0, ePre_checkIndex_8e157_1, ePre_checkIndex_8e157_4, ePre_checkIndex_8e157_5, ePre_checkIndex_8e157_6, ePre_checkIndex_8e157_16, ePre_checkIndex_8e157_17, h1, if_false, h2, if_true, tl_some]
theorem s_lchr {w i : Nat} (hw : w < 5) (hi : i < lenW w) : XM E (d + 2) 187 [.ref (xByt + (xStr + w - xStr)), .int (o i)] I J Q = Q (some (.int (chW w i))) I J := by
  obtain ⟨h1, h2, h3⟩ := z_r hw
  obtain ⟨c1, c2⟩ := z_ch w hw i hi
  have hl := lenW_le hw
  have hx : xin (o i) (xLens.getD (xByt + (xStr + w - xStr) - xByt) 0) = true := by
    rw [h3, xin_o (by omega)]
    exact hi
  have e1 : Int32.ofNat (xLens.getD w 0) = o (lenW w) := rfl
  have e2 : (xByts.getD w []).getD i 0 = chW w i := rfl
  simp only [mLatin1_charAt_3b067, eLatin1_charAt_3b067_0, eLatin1_charAt_3b067_1, eLatin1_charAt_3b067_3, eLatin1_charAt_3b067_6, eLatin1_charAt_3b067_7, eLatin1_charAt_3b067_9, eLatin1_charAt_3b067_12, eLatin1_charAt_3b067_13, eLatin1_charAt_3b067_14, z187_2 h2, z187_8 h2 hx, h3, e1, s_ckix hi (by omega), tl_none, o_cl (by omega : i < 2147483648), e2, c1, c2]
theorem s_chr {w i : Nat} (hw : w < 5) (hi : i < lenW w) : XM E (d + 3) 183 [.ref (xStr + w), .int (o i)] I J Q = Q (some (.int (chW w i))) I J := by
  obtain ⟨h1, h2, h3⟩ := z_r hw
  obtain ⟨c1, c2⟩ := z_ch w hw i hi
  simp only [mString_charAt_5068e, eString_charAt_5068e_0, eString_charAt_5068e_1, eString_charAt_5068e_4, eString_charAt_5068e_7, eString_charAt_5068e_11, eString_charAt_5068e_12, eString_charAt_5068e_15, eString_charAt_5068e_16, eString_charAt_5068e_20, eString_charAt_5068e_21, eString_charAt_5068e_24, h1, and_self, s_latin hw, tl_some, i_10, if_false, z183_8 h1, s_lchr hw hi, c2]

end
