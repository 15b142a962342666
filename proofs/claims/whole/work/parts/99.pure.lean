/-! THE LAW'S RUN, FROM ITS FIRST ROW -/
theorem law_start {E : XE} {Q : Option Value → XH → Prop} (h : Ev E 191 195 18 [.ref xScr, .ref 0, .ref 157, .int 0] [] hD Q) : Ev E 191 195 0 (xent [.ref xScr] 4) [] h00 Q := by
  have e0 : xent [.ref xScr] 4 = [.ref xScr, xdm, xdm, xdm] := rfl
  rw [e0]
  have s0 : stp (mC 195) (mIni 195) 191 E 0 (.new 7) [.ref xScr, xdm, xdm, xdm] [] h00 = some (3, [.ref xScr, xdm, xdm, xdm], [.ref 0], xmk h00 [(8, 8)]) := by
    simp only [stp, xnew, (by decide +kernel : rs (mC 195) 7 = (5, 8, 0))]
    rw [if_pos (by decide +kernel)]
    rfl
  rw [Ev_stp (by decide +kernel : dec 195 0 = some (.new 7, 3)) rfl rfl rfl s0]
  have s3 : stp (mC 195) (mIni 195) 191 E 3 .dup [.ref xScr, xdm, xdm, xdm] [.ref 0] (xmk h00 [(8, 8)]) = some (4, [.ref xScr, xdm, xdm, xdm], [.ref 0, .ref 0], xmk h00 [(8, 8)]) := rfl
  rw [Ev_stp (by decide +kernel : dec 195 3 = some (.dup, 1)) rfl rfl rfl s3]
  rw [Ev_call (st := [.ref 0, .ref 0]) (d := 190) (y' := 61) (o := 1) (k := 1) (as := [.ref 0]) (rest := [.ref 0]) (by decide +kernel : dec 195 4 = some (.invokespecial 9, 3)) rfl rfl (by decide +kernel) (by decide +kernel) rfl rfl (Nat.le_of_ble_eq_true rfl) (by decide +kernel) (fun _ => by decide +kernel)]
  refine ⟨6000, none, hB, ?_, ?_⟩
  · rw [ev_E (E' := (0, fun _ => 0)) 6000 (by decide +kernel)]
    have hb := runB_eq
    unfold runB at hb
    exact hb
  have s7 : stp (mC 195) (mIni 195) 191 E 7 (.astore_n 1) [.ref xScr, xdm, xdm, xdm] [.ref 0] hB = some (8, [.ref xScr, .ref 0, xdm, xdm], [], hB) := rfl
  show Ev E 191 195 7 [.ref xScr, xdm, xdm, xdm] [.ref 0] hB Q
  rw [Ev_stp (by decide +kernel : dec 195 7 = some (.astore_n 1, 1)) rfl rfl rfl s7]
  have s8 : stp (mC 195) (mIni 195) 191 E 8 (.new 10) [.ref xScr, .ref 0, xdm, xdm] [] hB = some (11, [.ref xScr, .ref 0, xdm, xdm], [.ref 157], xmk hB [(9, 34)]) := by
    simp only [stp, xnew, (by decide +kernel : rs (mC 195) 10 = (5, 9, 0))]
    rw [hB_len, if_pos (by decide +kernel)]
    rfl
  rw [Ev_stp (by decide +kernel : dec 195 8 = some (.new 10, 3)) rfl rfl rfl s8]
  have s11 : stp (mC 195) (mIni 195) 191 E 11 .dup [.ref xScr, .ref 0, xdm, xdm] [.ref 157] (xmk hB [(9, 34)]) = some (12, [.ref xScr, .ref 0, xdm, xdm], [.ref 157, .ref 157], xmk hB [(9, 34)]) := rfl
  rw [Ev_stp (by decide +kernel : dec 195 11 = some (.dup, 1)) rfl rfl rfl s11]
  rw [Ev_call (st := [.ref 157, .ref 157]) (d := 190) (y' := 103) (o := 1) (k := 1) (as := [.ref 157]) (rest := [.ref 157]) (by decide +kernel : dec 195 12 = some (.invokespecial 12, 3)) rfl rfl (by decide +kernel) (by decide +kernel) rfl rfl (Nat.le_of_ble_eq_true rfl) (by decide +kernel) (fun _ => by decide +kernel)]
  refine ⟨6000, none, hD, ?_, ?_⟩
  · rw [ev_E (E' := (0, fun _ => 0)) 6000 (by decide +kernel)]
    have hb := runD_eq
    unfold runD at hb
    exact hb
  have s15 : stp (mC 195) (mIni 195) 191 E 15 (.astore_n 2) [.ref xScr, .ref 0, xdm, xdm] [.ref 157] hD = some (16, [.ref xScr, .ref 0, .ref 157, xdm], [], hD) := rfl
  show Ev E 191 195 15 [.ref xScr, .ref 0, xdm, xdm] [.ref 157] hD Q
  rw [Ev_stp (by decide +kernel : dec 195 15 = some (.astore_n 2, 1)) rfl rfl rfl s15]
  have s16 : stp (mC 195) (mIni 195) 191 E 16 (.iconst 0) [.ref xScr, .ref 0, .ref 157, xdm] [] hD = some (17, [.ref xScr, .ref 0, .ref 157, xdm], [.int 0], hD) := rfl
  rw [Ev_stp (by decide +kernel : dec 195 16 = some (.iconst 0, 1)) rfl rfl rfl s16]
  have s17 : stp (mC 195) (mIni 195) 191 E 17 (.istore_n 3) [.ref xScr, .ref 0, .ref 157, xdm] [.int 0] hD = some (18, [.ref xScr, .ref 0, .ref 157, .int 0], [], hD) := rfl
  rw [Ev_stp (by decide +kernel : dec 195 17 = some (.istore_n 3, 1)) rfl rfl rfl s17]
  exact h
def PURE2 : Prop := ∀ (L : Nat) (xs : Nat → Int32), L ≤ 448 → ∃ (n : Nat) (h' : XH), ev (L, xs) n 191 195 0 (xent [.ref xScr] 4) [] h00 = some (some (.int 1), h') ∧ h'.1.length ≤ 600000 ∧ xslots h' ≤ 7302250
theorem pure_ok : PURE2 := by
  intro L xs hL
  have hl := law_loop (E := (L, xs)) (d := 178) (Q := fun r _ _ => r = some (.int 1)) hL 64 0 I0 J0 inv_0 (Nat.zero_le _) (by show L < 0 + 7 * (64 + 1); omega) (fun _ _ => rfl)
  have h2 : Ev (L, xs) 191 195 18 [.ref xScr, .ref 0, .ref 157, .int 0] [] hD (fun r h' => r = some (.int 1) ∧ h'.1 = SH0) := by
    rw [hD_eq]
    refine Ev_imp (fun r h' ⟨I', J', e, q⟩ => ⟨q, ?_⟩) hl
    rw [e]
    rfl
  obtain ⟨n, r, h', e, rfl, e2⟩ := law_start h2
  refine ⟨n, h', e, ?_, ?_⟩
  · rw [e2]
    decide +kernel
  · unfold xslots
    rw [e2]
    decide +kernel
theorem start_of2 (hpure : PURE2) {p : Program} {e : Env} {s : State} {m : MethodId} {below : List Frame} {meth : Method} {c : Code} (l : Launch) {b L : Nat} {xs : Nat → Int32} (hL : L ≤ 448) (C0 : lw_At p s m meth c b L xs) : W p l e room_1 s m #[Value.ref b] below meth c s.heap [] 0 0 (lw_Z below #[Value.ref b] s) (entryFrame m ([Value.ref b] : List Value).toArray 4) := by
  obtain ⟨hx, hb, hr, hml, hown, hts, hX, hbl, hlocks, hgv⟩ := id C0
  obtain ⟨D, dA, hK⟩ := K_all hts
  obtain ⟨ba, fv, hE, hfv, hba, hbS⟩ := E_all hts hX hbl hgv
  obtain ⟨n, h', he, hn1, hn2⟩ := hpure L xs hL
  have hC : CX p s m #[Value.ref b] meth c s.heap.size ba fv D dA (L, xs) 195 := ⟨⟨hx, hb, hml, hown, fun w hw => hts w (GWl_in w hw)⟩, hK, hE, fun h => absurd h (by decide +kernel), hba, hfv⟩
  have K := sim (L, xs) n 191 195 0 (xent [.ref xScr] 4) [] h00 h' (some (.int 1)) he p l e room_1 s m #[Value.ref b] below meth c (lw_Z below #[Value.ref b] s) s.heap.size ba fv D dA 0 0 hC (Nat.le_of_ble_eq_true rfl) (Nat.le_of_ble_eq_true rfl) hn1 hn2 (by
    intro pcr ins lsr str hxr hdr H locs lsC g1 g2 g3 g4 g5 g6 g7 g8
    unfold xrt at hxr
    split at hxr
    · next v ty hmr =>
      split at hxr
      · cases hxr
        refine va_forget (fun q hq => g4.2.2 q hq) ?_
        refine W.widen hn1 hn2 ?_
        exact lw_ret hx hb hr hlocks hdr
      · cases hxr
    · cases hxr
    · cases hxr
    · cases hxr)
  rw [lg_entry_eq]
  have hl := lv_entry ([Value.ref b]) (n := 4) (Nat.le_of_ble_eq_true rfl)
  have t := K s.heap [] _ rfl (Nat.zero_le _) (fun k q hk => by simp [wl, h00] at hk) va_S.rf (lv_mono hl (fun q hq => by
    have h1 := la_en hfv (4 - (xen [.ref xScr]).length) [.ref xScr] 0 q hq
    rw [List.map_cons, List.map_nil] at h1
    have e1 : tv ba fv (.ref xScr) = .ref b := by
      show Value.ref (ba xScr) = _
      rw [hbS]
    rw [e1] at h1
    exact h1)) rfl (Nat.zero_le _) (Nat.zero_le _)
  exact t
