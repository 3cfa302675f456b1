/-! ===== one call of both ===== -/
section STEP
theorem step_both {ρ : Type} [DecidableEq ρ] {F : Option (ρ × AH)} {G : AH → Option (ρ × AH)} (H : ∃ r h1 h2, F = some (r, h1) ∧ G h1 = some (r, h2) ∧ Inv h2) : ∃ h2, (am_bind F fun r1 h1 => am_bind (G h1) fun r2 h2 => some (decide (r1 = r2), h2)) = some (true, h2) ∧ Inv h2 := by
  obtain ⟨r, h1, h2, e1, e2, e3⟩ := H
  refine ⟨h2, ?_, e3⟩
  rw [e1, am_bs, e2, am_bs]
  simp
theorem step_ok (xs : Nat → Int32) (i : Nat) (h : AH) (hI : Inv h) : ∃ h2, stepL xs i h = some (true, h2) ∧ Inv h2 := by
  unfold stepL
  by_cases c0 : xs i &&& nI 31 = nI 0
  · rw [if_pos c0]
    exact step_both (st_feed hI _ _ _ _ _)
  rw [if_neg c0]
  by_cases c1 : xs i &&& nI 31 = nI 1
  · rw [if_pos c1]
    exact step_both (st_end hI _)
  rw [if_neg c1]
  by_cases c2 : xs i &&& nI 31 = nI 2
  · rw [if_pos c2]
    exact step_both (st_out hI _)
  rw [if_neg c2]
  by_cases c3 : xs i &&& nI 31 = nI 3
  · rw [if_pos c3]
    exact step_both (st_back hI)
  rw [if_neg c3]
  by_cases c4 : xs i &&& nI 31 = nI 4
  · rw [if_pos c4]
    exact step_both (st_story hI)
  rw [if_neg c4]
  by_cases c5 : xs i &&& nI 31 = nI 5
  · rw [if_pos c5]
    exact step_both (st_poke hI _ _)
  rw [if_neg c5]
  by_cases c6 : xs i &&& nI 31 = nI 6
  · rw [if_pos c6]
    exact step_both (st_peek hI _)
  rw [if_neg c6]
  by_cases c7 : xs i &&& nI 31 = nI 7
  · rw [if_pos c7]
    exact step_both (st_jump hI _)
  rw [if_neg c7]
  by_cases c8 : xs i &&& nI 31 = nI 8
  · rw [if_pos c8]
    exact step_both (st_call hI _ _ _ _)
  rw [if_neg c8]
  by_cases c9 : xs i &&& nI 31 = nI 9
  · rw [if_pos c9]
    exact step_both (st_leave hI)
  rw [if_neg c9]
  by_cases c10 : xs i &&& nI 31 = nI 10
  · rw [if_pos c10]
    exact step_both (st_local hI _ _)
  rw [if_neg c10]
  by_cases c11 : xs i &&& nI 31 = nI 11
  · rw [if_pos c11]
    exact step_both (st_push hI _)
  rw [if_neg c11]
  by_cases c12 : xs i &&& nI 31 = nI 12
  · rw [if_pos c12]
    exact step_both (st_pop hI)
  rw [if_neg c12]
  by_cases c13 : xs i &&& nI 31 = nI 13
  · rw [if_pos c13]
    exact step_both (st_frame hI _ _)
  rw [if_neg c13]
  by_cases c14 : xs i &&& nI 31 = nI 14
  · rw [if_pos c14]
    exact step_both (st_print hI)
  rw [if_neg c14]
  by_cases c15 : xs i &&& nI 31 = nI 15
  · rw [if_pos c15]
    by_cases d : xs (i + 1) = 0
    · rw [if_pos d]
      exact step_both (st_save hI _)
    · rw [if_neg d]
      exact step_both (st_save hI _)
  rw [if_neg c15]
  by_cases c16 : xs i &&& nI 31 = nI 16
  · rw [if_pos c16]
    exact step_both (st_restore hI)
  rw [if_neg c16]
  by_cases c17 : xs i &&& nI 31 = nI 17
  · rw [if_pos c17]
    exact step_both (st_why hI _)
  rw [if_neg c17]
  by_cases c18 : xs i &&& nI 31 = nI 18
  · rw [if_pos c18]
    exact step_both (st_chunk hI _ _)
  rw [if_neg c18]
  by_cases c19 : xs i &&& nI 31 = nI 19
  · rw [if_pos c19]
    exact step_both (st_write hI)
  rw [if_neg c19]
  by_cases c20 : xs i &&& nI 31 = nI 20
  · rw [if_pos c20]
    exact step_both (st_cut hI _)
  rw [if_neg c20]
  by_cases c21 : xs i &&& nI 31 = nI 21
  · rw [if_pos c21]
    exact step_both (st_load hI)
  rw [if_neg c21]
  by_cases c22 : xs i &&& nI 31 = nI 22
  · rw [if_pos c22]
    exact step_both (st_keep hI)
  rw [if_neg c22]
  by_cases c23 : xs i &&& nI 31 = nI 23
  · rw [if_pos c23]
    exact step_both (st_undo hI)
  rw [if_neg c23]
  by_cases c24 : xs i &&& nI 31 = nI 24
  · rw [if_pos c24]
    exact step_both (st_bound hI _)
  rw [if_neg c24]
  by_cases c25 : xs i &&& nI 31 = nI 25
  · rw [if_pos c25]
    exact step_both (st_restart hI)
  rw [if_neg c25]
  by_cases c26 : xs i &&& nI 31 = nI 26
  · rw [if_pos c26]
    exact step_both (st_told hI _)
  rw [if_neg c26]
  exact ⟨h, rfl, hI⟩
end STEP
theorem whole_start {p : Program} {e : Env} {s : State} {m : MethodId} {below : List Frame} {meth : Method} {c : Code} (l : Launch) {b L : Nat} {xs : Nat → Int32} (hL : L ≤ 3072) (C0 : lw_At p s m meth c b L xs) : W p l e room_1 s m #[Value.ref b] below meth c s.heap [] 0 0 (lw_Z below #[Value.ref b] s) (entryFrame m ([Value.ref b] : List Value).toArray 4) :=
  start_open l hL C0 Inv hinit (fun i h _ hI => step_ok xs i h hI)
