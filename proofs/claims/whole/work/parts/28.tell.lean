/-! ===== the class tells runs, frames ===== -/
theorem and255 {k : Nat} (hk : k < 256) : nI k &&& nI 255 = nI k := by
  rw [bt_and, uN_nI (by omega), Nat.mod_eq_of_lt hk]
theorem min_nI {a b : Nat} (ha : a < 2 ^ 31) (hb : b < 2 ^ 31) : am_min (nI a) (nI b) = nI (min a b) := by
  unfold am_min
  by_cases hlt : b < a
  · rw [if_pos (by rw [pb_ltI hb ha]; exact hlt), Nat.min_eq_right (by omega)]
  · rw [if_neg (by rw [pb_ltI hb ha]; exact hlt), Nat.min_eq_left (by omega)]
theorem nI_m256 {a : Nat} (h : 256 ≤ a) : nI a + (-256 : Int32) = nI (a - 256) := by
  have : nI a + (-256 : Int32) = nI a - nI 256 := by rw [Int32.sub_eq_add_neg]; rfl
  rw [this, pb_sub h]
theorem nI_m256n {a : Nat} (h : a ≤ 256) : nI a + (-256 : Int32) ≤ 0 := by
  have : nI a + (-256 : Int32) = nI a - nI 256 := by rw [Int32.sub_eq_add_neg]; rfl
  rw [this, Int32.le_iff_toInt_le, pk_sub_toInt (by omega) (by decide)]
  simp
  omega
section TELL
variable {q c N : Nat}
theorem p_tellZeros_loop (hN : am_len GG c = N) (hN2 : N < 2 ^ 31) (hqc : q ≠ c) : ∀ (z left : Nat) (h : AH) (bs : List Nat), left < z → left < 2 ^ 30 → Byt h q c N bs → bs.length + (zrun left).length ≤ N → ∃ h1, fX4_tellZeros_2 GG z q (nI left) h = some ((), h1) ∧ Byt h1 q c N (bs ++ zrun left) ∧ Fr h h1 [q, c]
  | 0, left, h, bs, hz, _, _, _ => by omega
  | z + 1, left, h, bs, hz, hl, hB, hN3 => by
    by_cases h0 : left = 0
    · subst h0
      refine ⟨h, ?_, by simpa [zrun_0] using hB, Fr.rf⟩
      unfold fX4_tellZeros_2
      rw [if_pos (by decide)]
    · have hpos : 0 < left := by omega
      rw [zrun_step hpos] at hN3 ⊢
      simp only [List.length_append, List.length_cons, List.length_nil] at hN3
      obtain ⟨h1, e1, e2, e3⟩ := p_add hB hN hN2 hqc (by omega) (b := nI 0) (v := 0) (and255 (by decide))
      obtain ⟨h2, f1, f2, f3⟩ := p_add e2 hN hN2 hqc (by simp; omega) (b := am_min (nI left) (nI 256) - nI 1) (v := min left 256 - 1) (by rw [min_nI (by omega) (by decide), pb_sub (by omega)]; exact and255 (by omega))
      have step : fX4_tellZeros_2 GG (z + 1) q (nI left) h = fX4_tellZeros_2 GG z q (nI left + (-256 : Int32)) h2 := by
        show (if nI left ≤ 0 then _ else _) = _
        rw [if_neg (by rw [pb_le0 (by omega)]; omega), e1]
        simp only [am_bind, Option.bind_some, f1]
      by_cases hbig : 256 < left
      · obtain ⟨h3, g1, g2, g3⟩ := p_tellZeros_loop hN hN2 hqc z (left - 256) h2 _ (by omega) (by omega) f2 (by simp; omega)
        refine ⟨h3, ?_, by simpa using g2, (e3.tr f3).tr g3⟩
        rw [step, nI_m256 (by omega)]
        exact g1
      · have hz0 : left - 256 = 0 := by omega
        refine ⟨h2, ?_, by simpa [hz0, zrun_0] using f2, e3.tr f3⟩
        rw [step]
        obtain ⟨z', rfl⟩ : ∃ z', z = z' + 1 := ⟨z - 1, by omega⟩
        show (if nI left + (-256 : Int32) ≤ 0 then _ else _) = _
        rw [if_pos (nI_m256n (by omega))]
theorem p_tellZeros (hN : am_len GG c = N) (hN2 : N < 2 ^ 31) (hqc : q ≠ c) {left : Nat} {h : AH} {bs : List Nat} (hl : left < 100000) (hB : Byt h q c N bs) (hN3 : bs.length + (zrun left).length ≤ N) : ∃ h1, fX4_tellZeros GG (nI left) q h = some ((), h1) ∧ Byt h1 q c N (bs ++ zrun left) ∧ Fr h h1 [q, c] := by
  unfold fX4_tellZeros
  exact p_tellZeros_loop hN hN2 hqc am_fuel left h bs (by unfold am_fuel; omega) (by omega) hB hN3
theorem p_storyAt {h : AH} {s t u v : Nat} (hR : RX h s t u v) {ow : List Nat} (h2 : h.1 14 2 = nI ow.length) (hm : ow.length ≤ 1000) (h3 : Arr (h.1 16) ow) {i : Nat} (hi : i < 2 ^ 31) : fX5_byteAt GG 14 (nI i) h = some (nI (ow.getD i 0), h) := by
  by_cases hlt : i < ow.length
  · simp (disch := omega) only [fX5_byteAt, h2, hR.r14_1, ln_16, Option.bind_some, pb_lt0, pb_le, if_pos, if_neg, pb_ok, if_true, pb_cl, h3 i hlt, if_false]
  · simp (disch := omega) only [fX5_byteAt, h2, pb_lt0, pb_le, if_pos, if_neg, if_true, if_false]
    rw [List.getD_eq_getElem?_getD, List.getElem?_eq_none (Nat.not_lt.mp hlt)]
    rfl
theorem getD_drop {l : List Nat} {i : Nat} {m : Nat} {ms : List Nat} (h : l.drop i = m :: ms) : l.getD i 0 = m ∧ l.drop (i + 1) = ms ∧ i < l.length := by
  have hi : i < l.length := by
    rcases Nat.lt_or_ge i l.length with hh | hh
    · exact hh
    · rw [List.drop_eq_nil_of_le hh] at h; cases h
  have h1 := List.drop_eq_getElem_cons hi
  rw [h1] at h
  injection h with h2 h3
  exact ⟨by rw [List.getD_eq_getElem?_getD, List.getElem?_eq_getElem hi]; exact h2, h3, hi⟩
theorem p_tellRuns_loop {s t u v : Nat} {x : Nat} (hq : SQ x) (hN : am_len GG c = N) (hN2 : N < 2 ^ 31) (hqc : q ≠ c) (mm ow : List Nat) (hm : mm.length ≤ 1000) (hmo : mm.length = ow.length) (bm : By mm) (bo : By ow) (f1 f2 f3 f4 : Nat → Int32) (a1 : x ∉ [q, c]) (a2 : x + 1 ∉ [q, c]) (a3 : 14 ∉ [q, c]) (a4 : 16 ∉ [q, c]) (k1 : f1 2 = nI mm.length) (k2 : ∀ i, i < mm.length → f2 i = nI (mm.getD i 0)) (k3 : f3 2 = nI ow.length) (k4 : Arr f4 ow) :
    ∀ (ms os : List Nat) (z i zz : Nat) (h : AH) (bs : List Nat), RX h s t u v → h.1 x = f1 → h.1 (x + 1) = f2 → h.1 14 = f3 → h.1 16 = f4 → mm.drop i = ms → ow.drop i = os → i ≤ mm.length → z ≤ i → ms.length < zz → Byt h q c N bs → bs.length + (encB ms os z).length ≤ N → ∃ h1, fX4_tellRuns_5 GG zz x 14 q (nI z) (nI i) h = some ((), h1) ∧ Byt h1 q c N (bs ++ encB ms os z) ∧ Fr h h1 [q, c]
  | ms, os, z, i, 0, h, bs, _, _, _, _, _, _, _, _, _, hzz, _, _ => by omega
  | [], os, z, i, zz + 1, h, bs, hR, p1, p2, p3, p4, d1, d2, hi, hz, _, hB, _ => by
    have : mm.length ≤ i := by simpa using List.drop_eq_nil_iff.mp d1
    refine ⟨h, ?_, by simpa [encB] using hB, Fr.rf⟩
    unfold fX4_tellRuns_5
    rw [p1, k1, if_pos (by rw [pb_le (by omega) (by omega)]; omega)]
  | m :: ms, os, z, i, zz + 1, h, bs, hR, p1, p2, p3, p4, d1, d2, hi, hz, hzz, hB, hN3 => by
    obtain ⟨g1, g2, g3⟩ := getD_drop d1
    cases os with
    | nil =>
      have := List.drop_eq_nil_iff.mp d2
      omega
    | cons o os =>
      obtain ⟨g4, g5, g6⟩ := getD_drop d2
      have bm' : m < 256 := by rw [← g1]; exact getD_lt bm i
      have bo' : o < 256 := by rw [← g4]; exact getD_lt bo i
      have hbyte := p_byteAt (h := h) hq hR (mm := mm) (by rw [p1]; exact k1) hm (by rw [p2]; exact k2) (i := i) (by omega)
      have hown := p_storyAt (h := h) hR (ow := ow) (by rw [p3]; exact k3) (by omega) (by rw [p4]; exact k4) (i := i) (by omega)
      have hhead : ∀ A B : Option (Unit × AH), (if h.1 x 2 ≤ nI i then A else B) = B := fun A B => by rw [p1, k1, if_neg (by rw [pb_le (by omega) (by omega)]; omega)]
      simp only [List.length_cons] at hzz
      unfold encB at hN3 ⊢
      by_cases hx : m ^^^ o = 0
      · rw [if_pos hx] at hN3 ⊢
        obtain ⟨h1, e1, e2, e3⟩ := p_tellRuns_loop hq hN hN2 hqc mm ow hm hmo bm bo f1 f2 f3 f4 a1 a2 a3 a4 k1 k2 k3 k4 ms os (z + 1) (i + 1) zz h bs hR p1 p2 p3 p4 g2 g5 (by omega) (by omega) (by omega) hB hN3
        refine ⟨h1, ?_, e2, e3⟩
        rw [← e1]
        show (if h.1 x 2 ≤ nI i then _ else _) = _
        rw [hhead, hbyte]
        simp only [am_bind, Option.bind_some, hown, am_let, g1, g4]
        rw [xor_nI (by omega) (by omega), hx, if_pos (by decide)]
        simp only [fX4_tellRuns_53, pb_add]
      · rw [if_neg hx] at hN3 ⊢
        simp only [List.length_append, List.length_cons] at hN3
        obtain ⟨h1, e1, e2, e3⟩ := p_tellZeros (h := h) (bs := bs) hN hN2 hqc (left := z) (by omega) hB (by omega)
        obtain ⟨h2, b1, b2, b3⟩ := p_add e2 hN hN2 hqc (by simp; omega) (b := nI (m ^^^ o)) (v := m ^^^ o) (and255 (xor_lt bm' bo'))
        have hF := e3.tr b3
        obtain ⟨h3, r1, r2, r3⟩ := p_tellRuns_loop hq hN hN2 hqc mm ow hm hmo bm bo f1 f2 f3 f4 a1 a2 a3 a4 k1 k2 k3 k4 ms os 0 (i + 1) zz h2 _ (hR.eq hF.1) (by rw [hF.2 x a1]; exact p1) (by rw [hF.2 _ a2]; exact p2) (by rw [hF.2 _ a3]; exact p3) (by rw [hF.2 _ a4]; exact p4) g2 g5 (by omega) (by omega) (by omega) b2 (by simp; omega)
        refine ⟨h3, ?_, by simpa using r2, hF.tr r3⟩
        rw [← r1]
        show (if h.1 x 2 ≤ nI i then _ else _) = _
        rw [hhead, hbyte]
        simp only [am_bind, Option.bind_some, hown, am_let, g1, g4]
        rw [xor_nI (by omega) (by omega), if_neg (by rw [pb_eq0 (by have := xor_lt bm' bo'; omega)]; exact hx), e1]
        simp only [Option.bind_some, b1, fX4_tellRuns_53, pb_add]
end TELL
