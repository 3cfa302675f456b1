/-! ===== frames are taken ===== -/
section READ2
variable {h : AH} {s t u v : Nat}
theorem rdF_ok {bs : List Nat} {e a : Nat} {first : Bool} {fm : Fm} (hr : rdF bs e a first = .ok fm) : a + 8 ≤ e ∧ (if first then bad6 bs a 6 0 else badL bs a) = none ∧ nbA bs 2 (a + 6) 0 ≤ 40 ∧ a + 8 + 2 * (bs.getD (a + 3) 0 % 16 + nbA bs 2 (a + 6) 0) ≤ e ∧ fm = frOf bs a := by
  unfold rdF at hr
  split at hr
  · cases hr
  · next h1 =>
    split at hr
    · cases hr
    · next h2 =>
      split at hr
      · cases hr
      · next h3 =>
        split at hr
        · cases hr
        · next h4 =>
          cases hr
          exact ⟨by omega, h2, by omega, by omega, rfl⟩
theorem bad6_none {bs : List Nat} {a : Nat} : ∀ {n i : Nat}, bad6 bs a n i = none → ∀ k, i ≤ k → k < i + n → bs.getD (a + k) 0 = 0
  | 0, i, _, k, h1, h2 => by omega
  | n + 1, i, hb, k, h1, h2 => by
    rw [bad6] at hb
    split at hb
    · next h0 =>
      by_cases hk : k = i
      · subst hk; exact h0
      · exact bad6_none hb k (by omega) (by omega)
    · cases hb
theorem mark_ok {bs : List Nat} {e a : Nat} {first : Bool} {fm : Fm} (hr : rdF bs e a first = .ok fm) : ∃ k, arOf (bs.getD (a + 5) 0) = some k ∧ k ≤ 7 := by
  obtain ⟨-, h2, -, -, -⟩ := rdF_ok hr
  cases first with
  | true =>
    simp only [if_true] at h2
    have := bad6_none h2 5 (by omega) (by omega)
    rw [this]
    exact ⟨0, rfl, by omega⟩
  | false =>
    simp only [Bool.false_eq_true, if_false] at h2
    unfold badL at h2
    split at h2
    · cases h2
    · split at h2
      · cases h2
      · split at h2
        · cases h2
        · next h5 =>
          cases hk : arOf (bs.getD (a + 5) 0) with
          | none => exact absurd hk h5
          | some k => exact ⟨k, rfl, arOf_le hk⟩
theorem frOf_wf {bs : List Nat} (hb : By bs) {e a : Nat} {first : Bool} {fm : Fm} (hr : rdF bs e a first = .ok fm) : WFm fm := by
  obtain ⟨h1, h2, h3, h4, h5⟩ := rdF_ok hr
  obtain ⟨k, k1, k2⟩ := mark_ok hr
  subst h5
  refine ⟨nb3_lt hb a, fun r hr => ?_, ?_, by omega, ?_, ?_, fun w hw => ?_⟩
  · split at hr
    · cases hr
      exact getD_lt hb _
    · cases hr
  · rw [k1]; exact k2
  · rw [words_len]; omega
  · rw [words_len]; omega
  · unfold words at hw
    obtain ⟨j, -, rfl⟩ := List.mem_map.mp hw
    exact nb2_lt hb _
theorem frOf_first {bs : List Nat} {e a : Nat} {fm : Fm} (hr : rdF bs e a true = .ok fm) : ∃ ws, fm = (0, some 0, 0, 0, ws) := by
  obtain ⟨h1, h2, h3, h4, h5⟩ := rdF_ok hr
  simp only [if_true] at h2
  have z := fun k (hk : k < 6) => bad6_none h2 k (by omega) (by omega)
  have z0 : bs.getD a 0 = 0 := z 0 (by omega)
  have z1 := z 1 (by omega)
  have z2 := z 2 (by omega)
  have z3 := z 3 (by omega)
  have z4 := z 4 (by omega)
  have z5 := z 5 (by omega)
  refine ⟨words bs (a + 8) (0 % 16 + nbA bs 2 (a + 6) 0), ?_⟩
  subst h5
  unfold frOf
  rw [z3, z4, z5]
  have : nbA bs 3 a 0 = 0 := by
    simp only [nbA]
    rw [z0, z1, show a + 1 + 1 = a + 2 by omega, z2]
  rw [this]
  rfl
theorem p_takeFrame {x q c N e a pc : Nat} {bs mm : List Nat} {fs : List Fm} {first : Bool} {fm : Fm} (hx : SQ x) (hN : am_len GG c = N) (hN2 : N ≤ 10000) (aq : ∀ b, x ≤ b → b ≤ x + 42 → b ≠ q ∧ b ≠ c) (hb : By bs) (he : e ≤ 10000) (hR : RX h s t u v) (hB : Byt h q c N bs) (hs : SeX h x (mm, pc, fs)) (hl : fs.length < 20) (hr : rdF bs e a first = .ok fm) : ∃ h1, fX4_takeFrame GG x q (nI a) h = some (nI (a + 8 + 2 * fm.2.2.2.2.length), h1) ∧ SeX h1 x (mm, pc, fs ++ [fm]) ∧ h1.2 = h.2 ∧ ∀ b, (b < x ∨ x + 42 < b) → h1.1 b = h.1 b := by
  obtain ⟨r1, r2, r3, r4, r5⟩ := rdF_ok hr
  obtain ⟨k, k1, k2⟩ := mark_ok hr
  have h3 := getD_lt hb (a + 3)
  have h5 := getD_lt hb (a + 5)
  have hcnt := marks_cnt ⟨bs.getD (a + 5) 0, h5⟩ ⟨k, by omega⟩ k1
  simp only at hcnt
  have h15 := and15 ⟨bs.getD (a + 3) 0, h3⟩
  simp only at h15
  have hnl : bs.getD (a + 3) 0 % 16 ≤ 15 := by omega
  generalize hre : (if bs.getD (a + 3) 0 < 16 then some (bs.getD (a + 4) 0) else none) = re
  -- the frame begins
  obtain ⟨h1, a1, a2, a3, a4, a5⟩ := p_addFrame (h := h) (bk := nbA bs 3 a 0) (re := re) (ar := k) (nl := bs.getD (a + 3) 0 % 16) hx hR hs.2.2.1 hl hnl
  have hR1 := hR.eq a2.1
  have hs1 := hs.add a2 a3 a4 a5
  have k1' : ∀ b, b ≠ x → b ≠ x + 3 + 2 * fs.length → b ≠ x + 4 + 2 * fs.length → h1.1 b = h.1 b := fun b p q r => a2.2 b (by simp [p, q, r])
  have hB1 : Byt h1 q c N bs := by
    have q1 := aq x (by omega) (by omega)
    have q2 := aq (x + 3 + 2 * fs.length) (by omega) (by omega)
    have q3 := aq (x + 4 + 2 * fs.length) (by omega) (by omega)
    exact hB.eq (by rw [a2.1]) (k1' q (fun z => q1.1 z.symm) (fun z => q2.1 z.symm) (fun z => q3.1 z.symm)) (k1' c (fun z => q1.2 z.symm) (fun z => q2.2 z.symm) (fun z => q3.2 z.symm))
  have hrow : h1.2 (x + 3 + 2 * fs.length) 0 = some (x + 4 + 2 * fs.length) := hx.rr hR1 hl
  obtain ⟨h2, b1, b2, b3⟩ := p_words_loop (x := x + 3 + 2 * fs.length) (y := x + 4 + 2 * fs.length) (o := a + 8) (nl := bs.getD (a + 3) 0 % 16) (d := nbA bs 2 (a + 6) 0) (bk := nbA bs 3 a 0) (ar := k) (re := re) hN hN2 hb (hx.row _ hl) (by omega) ⟨(aq _ (by omega) (by omega)).1, (aq _ (by omega) (by omega)).2, (aq _ (by omega) (by omega)).1, (aq _ (by omega) (by omega)).2⟩ hnl r3 (by omega) (bs.getD (a + 3) 0 % 16 + nbA bs 2 (a + 6) 0) 0 am_fuel h1 hrow hB1 (by omega) (by unfold am_fuel; omega) (by
    have : prt (words bs (a + 8) (bs.getD (a + 3) 0 % 16 + nbA bs 2 (a + 6) 0)) (bs.getD (a + 3) 0 % 16) 0 = List.replicate (bs.getD (a + 3) 0 % 16) 0 := by simp [prt]
    rw [this]
    exact a3)
  have hfm : fm = (nbA bs 3 a 0, re, k, bs.getD (a + 3) 0 % 16, words bs (a + 8) (bs.getD (a + 3) 0 % 16 + nbA bs 2 (a + 6) 0)) := by
    rw [r5]
    unfold frOf
    rw [hre, k1]
    rfl
  have hs2 := hs1.frame (n := fs.length) b2 b3 (by simp)
  have hset : (fs ++ [(nbA bs 3 a 0, re, k, bs.getD (a + 3) 0 % 16, List.replicate (bs.getD (a + 3) 0 % 16) 0)]).set fs.length (nbA bs 3 a 0, re, k, bs.getD (a + 3) 0 % 16, words bs (a + 8) (bs.getD (a + 3) 0 % 16 + nbA bs 2 (a + 6) 0)) = fs ++ [fm] := by
    rw [List.set_append_right _ _ (Nat.le_refl _), hfm]
    simp
  rw [hset] at hs2
  have hlen : fm.2.2.2.2.length = bs.getD (a + 3) 0 % 16 + nbA bs 2 (a + 6) 0 := by rw [hfm]; simp [words_len]
  refine ⟨h2, ?_, hs2, b2.1.trans a2.1, fun b hb' => by rw [b2.2 b (by simp; omega), k1' b (by omega) (by omega) (by omega)]⟩
  rw [hlen]
  have tail : ∀ sv : Int32, sv = rI re → fX4_takeFrame_32 GG x q (nI a) (nI (bs.getD (a + 3) 0 % 16)) sv h = some (nI (a + 8 + 2 * (bs.getD (a + 3) 0 % 16 + nbA bs 2 (a + 6) 0)), h2) := by
    intro sv hsv
    unfold fX4_takeFrame_32
    rw [pb_add, p_number hN (by omega) hB hb (by omega) (by decide), am_bs, p_number hN (by omega) hB hb (by omega) (by decide), am_bs, pb_add, p_at hB hN (by omega) (by omega), am_bs, bitCount_ok k2 hcnt, am_bs, hsv, a1, am_bs, pb_add, am_let_eq, p_newest hx hR1 a4 (by omega), am_bs]
    exact b1
  unfold fX4_takeFrame
  rw [pb_add, p_at hB hN (by omega) (by omega), am_bs, h15, am_let_eq]
  by_cases c1 : bs.getD (a + 3) 0 < 16
  · rw [if_pos (by rw [pb_ltI (by omega) (by omega)]; exact c1), pb_add, p_at hB hN (by omega) (by omega), am_bs]
    exact tail _ (by rw [← hre, if_pos c1]; rfl)
  · rw [if_neg (by rw [pb_ltI (by omega) (by omega)]; exact c1)]
    exact tail _ (by rw [← hre, if_neg c1]; rfl)
theorem p_takeFrames_loop {x q c N e pc : Nat} {bs mm : List Nat} (hx : SQ x) (hN : am_len GG c = N) (hN2 : N ≤ 10000) (aq : ∀ b, x ≤ b → b ≤ x + 42 → b ≠ q ∧ b ≠ c) (hb : By bs) (he : e ≤ 10000) : ∀ (n z a : Nat) (h : AH) (fs : List Fm), RX h s t u v → Byt h q c N bs → SeX h x (mm, pc, fs) → n + fs.length = 20 → n < z → a ≤ e → ∃ r h1, fX4_takeFrames_11 GG z x q (nI e) (nI a) (nI fs.length) h = some (r, h1) ∧ h1.2 = h.2 ∧ (∀ b, (b < x ∨ x + 42 < b) → h1.1 b = h.1 b) ∧ match rdD bs e n a fs with
    | .ok fs' => r = nI 0 ∧ SeX h1 x (mm, pc, fs')
    | .error p => r = fcode p
  | n, 0, a, h, fs, _, _, _, _, hz, _ => by omega
  | 0, z + 1, a, h, fs, hR, hB, hs, hn, _, ha => by
    rw [fX4_takeFrames_11, rdD, if_pos (by rw [pb_le (by omega) (by omega)]; omega)]
    by_cases c0 : e ≤ a
    · rw [if_pos c0, if_pos (by rw [pb_le (by omega) (by omega)]; exact c0)]
      exact ⟨_, h, rfl, rfl, fun _ _ => rfl, rfl, hs⟩
    · rw [if_neg c0, if_neg (by rw [pb_le (by omega) (by omega)]; exact c0), p_fault (by decide) (by omega), am_bs]
      exact ⟨_, h, rfl, rfl, fun _ _ => rfl, rfl⟩
  | n + 1, z + 1, a, h, fs, hR, hB, hs, hn, hz, ha => by
    rw [fX4_takeFrames_11, rdD, if_neg (by rw [pb_le (by omega) (by omega)]; omega)]
    have step : ∃ r h1, fX4_takeFrames_31 GG (fX4_takeFrames_11 GG z) x q (nI e) (nI a) (nI fs.length) h = some (r, h1) ∧ h1.2 = h.2 ∧ (∀ b, (b < x ∨ x + 42 < b) → h1.1 b = h.1 b) ∧ match (match rdF bs e a fs.isEmpty with | .error p => (.error p : Ex (List Fm)) | .ok fm => rdD bs e n (a + 8 + 2 * fm.2.2.2.2.length) (fs ++ [fm])) with
        | .ok fs' => r = nI 0 ∧ SeX h1 x (mm, pc, fs')
        | .error p => r = fcode p := by
      have hff := p_frameFault (x := x) (e := e) (a := a) (n := fs.length) (first := fs.isEmpty) hB hN hN2 hb ha he hs.2.2.1 (by omega) (by cases fs <;> simp)
      unfold fX4_takeFrames_31
      rw [hff, am_bs]
      cases hrd : rdF bs e a fs.isEmpty with
      | error p =>
        have hp : ¬ fcode p = 0 := by
          have hk : (1 ≤ p.1 ∧ p.1 ≤ 15) ∧ p.2 < 65536 := by
            unfold rdF at hrd
            split at hrd
            · cases hrd; exact ⟨⟨Nat.le_of_ble_eq_true rfl, Nat.le_of_ble_eq_true rfl⟩, by simp only; omega⟩
            · split at hrd
              · next k hk =>
                have : k < 6 := by
                  split at hk
                  · have := bad6_lt hk; omega
                  · exact badL_lt hk
                cases hrd
                exact ⟨⟨Nat.le_of_ble_eq_true rfl, Nat.le_of_ble_eq_true rfl⟩, by simp only; omega⟩
              · split at hrd
                · cases hrd; exact ⟨⟨Nat.le_of_ble_eq_true rfl, Nat.le_of_ble_eq_true rfl⟩, by simp only; omega⟩
                · split at hrd
                  · cases hrd; exact ⟨⟨Nat.le_of_ble_eq_true rfl, Nat.le_of_ble_eq_true rfl⟩, by simp only; omega⟩
                  · cases hrd
          unfold fcode
          rw [pb_eq0 (by omega)]
          omega
        simp only
        rw [if_neg hp]
        exact ⟨_, h, rfl, rfl, fun _ _ => rfl, rfl⟩
      | ok fm =>
        obtain ⟨h1, b1, b2, b3, b4⟩ := p_takeFrame hx hN hN2 aq hb he hR hB hs (by omega) hrd
        have hBq : Byt h1 q c N bs := hB.eq (by rw [b3]) (b4 q (by have h1 := fun z y => (aq q z y).1; omega)) (b4 c (by have h1 := fun z y => (aq c z y).2; omega))
        obtain ⟨r1, r2, r3, r4, r5⟩ := rdF_ok hrd
        have hlen : fm.2.2.2.2.length = bs.getD (a + 3) 0 % 16 + nbA bs 2 (a + 6) 0 := by rw [r5]; simp [frOf, words_len]
        obtain ⟨r, h2, c1, c2, c3, c4⟩ := p_takeFrames_loop hx hN hN2 aq hb he n z (a + 8 + 2 * fm.2.2.2.2.length) h1 (fs ++ [fm]) (hR.eq b3) hBq b2 (by simp; omega) (by omega) (by omega)
        simp only
        rw [if_pos (by decide), b1, am_bs, pb_add]
        refine ⟨r, h2, ?_, c2.trans b3, fun b hb' => by rw [c3 b hb', b4 b hb'], c4⟩
        simpa using c1
    by_cases c0 : fs = []
    · rw [if_pos (by rw [c0]; decide), if_neg (fun z => z.1 c0)]
      exact step
    · have hpos : 0 < fs.length := List.length_pos_iff.mpr c0
      rw [if_neg (by rw [pb_le0 (by omega)]; omega)]
      by_cases c1 : e ≤ a
      · rw [if_neg (by rw [pb_ltI (by omega) (by omega)]; omega), if_pos ⟨c0, c1⟩]
        exact ⟨_, h, rfl, rfl, fun _ _ => rfl, rfl, hs⟩
      · rw [if_pos (by rw [pb_ltI (by omega) (by omega)]; omega), if_neg (fun z => c1 z.2)]
        exact step
theorem SeX.none {q pc : Nat} {mm : List Nat} {fs : List Fm} (hs : SeX h q (mm, pc, fs)) : SeX (am_setI h q 4 (nI 0)) q (mm, pc, []) := by
  obtain ⟨c1, c2, c3, c4, c5⟩ := hs
  refine ⟨by rw [ps_s, ps_un (by decide)]; exact c1, by rw [ps_s, ps_un (by decide)]; exact c2, by rw [ps_s, ps_us]; rfl, fun i hi => by rw [ps_n (by omega)]; exact c4 i hi, fun i fm hi => by simp at hi⟩
theorem p_takeFrames {x q c N e a pc : Nat} {bs mm : List Nat} {fs : List Fm} (hx : SQ x) (hN : am_len GG c = N) (hN2 : N ≤ 10000) (aq : ∀ b, x ≤ b → b ≤ x + 42 → b ≠ q ∧ b ≠ c) (hb : By bs) (he : e ≤ 10000) (ha : a ≤ e) (hR : RX h s t u v) (hB : Byt h q c N bs) (hs : SeX h x (mm, pc, fs)) : ∃ r h1, fX4_takeFrames GG x q (nI a) (nI e) h = some (r, h1) ∧ h1.2 = h.2 ∧ (∀ b, (b < x ∨ x + 42 < b) → h1.1 b = h.1 b) ∧ match rdD bs e 20 a [] with
    | .ok fs' => r = nI 0 ∧ SeX h1 x (mm, pc, fs')
    | .error p => r = fcode p := by
  have q1 := aq x (by omega) (by omega)
  obtain ⟨r, h1, e1, e2, e3, e4⟩ := p_takeFrames_loop (s := s) (t := t) (u := u) (v := v) hx hN hN2 aq hb he 20 am_fuel a (am_setI h x 4 (nI 0)) [] (hR.eq rfl) (hB.eq rfl (ps_n (fun z => q1.1 z.symm)) (ps_n (fun z => q1.2 z.symm))) hs.none rfl (by unfold am_fuel; omega) ha
  refine ⟨r, h1, ?_, e2, fun b hb' => by rw [e3 b hb', ps_n (by omega)], e4⟩
  unfold fX4_takeFrames
  rw [am_let_eq]
  exact e1
end READ2
