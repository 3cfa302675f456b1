/-! ===== the class tells frames ===== -/
theorem rI_none {re : Option Nat} (hr : ∀ r, re = some r → r < 256) : (rI re = (-2 : Int32)) ↔ re = none := by
  cases re with
  | none => simp [rI]
  | some r =>
    have := hr r rfl
    simp only [rI, reduceCtorEq, iff_false]
    intro hz
    have h1 := nI_pos' (show r < 2 ^ 31 by omega)
    rw [hz] at h1
    exact absurd h1 (by decide)
theorem shl1 {ar : Nat} (h : ar ≤ 7) : am_shl (nI 1) (nI ar) - nI 1 = nI (2 ^ ar - 1) := by
  have : ar = 0 ∨ ar = 1 ∨ ar = 2 ∨ ar = 3 ∨ ar = 4 ∨ ar = 5 ∨ ar = 6 ∨ ar = 7 := by omega
  rcases this with rfl | rfl | rfl | rfl | rfl | rfl | rfl | rfl <;> decide
section TELL2
variable {q c N x y : Nat}
theorem p_tell_loop (hN : am_len GG c = N) (hN2 : N < 2 ^ 31) (hqc : q ≠ c) (ax : x ∉ [q, c]) (ay : y ∉ [q, c]) (hy : am_len GG y = 55) (ws : List Nat) (hl : ws.length ≤ 55) (hw : ∀ w ∈ ws, w < 65536) (f g : Nat → Int32) (k1 : f 4 + f 5 = nI ws.length) (k2 : ∀ k, k < ws.length → g k = nI (ws.getD k 0)) :
    ∀ (ms : List Nat) (i z : Nat) (h : AH) (bs : List Nat), h.2 x 0 = some y → h.1 x = f → h.1 y = g → ws.drop i = ms → i ≤ ws.length → ms.length < z → Byt h q c N bs → bs.length + 2 * ms.length ≤ N → ∃ h1, fX1_tell_85 GG z x q (nI i) h = some ((), h1) ∧ Byt h1 q c N (bs ++ ms.flatMap (fun w => be w 2)) ∧ Fr h h1 [q, c]
  | ms, i, 0, h, bs, _, _, _, _, _, hz, _, _ => by omega
  | [], i, z + 1, h, bs, hr, p1, p2, d1, hi, _, hB, _ => by
    have : ws.length ≤ i := by simpa using List.drop_eq_nil_iff.mp d1
    refine ⟨h, ?_, by simpa using hB, Fr.rf⟩
    unfold fX1_tell_85 fX1_words
    simp only [am_bind, Option.bind_some, p1, k1]
    rw [if_pos (by rw [pb_le (by omega) (by omega)]; omega)]
  | m :: ms, i, z + 1, h, bs, hr, p1, p2, d1, hi, hz, hB, hN3 => by
    obtain ⟨g1, g2, g3⟩ := getD_drop d1
    have hm : m < 65536 := hw m (by rw [← List.take_append_drop i ws, d1]; simp)
    simp only [List.length_cons] at hz hN3
    obtain ⟨h1, e1, e2, e3⟩ := p_addNumber (h := h) hB hN hN2 hqc (nI m) (n := 2) (by decide) (by omega)
    rw [uN_nI (by omega)] at e2
    obtain ⟨h2, r1, r2, r3⟩ := p_tell_loop hN hN2 hqc ax ay hy ws hl hw f g k1 k2 ms (i + 1) z h1 _ (by rw [e3.1]; exact hr) (by rw [e3.2 x ax]; exact p1) (by rw [e3.2 y ay]; exact p2) g2 (by omega) (by omega) e2 (by simp [be_len]; omega)
    refine ⟨h2, ?_, by simpa using r2, e3.tr r3⟩
    rw [← r1]
    show am_bind (fX1_words GG x h) _ = _
    unfold fX1_words
    simp only [am_bind, Option.bind_some, p1, k1]
    rw [if_neg (by rw [pb_le (by omega) (by omega)]; omega), p_wordAt hr hy (by omega), p2, k2 i g3, g1]
    simp only [Option.bind_some, e1, pb_add]
theorem p_tell {h : AH} {bs : List Nat} (hN : am_len GG c = N) (hN2 : N < 2 ^ 31) (hqc : q ≠ c) (ax : x ∉ [q, c]) (ay : y ∉ [q, c]) (hy : am_len GG y = 55) (hr : h.2 x 0 = some y) {fm : Fm} (hF : FrX (h.1 x) (h.1 y) fm) (hw : WFm fm) (hB : Byt h q c N bs) (hN3 : bs.length + (encF fm).length ≤ N) : ∃ h1, fX1_tell GG x q h = some ((), h1) ∧ Byt h1 q c N (bs ++ encF fm) ∧ Fr h h1 [q, c] := by
  rw [encF_len] at hN3
  obtain ⟨bk, re, ar, nl, ws⟩ := fm
  obtain ⟨f1, f2, f3, f4, f5, f6⟩ := hF
  obtain ⟨w1, w2, w3, w4, w5, w6, w7⟩ := hw
  simp only at hN3
  -- back
  obtain ⟨h1, a1, a2, a3⟩ := p_addNumber (h := h) hB hN hN2 hqc (nI bk) (n := 3) (by decide) (by omega)
  rw [uN_nI (by omega)] at a2
  have x1 : h1.1 x = h.1 x := a3.2 x ax
  -- locals
  obtain ⟨h2, b1, b2, b3⟩ := p_add a2 hN hN2 hqc (by simp [be_len]; omega) (b := nI (nl + (if re = none then 16 else 0))) (v := nl + (if re = none then 16 else 0)) (and255 (by split <;> omega))
  have x2 : h2.1 x = h.1 x := (b3.2 x ax).trans x1
  -- result
  obtain ⟨h3, c1, c2, c3⟩ := p_add b2 hN hN2 hqc (by simp [be_len]; omega) (b := nI (re.getD 0)) (v := re.getD 0) (and255 (by
    cases re with
    | none => decide
    | some r => exact w2 r rfl))
  have x3 : h3.1 x = h.1 x := (c3.2 x ax).trans x2
  -- arguments
  have har : 2 ^ ar ≤ 2 ^ 7 := Nat.pow_le_pow_right (by decide) w3
  obtain ⟨h4, d1, d2, d3⟩ := p_add c2 hN hN2 hqc (by simp [be_len]; omega) (b := nI (2 ^ ar - 1)) (v := 2 ^ ar - 1) (and255 (by omega))
  have x4 : h4.1 x = h.1 x := (d3.2 x ax).trans x3
  -- depth
  obtain ⟨h5, e1, e2, e3⟩ := p_addNumber (h := h4) d2 hN hN2 hqc (nI (ws.length - nl)) (n := 2) (by decide) (by simp [be_len]; omega)
  rw [uN_nI (by omega)] at e2
  have hFr : Fr h h5 [q, c] := (((a3.tr b3).tr c3).tr d3).tr e3
  -- words
  obtain ⟨h6, g1, g2, g3⟩ := p_tell_loop hN hN2 hqc ax ay hy ws (by omega) w7 (h.1 x) (h.1 y) (by rw [f4, f5, pb_add]; congr 1; omega) f6 ws 0 am_fuel h5 _ (by rw [hFr.1]; exact hr) (hFr.2 x ax) (hFr.2 y ay) rfl (by omega) (by unfold am_fuel; omega) e2 (by simp [be_len]; omega)
  have hlast : ∀ sv : Int32, fX0_add GG q sv h2 = some ((), h3) → fX1_tell_59 GG x q q sv h2 = some ((), h6) := by
    intro sv hsv
    unfold fX1_tell_59
    rw [hsv]
    simp only [am_bind, Option.bind_some, x3, f3]
    rw [shl1 w3, d1]
    simp only [Option.bind_some, x4, f5, e1]
    exact g1
  refine ⟨h6, ?_, by simpa [encF] using g2, hFr.tr g3⟩
  unfold fX1_tell
  rw [f2]
  cases re with
  | none =>
    rw [if_pos (show rI none = -2 from rfl)]
    unfold fX1_tell_14
    rw [f1, a1]
    simp only [am_bind, Option.bind_some, x1, f4]
    rw [if_neg (by decide), pb_add]
    unfold fX1_tell_43
    simp only [if_true] at b1
    rw [b1]
    simp only [am_bind, Option.bind_some]
    rw [if_neg (by decide)]
    exact hlast _ c1
  | some r =>
    rw [if_neg (by rw [rI_none w2]; simp)]
    unfold fX1_tell_14
    rw [f1, a1]
    simp only [am_bind, Option.bind_some, x1, f4]
    rw [if_pos (by decide)]
    unfold fX1_tell_43
    simp only [reduceCtorEq, if_false, Nat.add_zero] at b1
    rw [b1]
    simp only [am_bind, Option.bind_some]
    rw [if_pos (by decide), x2, f2]
    exact hlast _ c1
theorem p_tellFrames_loop {s t u v : Nat} (hx : SQ x) (hN : am_len GG c = N) (hN2 : N < 2 ^ 31) (hqc : q ≠ c) (aq : ∀ a, 23 ≤ a → a ≤ 108 → a ∉ [q, c]) (fs : List Fm) (hl : fs.length ≤ 20) (hw : ∀ fm ∈ fs, WFm fm) (h0 : AH) (k1 : h0.1 x 4 = nI fs.length) (k2 : ∀ (i : Nat) (fm : Fm), fs[i]? = some fm → FrX (h0.1 (x + 3 + 2 * i)) (h0.1 (x + 4 + 2 * i)) fm) :
    ∀ (ms : List Fm) (i z : Nat) (h : AH) (bs : List Nat), RX h s t u v → Fr h0 h [q, c] → fs.drop i = ms → i ≤ fs.length → ms.length < z → Byt h q c N bs → bs.length + (encD ms).length ≤ N → ∃ h1, fX4_tellFrames_2 GG z x q (nI i) h = some ((), h1) ∧ Byt h1 q c N (bs ++ encD ms) ∧ Fr h h1 [q, c]
  | ms, i, 0, h, bs, _, _, _, _, hz, _, _ => by omega
  | [], i, z + 1, h, bs, hR, hF, d1, hi, _, hB, _ => by
    have hs : 23 ≤ x ∧ x ≤ 66 := by rcases hx with rfl | rfl <;> decide
    have : fs.length ≤ i := by simpa using List.drop_eq_nil_iff.mp d1
    refine ⟨h, ?_, by simpa [encD] using hB, Fr.rf⟩
    unfold fX4_tellFrames_2
    rw [hF.2 x (aq x (by omega) (by omega)), k1, if_pos (by rw [pb_le (by omega) (by omega)]; omega)]
  | m :: ms, i, z + 1, h, bs, hR, hF, d1, hi, hz, hB, hN3 => by
    have hs : 23 ≤ x ∧ x ≤ 66 := by rcases hx with rfl | rfl <;> decide
    have hi' : i < fs.length := by
      rcases Nat.lt_or_ge i fs.length with hh | hh
      · exact hh
      · rw [List.drop_eq_nil_of_le hh] at d1; cases d1
    have hd := List.drop_eq_getElem_cons hi'
    rw [d1] at hd
    injection hd with hd1 hd2
    have hget : fs[i]? = some m := by rw [List.getElem?_eq_getElem hi', hd1]
    have hcell : ∀ a, 23 ≤ a → a ≤ 108 → h.1 a = h0.1 a := fun a h1 h2 => hF.2 a (aq a h1 h2)
    have hmw : WFm m := hw m (List.mem_of_getElem? hget)
    have hsplit : encD (m :: ms) = encF m ++ encD ms := by simp [encD]
    rw [hsplit] at hN3 ⊢
    simp only [List.length_append, List.length_cons] at hN3 hz
    obtain ⟨h1, e1, e2, e3⟩ := p_tell (h := h) (bs := bs) (x := x + 3 + 2 * i) (y := x + 4 + 2 * i) hN hN2 hqc (aq _ (by omega) (by omega)) (aq _ (by omega) (by omega)) (hx.row i (by omega)) (hx.rr hR (by omega)) (fm := m) (by rw [hcell _ (by omega) (by omega), hcell _ (by omega) (by omega)]; exact k2 i m hget) hmw hB (by omega)
    obtain ⟨h2, r1, r2, r3⟩ := p_tellFrames_loop hx hN hN2 hqc aq fs hl hw h0 k1 k2 ms (i + 1) z h1 _ (hR.eq e3.1) (hF.tr e3) hd2.symm (by omega) (by omega) e2 (by simp; omega)
    refine ⟨h2, ?_, by simpa using r2, e3.tr r3⟩
    rw [← r1]
    show (if h.1 x 4 ≤ nI i then _ else _) = _
    rw [hcell x (by omega) (by omega), k1, if_neg (by rw [pb_le (by omega) (by omega)]; omega), p_frameAt hx hR (n := fs.length) (by rw [hcell x (by omega) (by omega)]; exact k1) hl hi']
    simp only [am_bind, Option.bind_some, Option.elim_some, e1, fX4_tellFrames_25, pb_add]
end TELL2
