/-! ===== the model makes runs, frames ===== -/
theorem be1 {d : Nat} (h : d < 256) : be d 1 = [d] := by
  simp [be, Nat.mod_eq_of_lt h]
/-- what a making keeps: all but the bytes that are made and how many -/
def Kp (h h1 : AH) : Prop := Fr h h1 [119, 134] ∧ ∀ j, j ≠ 27 → h1.1 119 j = h.1 119 j
theorem Kp.rf {h : AH} : Kp h h := ⟨Fr.rf, fun _ _ => rfl⟩
theorem Kp.tr {h h1 h2 : AH} (a : Kp h h1) (b : Kp h1 h2) : Kp h h2 := ⟨a.1.tr b.1, fun j hj => (b.2 j hj).trans (a.2 j hj)⟩
theorem Kp.c {h h1 : AH} (a : Kp h h1) {n : Nat} (hn : n ≠ 119) (hn2 : n ≠ 134) : h1.1 n = h.1 n := a.1.2 n (by simp [hn, hn2])
section MAKE
variable {s t u v : Nat}
theorem q_number1 {h : AH} (hR : RX h s t u v) {bs : List Nat} (hM : Mk h bs) {d : Nat} (hd : d < 256) (hl : bs.length + 1 ≤ 8000) : ∃ h1, fX9_number GG 119 (nI d) (nI 1) h = some ((), h1) ∧ Mk h1 (bs ++ [d]) ∧ Kp h h1 := by
  obtain ⟨h1, e1, e2, e3, e4⟩ := q_number hR hM (nI d) (n := 1) (by decide) hl
  rw [uN_nI (by omega), be1 hd] at e2
  exact ⟨h1, e1, e2, e3, e4⟩
theorem q_numberN {h : AH} (hR : RX h s t u v) {bs : List Nat} (hM : Mk h bs) {d n : Nat} (hd : d < 2 ^ 32) (hn : n ≤ 4) (hl : bs.length + n ≤ 8000) : ∃ h1, fX9_number GG 119 (nI d) (nI n) h = some ((), h1) ∧ Mk h1 (bs ++ be d n) ∧ Kp h h1 := by
  obtain ⟨h1, e1, e2, e3, e4⟩ := q_number hR hM (nI d) (n := n) hn hl
  rw [uN_nI hd] at e2
  exact ⟨h1, e1, e2, e3, e4⟩
theorem q_zeros (k4 : Nat → Nat → Int32 → Int32 → AH → Option (Unit × AH)) (a i d : Nat) (hd : d < 256) : ∀ (z left : Nat) (h : AH) (bs : List Nat), left < z → left < 2 ^ 30 → RX h s t u v → Mk h bs → bs.length + (zrun left).length + 1 ≤ 8000 → ∃ h1, fX9_makeB_35 GG k4 z 119 a (nI left) (nI i) (nI d) h = k4 119 a (nI 0) (nI (i + 1)) h1 ∧ Mk h1 (bs ++ (zrun left ++ [d])) ∧ Kp h h1
  | 0, left, h, bs, hz, _, _, _, _ => by omega
  | z + 1, left, h, bs, hz, hl, hR, hM, hN => by
    by_cases h0 : left = 0
    · subst h0
      obtain ⟨h1, e1, e2, e3⟩ := q_number1 hR hM hd (by simp [zrun_0] at hN; omega)
      refine ⟨h1, ?_, by simpa [zrun_0] using e2, e3⟩
      unfold fX9_makeB_35
      rw [if_pos (by decide), e1]
      simp only [am_bind, Option.bind_some, fX9_makeB_85, pb_add]
    · have hpos : 0 < left := by omega
      rw [zrun_step hpos] at hN ⊢
      simp only [List.length_append, List.length_cons, List.length_nil] at hN
      obtain ⟨h1, e1, e2, e3⟩ := q_number1 hR hM (d := 0) (by decide) (by omega)
      obtain ⟨h2, f1, f2, f3⟩ := q_number1 (hR.eq e3.1.1) e2 (d := min left 256 - 1) (by omega) (by simp; omega)
      have hR2 : RX h2 s t u v := hR.eq (f3.1.1.trans e3.1.1)
      obtain ⟨h3, g1, g2, g3⟩ := q_zeros k4 a i d hd z (left - 256) h2 _ (by omega) (by omega) hR2 f2 (by simp; omega)
      refine ⟨h3, ?_, by simpa using g2, (e3.tr f3).tr g3⟩
      rw [← g1]
      have step : ∀ n : Nat, n = min left 256 → fX9_makeB_53 GG k4 (fX9_makeB_35 GG k4 z) 119 a (nI left) (nI i) (nI d) (nI n) h = fX9_makeB_35 GG k4 z 119 a (nI (left - 256)) (nI i) (nI d) h2 := by
        intro n hn
        subst hn
        unfold fX9_makeB_53
        rw [e1]
        simp only [am_bind, Option.bind_some]
        rw [pb_sub (show 1 ≤ min left 256 by omega), f1]
        simp only [Option.bind_some, am_let]
        rw [pb_sub (by omega), show left - min left 256 = left - 256 by omega]
      show (if nI left ≤ 0 then _ else _) = _
      rw [if_neg (by rw [pb_le0 (by omega)]; omega)]
      by_cases hle : left ≤ 256
      · rw [if_pos (by rw [pb_le (by omega) (by decide)]; exact hle)]
        exact step left (by omega)
      · rw [if_neg (by rw [pb_le (by omega) (by decide)]; exact hle)]
        exact step 256 (by omega)
theorem q_makeB_loop (mm ow : List Nat) (hm : mm.length ≤ 1000) (hmo : mm.length = ow.length) (bm : By mm) (bo : By ow) (f g : Nat → Int32) (k1 : ∀ i, i < mm.length → f i = nI (mm.getD i 0)) (k2 : Arr g ow) :
    ∀ (ms os : List Nat) (z i zz : Nat) (h : AH) (bs : List Nat), RX h s t u v → h.1 125 = f → h.1 124 = g → h.1 119 9 = nI ow.length → mm.drop i = ms → ow.drop i = os → i ≤ mm.length → z ≤ i → ms.length < zz → Mk h bs → bs.length + (encB ms os z).length ≤ 8000 → ∃ h1, fX9_makeB_4 GG zz 119 125 (nI z) (nI i) h = some ((), h1) ∧ Mk h1 (bs ++ encB ms os z) ∧ Kp h h1
  | ms, os, z, i, 0, h, bs, _, _, _, _, _, _, _, _, hzz, _, _ => by omega
  | [], os, z, i, zz + 1, h, bs, hR, p1, p2, p3, d1, d2, hi, hz, _, hM, _ => by
    have : mm.length ≤ i := by simpa using List.drop_eq_nil_iff.mp d1
    refine ⟨h, ?_, by simpa [encB] using hM, Kp.rf⟩
    unfold fX9_makeB_4
    rw [p3, if_pos (by rw [pb_le (by omega) (by omega)]; omega)]
  | m :: ms, os, z, i, zz + 1, h, bs, hR, p1, p2, p3, d1, d2, hi, hz, hzz, hM, hN => by
    obtain ⟨g1, g2, g3⟩ := getD_drop d1
    cases os with
    | nil =>
      have := List.drop_eq_nil_iff.mp d2
      omega
    | cons o os =>
      obtain ⟨g4, g5, g6⟩ := getD_drop d2
      have bm' : m < 256 := by rw [← g1]; exact getD_lt bm i
      have bo' : o < 256 := by rw [← g4]; exact getD_lt bo i
      have hx8 := xor_lt bm' bo'
      simp only [List.length_cons] at hzz
      have hhead : fX9_makeB_4 GG (zz + 1) 119 125 (nI z) (nI i) h = if nI (m ^^^ o) = 0 then fX9_makeB_85 GG (fX9_makeB_4 GG zz) 119 125 (nI z + nI 1) (nI i) h else fX9_makeB_35 GG (fX9_makeB_4 GG zz) am_fuel 119 125 (nI z) (nI i) (nI (m ^^^ o)) h := by
        show (if h.1 119 9 ≤ nI i then _ else _) = _
        rw [p3, if_neg (by rw [pb_le (by omega) (by omega)]; omega), ln_125, if_pos (pb_ok (by omega) (by decide)), hR.r119_8, Option.bind_some, ln_124, if_pos (pb_ok (by omega) (by decide)), pb_cl (by omega), p1, p2, k1 i g3, k2 i g6, g1, g4, xor_nI (by omega) (by omega)]
        rfl
      rw [hhead]
      unfold encB at hN ⊢
      by_cases hx : m ^^^ o = 0
      · rw [if_pos hx] at hN ⊢
        obtain ⟨h1, e1, e2, e3⟩ := q_makeB_loop mm ow hm hmo bm bo f g k1 k2 ms os (z + 1) (i + 1) zz h bs hR p1 p2 p3 g2 g5 (by omega) (by omega) (by omega) hM hN
        refine ⟨h1, ?_, e2, e3⟩
        rw [hx, if_pos (by decide), ← e1]
        simp only [fX9_makeB_85, pb_add]
      · rw [if_neg hx] at hN ⊢
        simp only [List.length_append, List.length_cons] at hN
        obtain ⟨h1, e1, e2, e3⟩ := q_zeros (fX9_makeB_4 GG zz) 125 i (m ^^^ o) hx8 am_fuel z h bs (by unfold am_fuel; omega) (by omega) hR hM (by omega)
        obtain ⟨h2, r1, r2, r3⟩ := q_makeB_loop mm ow hm hmo bm bo f g k1 k2 ms os 0 (i + 1) zz h1 _ (hR.eq e3.1.1) (by rw [e3.c (by decide) (by decide)]; exact p1) (by rw [e3.c (by decide) (by decide)]; exact p2) (by rw [e3.2 9 (by decide)]; exact p3) g2 g5 (by omega) (by omega) (by omega) e2 (by simp; omega)
        refine ⟨h2, ?_, by simpa using r2, e3.tr r3⟩
        rw [if_neg (by rw [pb_eq0 (by omega)]; exact hx), e1]
        exact r1
theorem q_words (k2 : Nat → Nat → Int32 → AH → Option (Unit × AH)) (i o : Nat) (ho : o + 60 ≤ 2202) (ws : List Nat) (hl : ws.length ≤ 55) (hw : ∀ w ∈ ws, w < 65536) (f : Nat → Int32) (nl : Nat) (hnl : nl ≤ ws.length) (j3 : f (o + 3) = nI nl) (j4 : f (o + 4) = nI (ws.length - nl)) (j5 : ∀ k, k < ws.length → f (o + 5 + k) = nI (ws.getD k 0)) :
    ∀ (ms : List Nat) (k z : Nat) (h : AH) (bs : List Nat), RX h s t u v → h.1 125 = f → ws.drop k = ms → k ≤ ws.length → ms.length < z → Mk h bs → bs.length + 2 * ms.length ≤ 8000 → ∃ h1, fX9_makeD_113 GG k2 z 119 125 (nI i) (nI o) (nI k) h = k2 119 125 (nI (i + 1)) h1 ∧ Mk h1 (bs ++ ms.flatMap (fun w => be w 2)) ∧ Kp h h1
  | ms, k, 0, h, bs, _, _, _, _, hz, _, _ => by omega
  | [], k, z + 1, h, bs, hR, p1, d1, hk, _, hM, _ => by
    have : ws.length ≤ k := by simpa using List.drop_eq_nil_iff.mp d1
    refine ⟨h, ?_, by simpa using hM, Kp.rf⟩
    unfold fX9_makeD_113
    simp (disch := omega) only [pb_add, ln_125, pb_ok, pb_cl, p1, j3, j4, if_true, if_false]
    rw [if_pos (by rw [pb_le (by omega) (by omega)]; omega)]
  | m :: ms, k, z + 1, h, bs, hR, p1, d1, hk, hz, hM, hN => by
    obtain ⟨g1, g2, g3⟩ := getD_drop d1
    have hm : m < 65536 := hw m (by rw [← List.take_append_drop k ws, d1]; simp)
    simp only [List.length_cons] at hz hN
    obtain ⟨h1, e1, e2, e3⟩ := q_numberN hR hM (d := m) (n := 2) (by omega) (by decide) (by omega)
    obtain ⟨h2, r1, r2, r3⟩ := q_words k2 i o ho ws hl hw f nl hnl j3 j4 j5 ms (k + 1) z h1 _ (hR.eq e3.1.1) (by rw [e3.c (by decide) (by decide)]; exact p1) g2 (by omega) (by omega) e2 (by simp [be_len]; omega)
    refine ⟨h2, ?_, by simpa using r2, e3.tr r3⟩
    rw [← r1]
    show (if am_ok (nI o + nI 3) (am_len GG 125) then _ else _) = _
    simp (disch := omega) only [pb_add, ln_125, pb_ok, pb_cl, p1, j3, j4, if_true, if_false]
    rw [if_neg (by rw [pb_le (by omega) (by omega)]; omega), j5 k g3, g1, e1]
    simp only [am_bind, Option.bind_some]
theorem q_frame (k2 : Nat → Nat → Int32 → AH → Option (Unit × AH)) (i : Nat) (hi : i < 20) {fm : Fm} (hw : WFm fm) {h : AH} {bs : List Nat} (hR : RX h s t u v) (hF : FrM (h.1 125) (1002 + 60 * i) fm) (hM : Mk h bs) (hN : bs.length + (encF fm).length ≤ 8000) (sv : Int32) (hsv : sv = if fm.2.1 = none then nI 1 else nI 0) : ∃ h1, fX9_makeD_35 GG k2 119 125 (nI i) (nI (1002 + 60 * i)) sv h = k2 119 125 (nI (i + 1)) h1 ∧ Mk h1 (bs ++ encF fm) ∧ Kp h h1 := by
  rw [encF_len] at hN
  obtain ⟨bk, re, ar, nl, ws⟩ := fm
  obtain ⟨f1, f2, f3, f4, f5, f6⟩ := hF
  obtain ⟨w1, w2, w3, w4, w5, w6, w7⟩ := hw
  simp only at hN hsv
  have har : 2 ^ ar ≤ 2 ^ 7 := Nat.pow_le_pow_right (by decide) w3
  obtain ⟨h1, a1, a2, a3⟩ := q_numberN hR hM (d := bk) (n := 3) (by omega) (by decide) (by omega)
  have hR1 := hR.eq a3.1.1
  have x1 : h1.1 125 = h.1 125 := a3.c (by decide) (by decide)
  obtain ⟨h2, b1, b2, b3⟩ := q_number1 hR1 a2 (d := nl + (if re = none then 16 else 0)) (by split <;> omega) (by simp [be_len]; omega)
  have hR2 := hR1.eq b3.1.1
  have x2 : h2.1 125 = h.1 125 := (b3.c (by decide) (by decide)).trans x1
  obtain ⟨h3, c1, c2, c3⟩ := q_number1 hR2 b2 (d := re.getD 0) (by
    cases re with
    | none => decide
    | some r => exact w2 r rfl) (by simp [be_len]; omega)
  have hR3 := hR2.eq c3.1.1
  have x3 : h3.1 125 = h.1 125 := (c3.c (by decide) (by decide)).trans x2
  obtain ⟨h4, d1, d2, d3⟩ := q_number1 hR3 c2 (d := 2 ^ ar - 1) (by omega) (by simp [be_len]; omega)
  have hR4 := hR3.eq d3.1.1
  have x4 : h4.1 125 = h.1 125 := (d3.c (by decide) (by decide)).trans x3
  obtain ⟨h5, e1, e2, e3⟩ := q_numberN hR4 d2 (d := ws.length - nl) (n := 2) (by omega) (by decide) (by simp [be_len]; omega)
  have hR5 := hR4.eq e3.1.1
  have x5 : h5.1 125 = h.1 125 := (e3.c (by decide) (by decide)).trans x4
  obtain ⟨h6, g1, g2, g3⟩ := q_words k2 i (1002 + 60 * i) (by omega) ws (by omega) w7 (h.1 125) nl w5 f4 f5 f6 ws 0 am_fuel h5 _ hR5 x5 rfl (by omega) (by unfold am_fuel; omega) e2 (by simp [be_len]; omega)
  have hlast : ∀ y : Int32, fX9_number GG 119 y (nI 1) h2 = some ((), h3) → fX9_makeD_82 GG k2 119 125 (nI i) (nI (1002 + 60 * i)) 119 y h2 = k2 119 125 (nI (i + 1)) h6 := by
    intro y hy
    unfold fX9_makeD_82
    rw [hy]
    simp (disch := omega) only [am_bind, Option.bind_some, pb_add, ln_125, pb_ok, pb_cl, x3, f3, if_true, if_false]
    rw [shl1 w3, d1]
    simp (disch := omega) only [Option.bind_some, x4, f5, e1, if_true, if_false]
    exact g1
  refine ⟨h6, ?_, by simpa [encF] using g2, ((((a3.tr b3).tr c3).tr d3).tr e3).tr g3⟩
  unfold fX9_makeD_35
  rw [ln_125, if_pos (pb_ok (by omega) (by decide)), pb_cl (by omega), f1, a1]
  simp (disch := omega) only [am_bind, Option.bind_some, pb_add, pb_ok, pb_cl, x1, f4, if_true, if_false]
  subst hsv
  cases re with
  | none =>
    simp only [if_true] at b1 ⊢
    rw [if_neg (by decide)]
    unfold fX9_makeD_62
    rw [pb_add, b1]
    simp only [am_bind, Option.bind_some]
    rw [if_neg (by decide)]
    exact hlast _ c1
  | some r =>
    simp only [reduceCtorEq, if_false, Nat.add_zero] at b1 ⊢
    rw [if_pos (by decide)]
    unfold fX9_makeD_62
    rw [pb_add, Nat.add_zero, b1]
    simp (disch := omega) only [am_bind, Option.bind_some, pb_add, ln_125, pb_ok, pb_cl, x2, f2, if_true, if_false]
    rw [if_pos (by decide)]
    exact hlast _ c1
end MAKE
