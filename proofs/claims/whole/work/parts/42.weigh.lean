/-! ===== weighing; told; print ===== -/
section WEIGH
variable {h : AH} {s t u v : Nat}
theorem p_clear0 {q c N : Nat} (hr : h.2 q 0 = some c) : ∃ h1, fX0_clear GG q h = some ((), h1) ∧ Byt h1 q c N [] ∧ Fr h h1 [q] :=
  ⟨am_setI h q 1 (nI 0), rfl, ⟨hr, by simp, by rw [ps_s, ps_us]; rfl, fun i hi => by simp at hi⟩, Fr.set (by simp)⟩
theorem p_tellRuns {x q c N : Nat} {hd ow mm bs : List Nat} {pc : Nat} {fs : List Fm} (hx : SQ x) (hN : am_len GG c = N) (hN2 : N < 2 ^ 31) (hqc : q ≠ c) (aq : ∀ a, ((23 ≤ a ∧ a ≤ 108) ∨ a = 14 ∨ a = 16) → a ∉ [q, c]) (hR : RX h s t u v) (hse : SeX h x (mm, pc, fs)) (hS : CS h hd ow) (hm : mm.length ≤ 1000) (hmo : mm.length = ow.length) (bm : By mm) (bo : By ow) (hB : Byt h q c N bs) (hl : bs.length + (encB mm ow 0).length ≤ N) : ∃ h1, fX4_tellRuns GG x 14 q h = some ((), h1) ∧ Byt h1 q c N (bs ++ encB mm ow 0) ∧ Fr h h1 [q, c] := by
  have hx' : x = 23 ∨ x = 66 := hx
  unfold fX4_tellRuns
  exact p_tellRuns_loop hx hN hN2 hqc mm ow hm hmo bm bo (h.1 x) (h.1 (x + 1)) (h.1 14) (h.1 16) (aq x (by omega)) (aq _ (by omega)) (aq _ (by omega)) (aq _ (by omega)) hse.1 hse.2.2.2.1 hS.1 hS.2.2 mm ow 0 0 am_fuel h bs hR rfl rfl rfl rfl rfl rfl (by omega) (by omega) (by unfold am_fuel; omega) hB hl
theorem p_tellFrames {x q c N : Nat} {mm bs : List Nat} {pc : Nat} {fs : List Fm} (hx : SQ x) (hN : am_len GG c = N) (hN2 : N < 2 ^ 31) (hqc : q ≠ c) (aq : ∀ a, 23 ≤ a → a ≤ 108 → a ∉ [q, c]) (hR : RX h s t u v) (hse : SeX h x (mm, pc, fs)) (hl : fs.length ≤ 20) (hw : ∀ fm ∈ fs, WFm fm) (hB : Byt h q c N bs) (hl2 : bs.length + (encD fs).length ≤ N) : ∃ h1, fX4_tellFrames GG x q h = some ((), h1) ∧ Byt h1 q c N (bs ++ encD fs) ∧ Fr h h1 [q, c] := by
  unfold fX4_tellFrames
  exact p_tellFrames_loop hx hN hN2 hqc aq fs hl hw h hse.2.2.1 hse.2.2.2.2 fs 0 am_fuel h bs hR Fr.rf rfl (by omega) (by unfold am_fuel; omega) hB hl2
theorem p_weighNow {hd ow mm : List Nat} {pc : Nat} {fs : List Fm} (hq : SQ s) (hR : RX h s t u v) (hS : CS h hd ow) (hse : SeX h s (mm, pc, fs)) (hw : WSn (mm, pc, fs)) (hmo : mm.length = ow.length) (bo : By ow) : ∃ h1, fX8_weighNow GG 0 h = some (nI (encB mm ow 0).length, h1) ∧ Byt h1 12 13 3860 (encS ow (mm, pc, fs)) ∧ Fr h h1 [12, 13] := by
  have hs' : s = 23 ∨ s = 66 := hq
  have hlen := encS_len (ow := ow) hw
  simp only [encS, List.length_append] at hlen
  obtain ⟨w1, w2, w3, w4, w5⟩ := hw
  obtain ⟨h1, a1, a2, a3⟩ := p_clear0 (h := h) (N := 3860) hR.r12_0
  have hR1 := hR.eq a3.1
  have k1 : ∀ a, a ≠ 12 → h1.1 a = h.1 a := fun a x => a3.2 a (by simp [x])
  obtain ⟨h2, b1, b2, b3⟩ := p_tellRuns hq ln_13 (by decide) (by decide) (fun a ha => by simp; omega) hR1 (hse.eq' w4 (fun a ha => k1 a (by omega))) (hS.eq (fun a ha => k1 a (by omega))) w1 hmo w2 bo a2 (by simp; omega)
  have hR2 := hR1.eq b3.1
  have k2 : ∀ a, a ≠ 12 → a ≠ 13 → h2.1 a = h.1 a := fun a x y => by rw [b3.2 a (by simp [x, y]), k1 a x]
  obtain ⟨h3, c1, c2, c3⟩ := p_tellFrames hq ln_13 (by decide) (by decide) (fun a ha hb => by simp; omega) hR2 (hse.eq' w4 (fun a ha => k2 a (by omega) (by omega))) w4 w5 b2 (by simp; omega)
  refine ⟨h3, ?_, ?_, ((a3.mo (by simp)).tr b3).tr c3⟩
  · unfold fX8_weighNow
    rw [hR.r0_5, Option.bind_some, a1, am_bs, hR1.r0_8, Option.bind_some, hR1.r0_6, Option.bind_some, hR1.r0_5, Option.bind_some, b1, am_bs, hR2.r0_5, Option.bind_some, am_let_eq, hR2.r0_8, Option.bind_some, Option.bind_some, c1, am_bs, b2.2.2.1, List.nil_append]
  · simpa [encS] using c2
theorem q_makeD_loop (fs : List Fm) (hl : fs.length ≤ 20) (hw : ∀ fm ∈ fs, WFm fm) (g : Nat → Int32) (k1 : g 1001 = nI fs.length) (k2 : ∀ (i : Nat) (fm : Fm), fs[i]? = some fm → FrM g (1002 + 60 * i) fm) :
    ∀ (ms : List Fm) (i z : Nat) (h : AH) (bs : List Nat), RX h s t u v → h.1 125 = g → fs.drop i = ms → i ≤ fs.length → ms.length < z → Mk h bs → bs.length + (encD ms).length ≤ 8000 → ∃ h1, fX9_makeD_2 GG z 119 125 (nI i) h = some ((), h1) ∧ Mk h1 (bs ++ encD ms) ∧ Kp h h1
  | ms, i, 0, h, bs, _, _, _, _, hz, _, _ => by omega
  | [], i, z + 1, h, bs, hR, hF, d1, hi, _, hM, _ => by
    have : fs.length ≤ i := by simpa using List.drop_eq_nil_iff.mp d1
    refine ⟨h, ?_, by simpa [encD] using hM, Kp.rf⟩
    rw [fX9_makeD_2, ln_125, if_pos (pb_ok (by decide) (by decide)), pb_cl (by decide), hF, k1, if_pos (by rw [pb_le (by omega) (by omega)]; omega)]
  | m :: ms, i, z + 1, h, bs, hR, hF, d1, hi, hz, hM, hN => by
    have hi' : i < fs.length := by
      rcases Nat.lt_or_ge i fs.length with hh | hh
      · exact hh
      · rw [List.drop_eq_nil_of_le hh] at d1; cases d1
    have hd := List.drop_eq_getElem_cons hi'
    rw [d1] at hd
    injection hd with hd1 hd2
    have hget : fs[i]? = some m := by rw [List.getElem?_eq_getElem hi', hd1]
    have hmw : WFm m := hw m (List.mem_of_getElem? hget)
    have hFm := k2 i m hget
    have hsplit : encD (m :: ms) = encF m ++ encD ms := by simp [encD]
    rw [hsplit] at hN ⊢
    simp only [List.length_append, List.length_cons] at hN hz
    obtain ⟨h1, e1, e2, e3⟩ := q_frame (fX9_makeD_2 GG z) i (by omega) hmw hR (by rw [hF]; exact hFm) hM (by omega) (if m.2.1 = none then nI 1 else nI 0) rfl
    obtain ⟨h2, r1, r2, r3⟩ := q_makeD_loop fs hl hw g k1 k2 ms (i + 1) z h1 _ (hR.eq e3.1.1) (by rw [e3.c (by decide) (by decide)]; exact hF) hd2.symm (by omega) (by omega) e2 (by simp; omega)
    refine ⟨h2, ?_, by simpa using r2, e3.tr r3⟩
    rw [fX9_makeD_2, ln_125, if_pos (pb_ok (by decide) (by decide)), pb_cl (by decide), hF, k1, if_neg (by rw [pb_le (by omega) (by omega)]; omega), am_let_eq, pb_mul, pb_add, pb_add, if_pos (pb_ok (by omega) (by decide)), pb_cl (by omega), show i * 60 = 60 * i by omega]
    have hre : g (1002 + 60 * i + 1) = rI m.2.1 := by
      obtain ⟨bk, re, ar, nl, ws⟩ := m
      exact hFm.2.1
    have hrw : ∀ r, m.2.1 = some r → r < 256 := by
      obtain ⟨bk, re, ar, nl, ws⟩ := m
      exact hmw.2.1
    rw [hre]
    by_cases hn : m.2.1 = none
    · rw [if_pos hn] at e1
      rw [if_pos ((rI_none hrw).mpr hn), e1]
      exact r1
    · rw [if_neg hn] at e1
      rw [if_neg (fun z => hn ((rI_none hrw).mp z)), e1]
      exact r1
theorem q_makeD {bs : List Nat} {mm : List Nat} {pc : Nat} {fs : List Fm} (hl : fs.length ≤ 20) (hw : ∀ fm ∈ fs, WFm fm) (hR : RX h s t u v) (hs : SeM (h.1 125) (mm, pc, fs)) (hM : Mk h bs) (hN : bs.length + (encD fs).length ≤ 8000) : ∃ h1, fX9_makeD GG 119 125 h = some ((), h1) ∧ Mk h1 (bs ++ encD fs) ∧ Kp h h1 := by
  unfold fX9_makeD
  exact q_makeD_loop fs hl hw (h.1 125) hs.2.2.1 hs.2.2.2 fs 0 am_fuel h bs hR rfl rfl (by omega) (by unfold am_fuel; omega) hM hN
theorem q_makeB {bs hd ow mm : List Nat} {pc : Nat} {fs : List Fm} (hR : RX h s t u v) (hs : SeM (h.1 125) (mm, pc, fs)) (hS : MS h hd ow) (hm : mm.length ≤ 1000) (hmo : mm.length = ow.length) (bm : By mm) (bo : By ow) (hM : Mk h bs) (hN : bs.length + (encB mm ow 0).length ≤ 8000) : ∃ h1, fX9_makeB GG 119 125 h = some ((), h1) ∧ Mk h1 (bs ++ encB mm ow 0) ∧ Kp h h1 := by
  unfold fX9_makeB
  exact q_makeB_loop mm ow hm hmo bm bo (h.1 125) (h.1 124) hs.1 hS.2.2 mm ow 0 0 am_fuel h bs hR rfl rfl hS.1 rfl rfl (by omega) (by omega) (by unfold am_fuel; omega) hM hN
theorem Kp.ms {h h1 : AH} {hd ow : List Nat} (k : Kp h h1) (hS : MS h hd ow) : MS h1 hd ow := hS.eq (fun j hj => k.2 j (by simp at hj; omega)) (fun a ha => k.c (by simp at ha; omega) (by simp at ha; omega))
theorem Kp.zero {h : AH} : Kp h (am_setI h 119 27 (nI 0)) := ⟨Fr.set (by simp), fun j hj => by rw [ps_s, ps_un hj]⟩
theorem Mk.zero {h : AH} : Mk (am_setI h 119 27 (nI 0)) [] := ⟨by rw [ps_s, ps_us]; rfl, by simp, fun i hi => by simp at hi⟩
theorem q_weightOf {hd ow mm : List Nat} {pc : Nat} {fs : List Fm} (hR : RX h s t u v) (hs : SeM (h.1 125) (mm, pc, fs)) (hS : MS h hd ow) (hw : WSn (mm, pc, fs)) (hmo : mm.length = ow.length) (bo : By ow) : ∃ h1, fX9_weightOf GG 119 125 h = some (nI (encS ow (mm, pc, fs)).length, h1) ∧ Kp h h1 := by
  have hlen := encS_len (ow := ow) hw
  simp only [encS, List.length_append] at hlen
  obtain ⟨w1, w2, w3, w4, w5⟩ := hw
  have k0 := Kp.zero (h := h)
  obtain ⟨h1, a1, a2, a3⟩ := q_makeB (h := am_setI h 119 27 (nI 0)) (bs := []) (s := s) (t := t) (u := u) (v := v) (hR.eq rfl) (by rw [ps_n (by decide)]; exact hs) (k0.ms hS) w1 hmo w2 bo Mk.zero (by simp; omega)
  obtain ⟨h2, b1, b2, b3⟩ := q_makeD w4 w5 ((hR.eq (h1 := am_setI h 119 27 (nI 0)) rfl).eq a3.1.1) (mm := mm) (pc := pc) (by rw [a3.c (by decide) (by decide), ps_n (by decide)]; exact hs) a2 (by simp; omega)
  refine ⟨h2, ?_, (k0.tr a3).tr b3⟩
  unfold fX9_weightOf
  rw [am_let_eq, a1, am_bs, b1, am_bs, b2.1]
  simp [encS]
theorem q_sum_loop {ws : List Nat} {H : AH} (hR : RX H s t u v) (h14 : H.1 119 14 = nI ws.length) (hl : ws.length ≤ 9) (hwt : ∀ (i w : Nat), ws[i]? = some w → H.1 128 i = nI w) : ∀ (ms : List Nat) (i z a : Nat), ws.drop i = ms → i ≤ ws.length → ms.length < z → fX9_sum_4 GG z 119 (nI a) (nI i) H = some (nI (a + ms.sum), H)
  | ms, i, 0, a, _, _, hz => by omega
  | [], i, z + 1, a, d1, hi, _ => by
    have : ws.length ≤ i := by simpa using List.drop_eq_nil_iff.mp d1
    rw [fX9_sum_4, h14, if_pos (by rw [pb_le (by omega) (by omega)]; omega)]
    simp
  | m :: ms, i, z + 1, a, d1, hi, hz => by
    obtain ⟨g1, g2, g3⟩ := getD_drop d1
    have hget : ws[i]? = some m := by rw [List.getElem?_eq_getElem g3]; rw [List.getD_eq_getElem?_getD, List.getElem?_eq_getElem g3] at g1; simpa using g1
    simp only [List.length_cons] at hz
    rw [fX9_sum_4, h14, if_neg (by rw [pb_le (by omega) (by omega)]; omega), hR.r119_13, Option.bind_some, ln_128, if_pos (pb_ok (by omega) (by decide)), pb_cl (by omega), hwt i m hget, am_let_eq, pb_add, pb_add, q_sum_loop hR h14 hl hwt ms (i + 1) z (a + m) g2 (by omega) (by omega)]
    simp [Nat.add_assoc]
theorem q_sum {ws : List Nat} {H : AH} (hR : RX H s t u v) (h14 : H.1 119 14 = nI ws.length) (hl : ws.length ≤ 9) (hwt : ∀ (i w : Nat), ws[i]? = some w → H.1 128 i = nI w) : fX9_sum GG 119 H = some (nI ws.sum, H) := by
  unfold fX9_sum
  rw [q_sum_loop hR h14 hl hwt ws 0 am_fuel 0 rfl (by omega) (by unfold am_fuel; omega), Nat.zero_add]
theorem MK.wt {kp : List Sn} {ow : List Nat} {bd : Nat} (hK : MK h kp ow bd) : ∀ (i w : Nat), (kp.map (fun s => (encS ow s).length))[i]? = some w → h.1 128 i = nI w := by
  intro i w hi
  rw [List.getElem?_map] at hi
  cases hk : kp[i]? with
  | none => rw [hk] at hi; cases hi
  | some s =>
    rw [hk] at hi
    cases hi
    exact (hK.2.2 i s hk).2
/-- rows that nobody looks at have changed -/
theorem inv_scr {h h2 : AH} {s t u v : Nat} {tp ou : List Nat} {dk : Option (List Nat)} {ct : Option Nat} {hd ow : List Nat} {ss : Sn} {kp : List Sn} {bd : Nat} {st : List (Nat × List Nat)} {cd : Nat} {pl : Option Nat} {ch : List (Nat × Nat × Nat)} (hw : WF (tp, ou, dk, ct, hd, ow, ss, kp, bd, st, cd, pl, ch)) (hx : CX h s t u v (tp, ou, dk, ct, hd, ow, ss, kp, bd, st, cd, pl, ch)) (hm : MX h s t u v (tp, ou, dk, ct, hd, ow, ss, kp, bd, st, cd, pl, ch)) (e2 : h2.2 = h.2) (k : ∀ a, a ≠ 12 → a ≠ 13 → a ≠ 119 → a ≠ 134 → h2.1 a = h.1 a) (kj : ∀ j, j ≠ 27 → h2.1 119 j = h.1 119 j) : Inv h2 := by
  have hs' : s = 23 ∨ s = 66 := hx.2.1.1
  have hu' : u = 109 ∨ u = 114 := hx.2.1.2.2.2.1
  obtain ⟨c0, c1, c2, c3, c4, c5, c6, c7, c8, c9⟩ := id hx
  obtain ⟨m0, m1, m2, m3, m4, m5, m6, m7, m8, m9, m10⟩ := id hm
  have f : ∀ (A : List Nat), (∀ a ∈ A, a ≠ 12 ∧ a ≠ 13 ∧ a ≠ 119 ∧ a ≠ 134) → ∀ a ∈ A, h2.1 a = h.1 a := fun A hA a ha => k a (hA a ha).1 (hA a ha).2.1 (hA a ha).2.2.1 (hA a ha).2.2.2
  have e : ∀ (J : List Nat), (∀ j ∈ J, j ≠ 27) → ∀ j ∈ J, h2.1 119 j = h.1 119 j := fun J hJ j hj => kj j (hJ j hj)
  refine inv_io hw hx hm e2 (fun a ha => k a (by omega) (by omega) (by omega) (by omega)) (fun j hj => kj j (by omega)) (c2.eq (by rw [e2]) (k 2 (by decide) (by decide) (by decide) (by decide)) (k 3 (by decide) (by decide) (by decide) (by decide))) (c3.eq e2 (fun a ha => k a (by omega) (by omega) (by omega) (by omega))) (c4.eq e2 (fun a ha => k a (by omega) (by omega) (by omega) (by omega))) (by rw [k 0 (by decide) (by decide) (by decide) (by decide)]; exact c9) (m1.eq (e _ (by decide)) (f _ (by decide))) (m2.eq (e _ (by decide)) (f _ (by decide))) (m3.eq (e _ (by decide)) (f _ (by decide))) (m4.eq (e _ (by decide)) (f _ (by decide))) (m9.eq (e _ (by decide)) (f _ (by decide))) (m10.eq (e _ (by decide)) (f _ (by decide))) hw.1.1 hw.2.1.1 (fun d hd => (hw.2.2.1 d hd).1) hw.2.2.2.1 hw.2.2.2.2.2.2.2.2.2.1 hw.2.2.2.2.2.2.2.2.2.2.2
theorem WF.wsn {tp ou : List Nat} {dk : Option (List Nat)} {ct : Option Nat} {hd ow mm : List Nat} {pc : Nat} {fs : List Fm} {kp : List Sn} {bd : Nat} {st : List (Nat × List Nat)} {cd : Nat} {pl : Option Nat} {ch : List (Nat × Nat × Nat)} (hw : WF (tp, ou, dk, ct, hd, ow, (mm, pc, fs), kp, bd, st, cd, pl, ch)) : WSn (mm, pc, fs) ∧ mm.length = ow.length := by
  by_cases ho : ow = []
  · have h1 := (hw.2.2.2.2.2.2.1.1 ho).1
    cases h1
    subst ho
    exact ⟨⟨by simp, fun b hb => by simp at hb, by decide, by simp, fun fm hf => by simp at hf⟩, rfl⟩
  · have h1 := (hw.2.2.2.2.2.2.1.2 ho).1
    exact ⟨h1.1, h1.2.1⟩
theorem st_told (hI : Inv h) (x : Int32) : ∃ r h1 h2, fX8_told GG 0 x h = some (r, h1) ∧ fX9_told GG 119 x h1 = some (r, h2) ∧ Inv h2 := by
  obtain ⟨s, t, u, v, ⟨tp, ou, dk, ct, hd, ow, ⟨mm, pc, fs⟩, kp, bd, st, cd, pl, ch⟩, hw, hx, hm⟩ := id hI
  have hR := hx.1
  obtain ⟨c0, c1, c2, c3, c4, c5, c6, c7, c8, c9⟩ := id hx
  obtain ⟨m0, m1, m2, m3, m4, m5, m6, m7, m8, m9, m10⟩ := id hm
  have hl : ow.length ≤ 1000 := hw.2.2.2.2.2.1.2
  obtain ⟨hwn, hmo⟩ := hw.wsn
  have hne : ow ≠ [] → ¬ nI ow.length = 0 := fun ho => by rw [pb_eq0 (by omega)]; have := len_pos ho; omega
  by_cases x5 : x = nI 5
  · subst x5
    obtain ⟨h1, a1, a2, a3⟩ := p_weighNow c1.1 hR c5 c7 hwn hmo hw.2.2.2.2.2.1.1
    have hR1 := hR.eq a3.1
    have k1 : ∀ a, a ≠ 12 → a ≠ 13 → h1.1 a = h.1 a := fun a x y => a3.2 a (by simp [x, y])
    have hC : fX8_told GG 0 (nI 5) h = some (nI (encS ow (mm, pc, fs)).length, h1) := by
      unfold fX8_told
      rw [if_neg (by decide), if_neg (by decide), if_neg (by decide), if_neg (by decide), if_neg (by decide), if_pos rfl, a1, am_bs, hR1.r0_5, Option.bind_some, a2.2.2.1]
    by_cases ho : ow = []
    · refine ⟨_, h1, h1, hC, ?_, inv_scr hw hx hm a3.1 (fun a x1 x2 _ _ => k1 a x1 x2) (fun j _ => by rw [k1 119 (by decide) (by decide)])⟩
      have h1' := (hw.2.2.2.2.2.2.1.1 ho).1
      cases h1'
      subst ho
      unfold fX9_told
      rw [if_neg (by decide), if_neg (by decide), if_neg (by decide), if_neg (by decide), if_neg (by decide), if_pos rfl, k1 119 (by decide) (by decide), m5.1, if_pos (by rfl)]
      rfl
    · obtain ⟨h2, b1, b2⟩ := q_weightOf (h := h1) hR1 (mm := mm) (pc := pc) (fs := fs) (by rw [k1 125 (by decide) (by decide)]; exact m6 ho) (m5.eq (fun j _ => by rw [k1 119 (by decide) (by decide)]) (fun a ha => k1 a (by simp at ha; omega) (by simp at ha; omega))) hwn hmo hw.2.2.2.2.2.1.1
      refine ⟨_, h1, h2, hC, ?_, inv_scr hw hx hm (b2.1.1.trans a3.1) (fun a x1 x2 x3 x4 => by rw [b2.c x3 x4, k1 a x1 x2]) (fun j hj => by rw [b2.2 j hj, k1 119 (by decide) (by decide)])⟩
      unfold fX9_told
      rw [if_neg (by decide), if_neg (by decide), if_neg (by decide), if_neg (by decide), if_neg (by decide), if_pos rfl, k1 119 (by decide) (by decide), m5.1, if_neg (hne ho), hR1.r119_10, Option.bind_some, b1, am_bs]
  · have key : ∀ r : Int32, fX8_told GG 0 x h = some (r, h) → fX9_told GG 119 x h = some (r, h) → ∃ r h1 h2, fX8_told GG 0 x h = some (r, h1) ∧ fX9_told GG 119 x h1 = some (r, h2) ∧ Inv h2 := fun r a b => ⟨r, h, h, a, b, hI⟩
    unfold fX8_told fX9_told at key
    unfold fX8_told fX9_told
    by_cases x0 : x = nI 0
    · simp only [if_pos x0] at key ⊢
      exact key (nI mm.length) (by rw [hR.r0_8, Option.bind_some, c7.1]) (by rw [m5.1, hmo])
    simp only [if_neg x0] at key ⊢
    by_cases x1 : x = nI 1
    · simp only [if_pos x1] at key ⊢
      refine key (nI pc) (by rw [hR.r0_8, Option.bind_some, c7.2.1]) ?_
      by_cases ho : ow = []
      · have h1' := (hw.2.2.2.2.2.2.1.1 ho).1
        cases h1'
        rw [m5.1, ho, if_pos (by rfl)]
      · rw [m5.1, if_neg (hne ho), hR.r119_10, Option.bind_some, ln_125, if_pos (pb_ok (by decide) (by decide)), pb_cl (by decide), (m6 ho).2.1]
    simp only [if_neg x1] at key ⊢
    by_cases x2 : x = nI 2
    · simp only [if_pos x2] at key ⊢
      refine key (nI fs.length) (by rw [hR.r0_8, Option.bind_some, c7.2.2.1]) ?_
      by_cases ho : ow = []
      · have h1' := (hw.2.2.2.2.2.2.1.1 ho).1
        cases h1'
        rw [m5.1, ho, if_pos (by rfl)]
        rfl
      · rw [m5.1, if_neg (hne ho), hR.r119_10, Option.bind_some, ln_125, if_pos (pb_ok (by decide) (by decide)), pb_cl (by decide), (m6 ho).2.2.1]
    simp only [if_neg x2] at key ⊢
    by_cases x3 : x = nI 3
    · simp only [if_pos x3] at key ⊢
      exact key (nI kp.length) (by rw [hR.r0_7, Option.bind_some, c6.2.1]) (by rw [m7.1])
    simp only [if_neg x3] at key ⊢
    by_cases x4 : x = nI 4
    · simp only [if_pos x4] at key ⊢
      refine key (nI (kp.flatMap (encS ow)).length) (by rw [hR.r0_7, Option.bind_some, hR.r17_0, Option.bind_some, c6.1.2.2.1]) ?_
      rw [q_sum hR (ws := kp.map (fun s => (encS ow s).length)) (by rw [m7.1]; simp) (by simp; have := hw.2.2.2.2.2.2.2.1.1; omega) m7.wt, am_bs, List.length_flatMap]
    simp only [if_neg x4, if_neg x5] at key ⊢
    by_cases x6 : x = nI 6
    · simp only [if_pos x6] at key ⊢
      exact key (nI st.length) (by rw [hR.r0_10, Option.bind_some, c8.2.1]) (by rw [m8.1])
    simp only [if_neg x6] at key ⊢
    by_cases x7 : x = nI 7
    · simp only [if_pos x7] at key ⊢
      exact key (nI tp.length) (by rw [hR.r0_2, Option.bind_some, c2.2.2.1]) (by rw [m1.1])
    simp only [if_neg x7] at key ⊢
    by_cases x8 : x = nI 8
    · simp only [if_pos x8] at key ⊢
      exact key (nI ou.length) (by rw [hR.r0_3, Option.bind_some, c3.1.2.2.1]) (by rw [m2.1])
    simp only [if_neg x8] at key ⊢
    by_cases x9 : x = nI 9
    · simp only [if_pos x9] at key ⊢
      cases dk with
      | none => exact key (-2) (by rw [c9.1, if_pos (by rfl)]) (by rw [m3.1]; rfl)
      | some d => exact key (nI d.length) (by rw [c9.1, if_neg (show ¬ (nI 1 = (0 : Int32)) by decide), hR.r0_4, Option.bind_some, (c4 d rfl).2.2.1]) (by rw [m3.1]; rfl)
    simp only [if_neg x9] at key ⊢
    exact key (-1) rfl rfl
/-! print -/
def pr (a : Int64) : List Nat → Int64
  | [] => a
  | b :: bs => pr ((a ^^^ (nI b).toInt64) * (1099511628211 : Int64)) bs
theorem pr_app (a : Int64) : ∀ (x y : List Nat), pr a (x ++ y) = pr (pr a x) y
  | [], y => rfl
  | b :: bs, y => pr_app _ bs y
theorem p_print80 {bs : List Nat} (hR : RX h s t u v) (hB : Byt h 12 13 3860 bs) : ∀ (ms : List Nat) (i z : Nat) (a : Int64), bs.drop i = ms → i ≤ bs.length → ms.length < z → fX8_print_80 GG z 0 a (nI i) h = some (pr a ms, h)
  | ms, i, 0, a, _, _, hz => by omega
  | [], i, z + 1, a, d1, hi, _ => by
    have : bs.length ≤ i := by simpa using List.drop_eq_nil_iff.mp d1
    have := hB.2.1
    rw [fX8_print_80, hR.r0_5, Option.bind_some, hB.2.2.1, if_pos (by rw [pb_le (by omega) (by omega)]; omega)]
    rfl
  | m :: ms, i, z + 1, a, d1, hi, hz => by
    obtain ⟨g1, g2, g3⟩ := getD_drop d1
    have := hB.2.1
    simp only [List.length_cons] at hz
    rw [fX8_print_80, hR.r0_5, Option.bind_some, hB.2.2.1, if_neg (by rw [pb_le (by omega) (by omega)]; omega), Option.bind_some, p_at hB ln_13 (by decide) (by omega), am_bs, g1]
    unfold fX8_printed
    rw [am_bs, pb_add, p_print80 hR hB ms (i + 1) z _ g2 (by omega) (by omega)]
    rfl
theorem p_print15 {mm : List Nat} {pc : Nat} {fs : List Fm} (hq : SQ s) (hR : RX h s t u v) (hse : SeX h s (mm, pc, fs)) (hm : mm.length ≤ 1000) : ∀ (ms : List Nat) (i z : Nat) (a : Int64), mm.drop i = ms → i ≤ mm.length → ms.length < z → ∃ z', fX8_print_15 GG z 0 a (nI i) h = fX8_print_15 GG (z' + 1) 0 (pr a ms) (nI mm.length) h
  | ms, i, 0, a, _, _, hz => by omega
  | [], i, z + 1, a, d1, hi, _ => by
    have : mm.length ≤ i := by simpa using List.drop_eq_nil_iff.mp d1
    refine ⟨z, ?_⟩
    rw [show i = mm.length by omega]
    rfl
  | m :: ms, i, z + 1, a, d1, hi, hz => by
    obtain ⟨g1, g2, g3⟩ := getD_drop d1
    simp only [List.length_cons] at hz
    obtain ⟨z', e⟩ := p_print15 hq hR hse hm ms (i + 1) z ((a ^^^ (nI m).toInt64) * (1099511628211 : Int64)) g2 (by omega) (by omega)
    refine ⟨z', ?_⟩
    refine Eq.trans ?_ e
    rw [fX8_print_15, hR.r0_8, Option.bind_some, hse.1, if_neg (by rw [pb_le (by omega) (by omega)]; omega), Option.bind_some, p_byteAt hq hR hse.1 hm hse.2.2.2.1 (by omega), am_bs, g1]
    unfold fX8_printed
    rw [am_bs, pb_add]
theorem q_print68 {bs : List Nat} (hR : RX h s t u v) (hM : Mk h bs) : ∀ (ms : List Nat) (i z : Nat) (a : Int64), bs.drop i = ms → i ≤ bs.length → ms.length < z → fX9_print_68 GG z 119 a (nI i) h = some (pr a ms, h)
  | ms, i, 0, a, _, _, hz => by omega
  | [], i, z + 1, a, d1, hi, _ => by
    have : bs.length ≤ i := by simpa using List.drop_eq_nil_iff.mp d1
    have := hM.2.1
    rw [fX9_print_68, hM.1, if_pos (by rw [pb_le (by omega) (by omega)]; omega)]
    rfl
  | m :: ms, i, z + 1, a, d1, hi, hz => by
    obtain ⟨g1, g2, g3⟩ := getD_drop d1
    have := hM.2.1
    simp only [List.length_cons] at hz
    rw [fX9_print_68, hM.1, if_neg (by rw [pb_le (by omega) (by omega)]; omega), hR.r119_26, Option.bind_some, ln_134, if_pos (pb_ok (by omega) (by decide)), pb_cl (by omega), hM.2.2 i g3, g1, am_let_eq, pb_add, q_print68 hR hM ms (i + 1) z _ g2 (by omega) (by omega)]
    rfl
theorem q_print16 {mm : List Nat} {pc : Nat} {fs : List Fm} (hm : mm.length ≤ 1000) (bm : By mm) (g : Nat → Int32) (hse : SeM g (mm, pc, fs)) : ∀ (ms : List Nat) (i z : Nat) (h : AH) (bs : List Nat), RX h s t u v → h.1 125 = g → h.1 119 9 = nI mm.length → mm.drop i = ms → i ≤ mm.length → ms.length < z → Mk h bs → bs.length + ms.length ≤ 8000 → ∃ z' h1, fX9_print_16 GG z 119 (nI i) h = fX9_print_16 GG (z' + 1) 119 (nI mm.length) h1 ∧ Mk h1 (bs ++ ms) ∧ Kp h h1
  | ms, i, 0, h, bs, _, _, _, _, _, hz, _, _ => by omega
  | [], i, z + 1, h, bs, hR, p1, p2, d1, hi, _, hM, _ => by
    have : mm.length ≤ i := by simpa using List.drop_eq_nil_iff.mp d1
    refine ⟨z, h, ?_, by simpa using hM, Kp.rf⟩
    rw [show i = mm.length by omega]
  | m :: ms, i, z + 1, h, bs, hR, p1, p2, d1, hi, hz, hM, hN => by
    obtain ⟨g1, g2, g3⟩ := getD_drop d1
    have bm' : m < 256 := by rw [← g1]; exact getD_lt bm i
    simp only [List.length_cons] at hz hN
    obtain ⟨h1, e1, e2, e3⟩ := q_number1 hR hM bm' (by omega)
    obtain ⟨z', h2, r1, r2, r3⟩ := q_print16 hm bm g hse ms (i + 1) z h1 _ (hR.eq e3.1.1) (by rw [e3.c (by decide) (by decide)]; exact p1) (by rw [e3.2 9 (by decide)]; exact p2) g2 (by omega) (by omega) e2 (by simp; omega)
    refine ⟨z', h2, ?_, by simpa using r2, e3.tr r3⟩
    refine Eq.trans ?_ r1
    rw [fX9_print_16, p2, if_neg (by rw [pb_le (by omega) (by omega)]; omega), hR.r119_10, Option.bind_some, ln_125, if_pos (pb_ok (by omega) (by decide)), pb_cl (by omega), p1, hse.1 i g3, g1, e1, am_bs, pb_add]
theorem st_print (hI : Inv h) : ∃ r h1 h2, fX8_print GG 0 h = some (r, h1) ∧ fX9_print GG 119 h1 = some (r, h2) ∧ Inv h2 := by
  obtain ⟨s, t, u, v, ⟨tp, ou, dk, ct, hd, ow, ⟨mm, pc, fs⟩, kp, bd, st, cd, pl, ch⟩, hw, hx, hm⟩ := id hI
  have hR := hx.1
  obtain ⟨c0, c1, c2, c3, c4, c5, c6, c7, c8, c9⟩ := id hx
  obtain ⟨m0, m1, m2, m3, m4, m5, m6, m7, m8, m9, m10⟩ := id hm
  have hl : ow.length ≤ 1000 := hw.2.2.2.2.2.1.2
  by_cases ho : ow = []
  · refine ⟨0, h, h, ?_, ?_, hI⟩
    · unfold fX8_print
      rw [p_noStory hR c5 hl, am_bs, if_pos ho, if_neg (by decide)]
    · unfold fX9_print
      rw [m5.1, ho, if_pos (by rfl)]
  · have hp := len_pos ho
    have hne : ¬ nI ow.length = 0 := by rw [pb_eq0 (by omega)]; omega
    have hs' : s = 23 ∨ s = 66 := c1.1
    obtain ⟨⟨w1, w2, w3, w4, w5⟩, hmo⟩ := hw.wsn
    have hD := encD_len fs w5
    have w3' : pc < 16777216 := w3
    have sm := m6 ho
    obtain ⟨z1, p1⟩ := p_print15 c1.1 hR c7 w1 mm 0 am_fuel (-3750763034362895579 : Int64) rfl (by omega) (by unfold am_fuel; omega)
    obtain ⟨h1, a1, a2, a3⟩ := p_clear0 (h := h) (N := 3860) hR.r12_0
    have hR1 := hR.eq a3.1
    have k1 : ∀ a, a ≠ 12 → h1.1 a = h.1 a := fun a x => a3.2 a (by simp [x])
    obtain ⟨h2, b1, b2, b3⟩ := p_addNumber (Γ := GG) a2 ln_13 (by decide) (by decide) (nI pc) (n := 3) (by decide) (by simp)
    rw [uN_nI (by omega)] at b2
    have hR2 := hR1.eq b3.1
    have k2 : ∀ a, a ≠ 12 → a ≠ 13 → h2.1 a = h.1 a := fun a x y => by rw [b3.2 a (by simp [x, y]), k1 a x]
    obtain ⟨h3, e1, e2, e3⟩ := p_tellFrames c1.1 ln_13 (by decide) (by decide) (fun a ha hb => by simp; omega) hR2 (c7.eq' w4 (fun a ha => k2 a (by omega) (by omega))) w4 w5 b2 (by simp [be_len]; omega)
    have hR3 := hR2.eq e3.1
    have k3 : ∀ a, a ≠ 12 → a ≠ 13 → h3.1 a = h.1 a := fun a x y => by rw [e3.2 a (by simp [x, y]), k2 a x y]
    have hF3 : h3.2 = h.2 := e3.1.trans (b3.1.trans a3.1)
    simp only [List.nil_append] at e2
    have p2 := p_print80 hR3 e2 (be pc 3 ++ encD fs) 0 am_fuel (pr (-3750763034362895579 : Int64) mm) rfl (by omega) (by have := e2.2.1; unfold am_fuel; omega)
    -- the model
    have k0 := Kp.zero (h := h3)
    have hR0 : RX (am_setI h3 119 27 (nI 0)) s t u v := hR3.eq rfl
    obtain ⟨z2, g1, q1, q2, q3⟩ := q_print16 (s := s) (t := t) (u := u) (v := v) w1 w2 (h.1 125) sm mm 0 am_fuel (am_setI h3 119 27 (nI 0)) [] hR0 (by rw [ps_n (by decide), k3 125 (by decide) (by decide)]) (by rw [ps_s, ps_un (by decide), k3 119 (by decide) (by decide), hmo]; exact m5.1) rfl (by omega) (by unfold am_fuel; omega) Mk.zero (by simp; omega)
    have kg1 := k0.tr q3
    have hRg1 := hR3.eq kg1.1.1
    have s1 : g1.1 125 = h.1 125 := by rw [kg1.c (by decide) (by decide), k3 125 (by decide) (by decide)]
    obtain ⟨g2, r1, r2, r3⟩ := q_numberN hRg1 q2 (d := pc) (n := 3) (by omega) (by decide) (by simp; omega)
    have hRg2 := hRg1.eq r3.1.1
    obtain ⟨g3, t1, t2, t3⟩ := q_makeD w4 w5 hRg2 (mm := mm) (pc := pc) (by rw [r3.c (by decide) (by decide), s1]; exact sm) r2 (by simp [be_len]; omega)
    have hRg3 := hRg2.eq t3.1.1
    have kg3 := (kg1.tr r3).tr t3
    simp only [List.nil_append, List.append_assoc] at t2
    have p3 := q_print68 hRg3 t2 (mm ++ (be pc 3 ++ encD fs)) 0 am_fuel (-3750763034362895579 : Int64) rfl (by omega) (by have := t2.2.1; unfold am_fuel; omega)
    rw [pr_app] at p3
    refine ⟨pr (pr (-3750763034362895579 : Int64) mm) (be pc 3 ++ encD fs), h3, g3, ?_, ?_, inv_scr hw hx hm (kg3.1.1.trans hF3) (fun a x1 x2 x3 x4 => by rw [kg3.c x3 x4, k3 a x1 x2]) (fun j hj => by rw [kg3.2 j hj, k3 119 (by decide) (by decide)])⟩
    · unfold fX8_print
      rw [p_noStory hR c5 hl, am_bs, if_neg ho, if_pos (by decide)]
      refine Eq.trans p1 ?_
      rw [fX8_print_15, hR.r0_8, Option.bind_some, c7.1, if_pos (by rw [pb_le (by omega) (by omega)]; omega), hR.r0_5, Option.bind_some, a1, am_bs, hR1.r0_5, Option.bind_some, hR1.r0_8, Option.bind_some]
      have hpc : h1.1 s 3 = nI pc := by rw [k1 s (by omega)]; exact c7.2.1
      rw [hpc, b1, am_bs, hR2.r0_8, Option.bind_some, hR2.r0_5, Option.bind_some, e1, am_bs]
      exact p2
    · unfold fX9_print
      rw [k3 119 (by decide) (by decide), m5.1, if_neg hne, am_let_eq]
      refine Eq.trans q1 ?_
      have h9 : g1.1 119 9 = nI mm.length := by rw [kg1.2 9 (by decide), k3 119 (by decide) (by decide), hmo]; exact m5.1
      have hpc : g1.1 125 1000 = nI pc := by rw [s1]; exact sm.2.1
      rw [fX9_print_16, h9, if_pos (by rw [pb_le (by omega) (by omega)]; omega), hRg1.r119_10, Option.bind_some, ln_125, if_pos (pb_ok (by decide) (by decide)), pb_cl (by decide), hpc, r1, am_bs, hRg2.r119_10, Option.bind_some, t1, am_bs]
      exact p3
end WEIGH
