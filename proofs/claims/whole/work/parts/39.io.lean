/-! ===== back, load, write ===== -/
section IO
theorem SeX.eq' {h h1 : AH} {s : Nat} {ss : Sn} (hC : SeX h s ss) (hn : ss.2.2.length ≤ 20) (he : ∀ a, s ≤ a ∧ a ≤ s + 42 → h1.1 a = h.1 a) : SeX h1 s ss := by
  obtain ⟨mm, pc, fs⟩ := ss
  obtain ⟨c1, c2, c3, c4, c5⟩ := hC
  refine ⟨by rw [he s (by omega)]; exact c1, by rw [he s (by omega)]; exact c2, by rw [he s (by omega)]; exact c3, fun i hi => by rw [he (s + 1) (by omega)]; exact c4 i hi, fun i fm hi => ?_⟩
  have hlt := (List.getElem?_eq_some_iff.mp hi).1
  simp only at hn
  rw [he (s + 3 + 2 * i) (by omega), he (s + 4 + 2 * i) (by omega)]
  exact c5 i fm hi
theorem CG.eq' {h h1 : AH} {u : Nat} {st : List (Nat × List Nat)} (hC : CG h u st) (h2 : h1.2 = h.2) (he : ∀ a, u ≤ a ∧ a ≤ u + 4 → h1.1 a = h.1 a) : CG h1 u st := by
  obtain ⟨c1, c2, c3⟩ := hC
  refine ⟨c1.eq (by rw [h2]) (he _ (by omega)) (he _ (by omega)), by rw [he u (by omega)]; exact c2, fun i x hx => ?_⟩
  rw [he (u + 3) (by omega), he (u + 4) (by omega)]
  exact c3 i x hx
variable {h h1 h2 : AH} {s t u v : Nat} {tp tp' ou ou' : List Nat} {dk dk' : Option (List Nat)} {ct ct' : Option Nat} {hd ow : List Nat} {ss : Sn} {kp : List Sn} {bd : Nat} {st : List (Nat × List Nat)} {cd cd' : Nat} {pl pl' : Option Nat} {ch ch' : List (Nat × Nat × Nat)}
/-- story, session, kept ones and strangers stay -/
theorem inv_io (hw : WF (tp, ou, dk, ct, hd, ow, ss, kp, bd, st, cd, pl, ch)) (hx : CX h s t u v (tp, ou, dk, ct, hd, ow, ss, kp, bd, st, cd, pl, ch)) (hm : MX h s t u v (tp, ou, dk, ct, hd, ow, ss, kp, bd, st, cd, pl, ch)) (e2 : h2.2 = h.2) (k : ∀ a, ((14 ≤ a ∧ a ≤ 22) ∨ (s ≤ a ∧ a ≤ s + 42) ∨ (u ≤ a ∧ a ≤ u + 4) ∨ (123 ≤ a ∧ a ≤ 125) ∨ (127 ≤ a ∧ a ≤ 129)) → h2.1 a = h.1 a) (kj : ∀ j, (j = 9 ∨ j = 14 ∨ j = 15 ∨ j = 17) → h2.1 119 j = h.1 119 j) (c1' : Byt h2 2 3 2000 tp') (c2' : CO h2 ou' ch') (c3' : CD h2 dk') (c4' : CZ (h2.1 0) dk' ct' cd' pl') (m1' : MT h2 tp') (m2' : MO h2 ou') (m3' : MD h2 dk') (m4' : MU h2 ct') (m5' : MZ h2 cd' pl') (m6' : MC h2 ch') (w1' : By tp') (w2' : By ou') (w3' : ∀ d, dk' = some d → By d) (w4' : ∀ n, ct' = some n → n < 2147483648) (w5' : cd' ≤ 10 ∧ ∀ p, pl' = some p → p ≤ 2000) (w6' : ∀ c ∈ ch', c.1 < 4294967296 ∧ c.2.1 ≤ 8000 ∧ c.2.2 ≤ 8000) : Inv h2 := by
  have hfr := hw.fr.1
  obtain ⟨c0, c1, c2, c3, c4, c5, c6, c7, c8, c9⟩ := hx
  obtain ⟨m0, m1, m2, m3, m4, m5, m6, m7, m8, m9, m10⟩ := hm
  refine ⟨s, t, u, v, (tp', ou', dk', ct', hd, ow, ss, kp, bd, st, cd', pl', ch'), ?_, ?_, ?_⟩
  · obtain ⟨w1, w2, w3, w4, w5, w6, w7, w8, w9, w10, w11⟩ := hw
    exact ⟨⟨w1', c1'.2.1⟩, ⟨w2', c2'.1.2.1⟩, fun d hd => ⟨w3' d hd, (c3' d hd).2.1⟩, w4', w5, w6, w7, w8, w9, w5', ⟨c2'.2.2.1, w6'⟩⟩
  · exact ⟨c0.eq e2, c1, c1', c2', c3', c5.eq (fun a ha => k a (by omega)), c6.eq e2 (fun a ha => k a (by omega)), c7.eq' hfr (fun a ha => k a (by omega)), c8.eq' e2 (fun a ha => k a (by omega)), c4'⟩
  · have f : ∀ (A : List Nat), (∀ a ∈ A, (123 ≤ a ∧ a ≤ 125) ∨ (127 ≤ a ∧ a ≤ 129)) → ∀ a ∈ A, h2.1 a = h.1 a := fun A hA a ha => k a (by have := hA a ha; omega)
    have e : ∀ (J : List Nat), (∀ j ∈ J, j = 9 ∨ j = 14 ∨ j = 15 ∨ j = 17) → ∀ j ∈ J, h2.1 119 j = h.1 119 j := fun J hJ j hj => kj j (hJ j hj)
    exact ⟨m0.eq e2, m1', m2', m3', m4', m5.eq (e _ (by decide)) (f _ (by decide)), m6.eq (e _ (by decide)) (f _ (by decide)), m7.eq (e _ (by decide)) (f _ (by decide)), m8.eq (e _ (by decide)) (f _ (by decide)), m5', m6'⟩
theorem Arr.cp {h : AH} {c : Nat} {g : Nat → Int32} {bs : List Nat} (ha : Arr g bs) : Arr ((am_fill h c 0 bs.length g).1 c) bs := by
  intro i hi
  rw [pf_in (by omega) (by omega), Nat.sub_zero]
  exact ha i hi
theorem q_back {H : AH} (hR : RX H s t u v) {n : Nat} (h3 : H.1 119 3 = nI n) (hn : n ≤ 2000) : fX9_back GG 119 H = some (nI n, am_setI (am_fill H 120 0 n (H.1 121)) 119 1 (nI n)) := by
  unfold fX9_back
  rw [h3, if_pos (by rw [pb_le (by omega) (by decide)]; exact hn)]
  refine fill_loop0 (fun k i h => fX9_back_15 GG k 119 (nI i) h) (fun h => some (nI n, am_setI h 119 1 (nI n))) (fun h => RX h s t u v ∧ h.1 119 3 = nI n ∧ h.1 121 = H.1 121) 120 0 n (H.1 121) ?_ (fun h j w hP => ⟨hP.1, by rw [ps_n (by decide)]; exact hP.2.1, by rw [ps_n (by decide)]; exact hP.2.2⟩) ?_ H ⟨hR, h3, rfl⟩ (by omega)
  · intro z i h hP hi
    simp (disch := omega) only [fX9_back_15, hP.2.1, pb_le, if_neg, hP.1.r119_0, hP.1.r119_2, hP.2.2, Option.bind_some, pb_add, ln_120, ln_121, pb_ok, if_true, pb_cl, am_let, if_false, Nat.zero_add]
  · intro z h hP
    simp (disch := omega) only [fX9_back_15, hP.2.1, pb_le, if_pos, am_let, ps_s, ps_us, if_true]
theorem q_load27 {H : AH} (hR : RX H s t u v) {n : Nat} (h3 : H.1 119 5 = nI n) (hn : n ≤ 2000) : fX9_load_27 GG am_fuel 119 (nI 0) H = some (nI n, am_setI (am_fill H 120 0 n (H.1 122)) 119 1 (nI n)) := by
  refine fill_loop0 (fun k i h => fX9_load_27 GG k 119 (nI i) h) (fun h => some (nI n, am_setI h 119 1 (nI n))) (fun h => RX h s t u v ∧ h.1 119 5 = nI n ∧ h.1 122 = H.1 122) 120 0 n (H.1 122) ?_ (fun h j w hP => ⟨hP.1, by rw [ps_n (by decide)]; exact hP.2.1, by rw [ps_n (by decide)]; exact hP.2.2⟩) ?_ H ⟨hR, h3, rfl⟩ (by omega)
  · intro z i h hP hi
    simp (disch := omega) only [fX9_load_27, hP.2.1, pb_le, if_neg, hP.1.r119_0, hP.1.r119_4, hP.2.2, Option.bind_some, pb_add, ln_120, ln_122, pb_ok, if_true, pb_cl, am_let, if_false, Nat.zero_add]
  · intro z h hP
    simp (disch := omega) only [fX9_load_27, hP.2.1, pb_le, if_pos, am_let, ps_s, ps_us, if_true]
theorem q_write40 {H : AH} (hR : RX H s t u v) {n : Nat} (h3 : H.1 119 3 = nI n) (hn : n ≤ 8000) : fX9_write_40 GG am_fuel 119 (nI 0) H = some (nI 1, am_setI (am_fill H 122 0 n (H.1 121)) 119 5 (nI n)) := by
  refine fill_loop0 (fun k i h => fX9_write_40 GG k 119 (nI i) h) (fun h => some (nI 1, am_setI h 119 5 (nI n))) (fun h => RX h s t u v ∧ h.1 119 3 = nI n ∧ h.1 121 = H.1 121) 122 0 n (H.1 121) ?_ (fun h j w hP => ⟨hP.1, by rw [ps_n (by decide)]; exact hP.2.1, by rw [ps_n (by decide)]; exact hP.2.2⟩) ?_ H ⟨hR, h3, rfl⟩ (by omega)
  · intro z i h hP hi
    simp (disch := omega) only [fX9_write_40, hP.2.1, pb_le, if_neg, hP.1.r119_4, hP.1.r119_2, hP.2.2, Option.bind_some, pb_add, ln_122, ln_121, pb_ok, if_true, pb_cl, am_let, if_false, Nat.zero_add]
  · intro z h hP
    simp (disch := omega) only [fX9_write_40, hP.2.1, pb_le, if_pos, am_let, if_true]
theorem p_fillTape {p c : Nat} {bs : List Nat} (hR : RX h s t u v) (hT : Byt h 2 3 2000 tp) (hP : Byt h p c 8000 bs) (hc : am_len GG c = 8000) (hp : p ≠ 2 ∧ p ≠ 3 ∧ c ≠ 2 ∧ c ≠ 3) (hl : bs.length ≤ 2000) : ∃ h1, fX8_fillTape GG 0 p h = some (nI bs.length, h1) ∧ Byt h1 2 3 2000 bs ∧ Fr h h1 [2, 3] := by
  obtain ⟨h1, e1, e2, e3⟩ := p_copyOf (Γ := GG) hT hP ln_3 hc (by decide) (by decide) (by decide) (by omega) (by omega) (by omega) hl
  refine ⟨h1, ?_, e2, e3⟩
  unfold fX8_fillTape
  rw [hP.2.2.1, if_pos (by rw [pb_le (by omega) (by decide)]; exact hl), hR.r0_2, Option.bind_some, e1]
  simp only [am_bind, Option.bind_some, (hR.eq e3.1).r0_2, e2.2.2.1]
theorem p_fillTape0 {p c : Nat} {bs : List Nat} (hP : Byt h p c 8000 bs) (hl : ¬ bs.length ≤ 2000) : fX8_fillTape GG 0 p h = some (-3, h) := by
  have := hP.2.1
  unfold fX8_fillTape
  rw [hP.2.2.1, if_neg (by rw [pb_le (by omega) (by decide)]; exact hl)]
theorem st_back (hI : Inv h) : ∃ r h1 h2, fX8_back GG 0 h = some (r, h1) ∧ fX9_back GG 119 h1 = some (r, h2) ∧ Inv h2 := by
  obtain ⟨s, t, u, v, ⟨tp, ou, dk, ct, hd, ow, ss, kp, bd, st, cd, pl, ch⟩, hw, hx, hm⟩ := id hI
  have hR := hx.1
  have hT := hx.2.2.1
  have hO := hx.2.2.2.1.1
  have hMO := hm.2.2.1
  have hl : ou.length ≤ 8000 := hw.2.1.2
  by_cases hle : ou.length ≤ 2000
  · obtain ⟨h1, e1, e2, e3⟩ := p_fillTape hR hT hO ln_6 (by decide) hle
    have k1 : ∀ a, a ≠ 2 → a ≠ 3 → h1.1 a = h.1 a := fun a x1 x2 => e3.2 a (by simp [x1, x2])
    refine ⟨nI ou.length, h1, _, ?_, q_back (hR.eq e3.1) (n := ou.length) (by rw [k1 119 (by decide) (by decide)]; exact hMO.1) hle, ?_⟩
    · unfold fX8_back
      rw [hR.r0_3, Option.bind_some, e1]
      rfl
    · refine inv_tape (h1 := h1) (tp' := ou) hw hx hm e3.1 k1 e2 rfl (fun a x1 x2 => by rw [ps_n x1, pf_n x2]) (fun j hj => by rw [ps_s, ps_un hj, pf_n (by decide)]) ⟨by rw [ps_s, ps_us], ?_⟩ hw.2.1.1
      rw [ps_n (by decide)]
      refine Arr.cp ?_
      rw [k1 121 (by decide) (by decide)]
      exact hMO.2
  · refine ⟨-3, h, h, ?_, ?_, hI⟩
    · unfold fX8_back
      rw [hR.r0_3, Option.bind_some, p_fillTape0 hO hle]
      rfl
    · unfold fX9_back
      rw [hMO.1, if_neg (by rw [pb_le (by omega) (by decide)]; exact hle)]
theorem st_load (hI : Inv h) : ∃ r h1 h2, fX8_load GG 0 h = some (r, h1) ∧ fX9_load GG 119 h1 = some (r, h2) ∧ Inv h2 := by
  obtain ⟨s, t, u, v, ⟨tp, ou, dk, ct, hd, ow, ss, kp, bd, st, cd, pl, ch⟩, hw, hx, hm⟩ := id hI
  have hR := hx.1
  have hT := hx.2.2.1
  have hD := hx.2.2.2.2.1
  have hz := hx.2.2.2.2.2.2.2.2.2
  have hMD := hm.2.2.2.1
  cases dk with
  | none =>
    refine ⟨-2, h, h, ?_, ?_, hI⟩
    · unfold fX8_load
      rw [hz.1, if_pos (by rfl)]
    · unfold fX9_load
      rw [hMD.1, if_pos (by rfl)]
  | some d =>
    have hl : d.length ≤ 8000 := (hw.2.2.1 d rfl).2
    have hDd := hD d rfl
    have hm5 : h.1 119 5 = nI d.length := hMD.1
    have hn2 : ¬ nI d.length = (-2 : Int32) := by
      intro hz
      have h1 := nI_pos' (show d.length < 2 ^ 31 by omega)
      rw [hz] at h1
      exact absurd h1 (by decide)
    by_cases hle : d.length ≤ 2000
    · obtain ⟨h1, e1, e2, e3⟩ := p_fillTape hR hT hDd ln_11 (by decide) hle
      have k1 : ∀ a, a ≠ 2 → a ≠ 3 → h1.1 a = h.1 a := fun a x1 x2 => e3.2 a (by simp [x1, x2])
      refine ⟨nI d.length, h1, am_setI (am_fill h1 120 0 d.length (h1.1 122)) 119 1 (nI d.length), ?_, ?_, ?_⟩
      · unfold fX8_load
        rw [hz.1, if_neg (show ¬ (nI 1 = (0 : Int32)) by decide), hR.r0_4, Option.bind_some, e1]
        rfl
      · unfold fX9_load
        rw [k1 119 (by decide) (by decide), hm5, if_neg hn2, if_pos (by rw [pb_le (by omega) (by decide)]; exact hle)]
        exact q_load27 (hR.eq e3.1) (by rw [k1 119 (by decide) (by decide)]; exact hm5) hle
      · refine inv_tape (h1 := h1) (tp' := d) hw hx hm e3.1 k1 e2 rfl (fun a x1 x2 => by rw [ps_n x1, pf_n x2]) (fun j hj => by rw [ps_s, ps_un hj, pf_n (by decide)]) ⟨by rw [ps_s, ps_us], ?_⟩ (hw.2.2.1 d rfl).1
        rw [ps_n (by decide)]
        refine Arr.cp ?_
        rw [k1 122 (by decide) (by decide)]
        exact hMD.2 d rfl
    · refine ⟨-3, h, h, ?_, ?_, hI⟩
      · unfold fX8_load
        rw [hz.1, if_neg (show ¬ (nI 1 = (0 : Int32)) by decide), hR.r0_4, Option.bind_some, p_fillTape0 hDd hle]
        rfl
      · unfold fX9_load
        rw [hm5, if_neg hn2, if_neg (by rw [pb_le (by omega) (by decide)]; exact hle)]
theorem st_write (hI : Inv h) : ∃ r h1 h2, fX8_write GG 0 h = some (r, h1) ∧ fX9_write GG 119 h1 = some (r, h2) ∧ Inv h2 := by
  obtain ⟨s, t, u, v, ⟨tp, ou, dk, ct, hd, ow, ss, kp, bd, st, cd, pl, ch⟩, hw, hx, hm⟩ := id hI
  have hR := hx.1
  have hs : s = 23 ∨ s = 66 := hx.2.1.1
  have hu : u = 109 ∨ u = 114 := hx.2.1.2.2.2.1
  have hT := hx.2.2.1
  have hO := hx.2.2.2.1.1
  have hz := hx.2.2.2.2.2.2.2.2.2
  have hl : ou.length ≤ 8000 := hw.2.1.2
  have hct := hw.2.2.2.1
  obtain ⟨m0, m1, m2, m3, m4, m5, m6, m7, m8, m9, m10⟩ := id hm
  have hm6 : h.1 119 6 = rI ct := m4
  have hne : ∀ n, ct = some n → ¬ (nI n = (-2 : Int32)) := by
    intro n hn hz
    have h1 := nI_pos' (show n < 2 ^ 31 by have := hct n hn; omega)
    rw [hz] at h1
    exact absurd h1 (by decide)
  by_cases hcut : ∃ n, ct = some n ∧ n < ou.length
  · -- cut off
    obtain ⟨n, hn, hlt⟩ := hcut
    have h13 : h.1 0 13 = nI n := by rw [hz.2.1, hn]; rfl
    have g6 : h.1 119 6 = nI n := by rw [hm6, hn]; rfl
    refine ⟨nI 0, am_setI h 0 13 (-2), am_setI (am_setI h 0 13 (-2)) 119 6 (-2), ?_, ?_, ?_⟩
    · unfold fX8_write
      rw [h13, if_neg (hne n hn), hR.r0_3, Option.bind_some, hO.2.2.1, if_neg (by rw [pb_le (by omega) (hct n hn)]; omega)]
      unfold fX8_write_28
      simp only [am_let]
      rw [if_neg (by decide)]
    · unfold fX9_write
      rw [ps_n (by decide), g6, if_neg (hne n hn), m2.1, if_neg (by rw [pb_le (by omega) (hct n hn)]; omega)]
      unfold fX9_write_25
      simp only [am_let]
      rw [if_neg (by decide)]
    · have k : ∀ a, a ≠ 0 → a ≠ 119 → (am_setI (am_setI h 0 13 (-2)) 119 6 (-2)).1 a = h.1 a := fun a x1 x2 => by rw [ps_n x2, ps_n x1]
      have kj : ∀ j, j ≠ 6 → (am_setI (am_setI h 0 13 (-2)) 119 6 (-2)).1 119 j = h.1 119 j := fun j hj => by rw [ps_s, ps_un hj, ps_n (by decide)]
      have f : ∀ (A : List Nat), (∀ a ∈ A, a ≠ 0 ∧ a ≠ 119) → ∀ a ∈ A, (am_setI (am_setI h 0 13 (-2)) 119 6 (-2)).1 a = h.1 a := fun A hA a ha => k a (hA a ha).1 (hA a ha).2
      have e : ∀ (J : List Nat), (∀ j ∈ J, j ≠ 6) → ∀ j ∈ J, (am_setI (am_setI h 0 13 (-2)) 119 6 (-2)).1 119 j = h.1 119 j := fun J hJ j hj => kj j (hJ j hj)
      refine inv_io (ct' := none) hw hx hm rfl (fun a ha => k a (by omega) (by omega)) (fun j hj => kj j (by omega)) (hT.eq rfl (k 2 (by decide) (by decide)) (k 3 (by decide) (by decide))) (hx.2.2.2.1.eq rfl (fun a ha => k a (by omega) (by omega))) (hx.2.2.2.2.1.eq rfl (fun a ha => k a (by omega) (by omega))) ?_ (m1.eq (e _ (by decide)) (f _ (by decide))) (m2.eq (e _ (by decide)) (f _ (by decide))) (m3.eq (e _ (by decide)) (f _ (by decide))) ?_ (m9.eq (e _ (by decide)) (f _ (by decide))) (m10.eq (e _ (by decide)) (f _ (by decide))) hw.1.1 hw.2.1.1 (fun d hd => (hw.2.2.1 d hd).1) (fun n hn => by cases hn) hw.2.2.2.2.2.2.2.2.2.1 hw.2.2.2.2.2.2.2.2.2.2.2
      · rw [ps_n (by decide), ps_s]
        exact ⟨by rw [ps_un (by decide)]; exact hz.1, by rw [ps_us]; rfl, by rw [ps_un (by decide)]; exact hz.2.2.1, by rw [ps_un (by decide)]; exact hz.2.2.2⟩
      · unfold MU
        rw [ps_s, ps_us]
        rfl
  · -- written
    have hX : ∀ (k : Unit), fX8_write GG 0 h = fX8_write_27 GG 0 h := by
      intro _
      unfold fX8_write
      rw [hz.2.1]
      cases ct with
      | none => rw [if_pos (by rfl)]
      | some n =>
        have : ¬ n < ou.length := fun q => hcut ⟨n, rfl, q⟩
        show (if nI n = (-2 : Int32) then _ else _) = _
        rw [if_neg (hne n rfl), hR.r0_3, Option.bind_some, hO.2.2.1]
        show (if nI ou.length ≤ nI n then _ else _) = _
        rw [if_pos (by rw [pb_le (by omega) (hct n rfl)]; omega)]
    have hM : ∀ H : AH, H.1 119 = h.1 119 → fX9_write GG 119 H = fX9_write_24 GG 119 H := by
      intro H hH
      unfold fX9_write
      rw [hH, hm6, m2.1]
      cases ct with
      | none => rw [if_pos (by rfl)]
      | some n =>
        have : ¬ n < ou.length := fun q => hcut ⟨n, rfl, q⟩
        show (if nI n = (-2 : Int32) then _ else _) = _
        rw [if_neg (hne n rfl)]
        show (if nI ou.length ≤ nI n then _ else _) = _
        rw [if_pos (by rw [pb_le (by omega) (hct n rfl)]; omega)]
    have r10 : (am_setI h 0 13 (-2)).2 10 0 = some 11 := hR.r10_0
    have hO1 : Byt (am_setI h 0 13 (-2)) 5 6 8000 ou := hO.eq rfl (ps_n (by decide)) (ps_n (by decide))
    obtain ⟨h1, e1, e2, e3⟩ : ∃ h1, fX0_copyOf GG 10 5 (am_setI h 0 13 (-2)) = some ((), h1) ∧ Byt h1 10 11 8000 ou ∧ Fr (am_setI h 0 13 (-2)) h1 [10, 11] := by
      have hB0 : Byt (am_setI (am_setI h 0 13 (-2)) 10 1 (nI 0)) 10 11 8000 [] := ⟨r10, by decide, by rw [ps_s, ps_us]; rfl, fun i hi => by simp at hi⟩
      have hO2 : Byt (am_setI (am_setI h 0 13 (-2)) 10 1 (nI 0)) 5 6 8000 ou := hO1.eq rfl (ps_n (by decide)) (ps_n (by decide))
      obtain ⟨h2, f1, f2, f3⟩ := p_addPart (Γ := GG) hB0 hO2 ln_11 ln_6 (by decide) (by decide) (by decide) (by decide) (o := 0) (n := ou.length) (by omega) (by simpa using hl)
      refine ⟨h2, ?_, by simpa using f2, (Fr.set (by simp)).tr f3⟩
      unfold fX0_copyOf fX0_clear
      simp only [am_let, am_bind, Option.bind_some, hO2.2.2.1, f1]
    have k1 : ∀ a, a ≠ 0 → a ≠ 10 → a ≠ 11 → h1.1 a = h.1 a := fun a x0 x1 x2 => by rw [e3.2 a (by simp [x1, x2]), ps_n x0]
    have kz : h1.1 0 = upd (h.1 0) 13 (-2) := by rw [e3.2 0 (by decide), ps_s]
    have k2 : ∀ a, a ≠ 0 → a ≠ 10 → a ≠ 11 → (am_setI h1 0 12 (nI 1)).1 a = h.1 a := fun a x0 x1 x2 => by rw [ps_n x0]; exact k1 a x0 x1 x2
    have e20 : (am_setI h1 0 12 (nI 1)).2 = h.2 := e3.1
    have hR2 : RX (am_setI h1 0 12 (nI 1)) s t u v := hR.eq e20
    refine ⟨nI 1, am_setI h1 0 12 (nI 1), am_setI (am_fill (am_setI (am_setI h1 0 12 (nI 1)) 119 6 (-2)) 122 0 ou.length (h.1 121)) 119 5 (nI ou.length), ?_, ?_, ?_⟩
    · rw [hX ()]
      unfold fX8_write_27 fX8_write_28
      simp only [am_let]
      rw [if_pos (by decide), ps_2, hR.r0_4, Option.bind_some, hR.r0_3, Option.bind_some, e1]
      rfl
    · rw [hM _ (k2 119 (by decide) (by decide) (by decide))]
      unfold fX9_write_24 fX9_write_25
      simp only [am_let]
      rw [if_pos (by decide), q_write40 (H := am_setI (am_setI h1 0 12 (nI 1)) 119 6 (-2)) (s := s) (t := t) (u := u) (v := v) (hR2.eq rfl) (n := ou.length) (by rw [ps_s, ps_un (by decide), k2 119 (by decide) (by decide) (by decide)]; exact m2.1) hl, ps_n (by decide), k2 121 (by decide) (by decide) (by decide)]
    · generalize hH : am_setI (am_fill (am_setI (am_setI h1 0 12 (nI 1)) 119 6 (-2)) 122 0 ou.length (h.1 121)) 119 5 (nI ou.length) = H
      have k : ∀ a, a ≠ 0 → a ≠ 10 → a ≠ 11 → a ≠ 119 → a ≠ 122 → H.1 a = h.1 a := fun a x0 x1 x2 x3 x4 => by rw [← hH, ps_n x3, pf_n x4, ps_n x3]; exact k2 a x0 x1 x2
      have kc : ∀ a, a < 119 → H.1 a = (am_setI h1 0 12 (nI 1)).1 a := fun a x => by rw [← hH, ps_n (by omega), pf_n (by omega), ps_n (by omega)]
      have kj : ∀ j, j ≠ 6 → j ≠ 5 → H.1 119 j = h.1 119 j := fun j x1 x2 => by rw [← hH, ps_s, ps_un x2, pf_n (by decide), ps_s, ps_un x1, k2 119 (by decide) (by decide) (by decide)]
      have f : ∀ (A : List Nat), (∀ a ∈ A, a ≠ 0 ∧ a ≠ 10 ∧ a ≠ 11 ∧ a ≠ 119 ∧ a ≠ 122) → ∀ a ∈ A, H.1 a = h.1 a := fun A hA a ha => k a (hA a ha).1 (hA a ha).2.1 (hA a ha).2.2.1 (hA a ha).2.2.2.1 (hA a ha).2.2.2.2
      have e : ∀ (J : List Nat), (∀ j ∈ J, j ≠ 6 ∧ j ≠ 5) → ∀ j ∈ J, H.1 119 j = h.1 119 j := fun J hJ j hj => kj j (hJ j hj).1 (hJ j hj).2
      have eH2 : H.2 = h.2 := by rw [← hH]; exact e20
      refine inv_io (ct' := none) (dk' := some ou) hw hx hm eH2 (fun a ha => k a (by omega) (by omega) (by omega) (by omega) (by omega)) (fun j hj => kj j (by omega) (by omega)) (hT.eq (by rw [eH2]) (k 2 (by decide) (by decide) (by decide) (by decide) (by decide)) (k 3 (by decide) (by decide) (by decide) (by decide) (by decide))) (hx.2.2.2.1.eq eH2 (fun a ha => k a (by omega) (by omega) (by omega) (by omega) (by omega))) ?_ ?_ (m1.eq (e _ (by decide)) (f _ (by decide))) (m2.eq (e _ (by decide)) (f _ (by decide))) ?_ ?_ (m9.eq (e _ (by decide)) (f _ (by decide))) (m10.eq (e _ (by decide)) (f _ (by decide))) hw.1.1 hw.2.1.1 (fun d hd => by cases hd; exact hw.2.1.1) (fun n hn => by cases hn) hw.2.2.2.2.2.2.2.2.2.1 hw.2.2.2.2.2.2.2.2.2.2.2
      · intro d hd
        cases hd
        refine e2.eq (by rw [eH2, e3.1]; rfl) ?_ ?_
        · rw [kc 10 (by decide), ps_n (by decide)]
        · rw [kc 11 (by decide), ps_n (by decide)]
      · rw [kc 0 (by decide), ps_s, kz]
        exact ⟨by rw [ps_us], by rw [ps_un (by decide), ps_us]; rfl, by rw [ps_un (by decide), ps_un (by decide)]; exact hz.2.2.1, by rw [ps_un (by decide), ps_un (by decide)]; exact hz.2.2.2⟩
      · refine ⟨by rw [← hH, ps_s, ps_us]; rfl, fun d hd => ?_⟩
        cases hd
        rw [← hH, ps_n (by decide)]
        exact Arr.cp m2.2
      · unfold MU
        rw [← hH, ps_s, ps_un (by decide), pf_n (by decide), ps_s, ps_us]
        rfl
end IO
