/-! ===== restore ===== -/
section RESTORE
variable {h : AH} {s t u v : Nat}
theorem RX.swap2 {h1 : AH} (hR : RX h s t u v) (e : h1.2 = (am_setR (am_setR h 0 10 (some v)) 0 11 (some u)).2) : RX h1 s t v u := by
  intro a j ha hj
  rw [e]
  by_cases h0 : a = 0
  · subst h0
    by_cases h8 : j = 10
    · subst h8
      simp [am_setR, va_up, RF]
    · by_cases h9 : j = 11
      · subst h9
        simp [am_setR, va_up, RF]
      · have e1 : (am_setR (am_setR h 0 10 (some v)) 0 11 (some u)).2 0 j = h.2 0 j := by simp [am_setR, va_up, h8, h9]
        rw [e1, hR 0 j ha hj]
        unfold RF
        rw [if_pos rfl, if_pos rfl]
        match j, h8, h9 with
        | 0, _, _ => rfl
        | 1, _, _ => rfl
        | 2, _, _ => rfl
        | 3, _, _ => rfl
        | 4, _, _ => rfl
        | 5, _, _ => rfl
        | 6, _, _ => rfl
        | 7, _, _ => rfl
        | 8, _, _ => rfl
        | 9, _, _ => rfl
        | j + 12, _, _ => rfl
  · have e1 : (am_setR (am_setR h 0 10 (some v)) 0 11 (some u)).2 a j = h.2 a j := by simp [am_setR, h0]
    rw [e1, hR a j ha hj]
    unfold RF
    rw [if_neg h0, if_neg h0]
theorem p_coming (hR : RX h s t u v) : fX8_turnToComing GG 0 h = some ((), am_setR (am_setR h 0 10 (some v)) 0 11 (some u)) := by
  unfold fX8_turnToComing
  rw [hR.r0_10, Option.bind_some, hR.r0_11, Option.bind_some, am_let_eq, am_let_eq]
theorem f_ushr {p : Nat × Nat} (hp : gE p) : am_ushr (fcode p) (nI 16) = nI p.1 := by
  obtain ⟨⟨_, h1⟩, h2⟩ := hp
  have := pk_ushrN (n := p.1 * 65536 + p.2) (by omega) (nI 16) 16 (by decide)
  unfold am_ushr fcode
  rw [this]
  exact congrArg nI (by omega)
theorem f_and {p : Nat × Nat} (hp : gE p) : fcode p &&& nI 65535 = nI p.2 := by
  obtain ⟨⟨_, h1⟩, h2⟩ := hp
  have := pk_and (nI (p.1 * 65536 + p.2)) (m := nI 65535) 16 (by decide)
  unfold fcode
  rw [this]
  have e : (nI (p.1 * 65536 + p.2)).toBitVec.toNat = p.1 * 65536 + p.2 := uN_nI (by omega)
  rw [e]
  exact congrArg nI (by omega)
theorem q_rest56 {H : AH} (hR : RX H s t u v) (y : Int32) (M : AH) (hM : M = am_fill H 125 0 2202 (fun k => H.1 126 k)) : fX9_restore_56 GG am_fuel 119 y (nI 0) H = am_bind (fX9_stay GG 119 y M) fun _ h83 => am_let (am_setI h83 119 17 (h83.1 119 19)) fun h91 => fX9_restore_96 GG am_fuel 119 (nI 0) h91 := by
  subst hM
  refine fill_loop0 (fun z k h => fX9_restore_56 GG z 119 y (nI k) h) (fun h => am_bind (fX9_stay GG 119 y h) fun _ h83 => am_let (am_setI h83 119 17 (h83.1 119 19)) fun h91 => fX9_restore_96 GG am_fuel 119 (nI 0) h91) (fun h => RX h s t u v ∧ h.1 126 = H.1 126) 125 0 2202 (fun k => H.1 126 k) ?_ (fun h j w hP => ⟨hP.1, by rw [ps_n (by decide)]; exact hP.2⟩) ?_ H ⟨hR, rfl⟩ (by decide)
  · intro z k h hP hk
    rw [fX9_restore_56, if_neg (by rw [pb_le (by omega) (by omega)]; omega), hP.1.r119_10, Option.bind_some, hP.1.r119_11, Option.bind_some, ln_126, if_pos (pb_ok (by omega) (by decide)), ln_125, if_pos (pb_ok (by omega) (by decide)), pb_cl (by omega), am_let_eq, hP.2, pb_add, Nat.zero_add]
  · intro z h hP
    rw [fX9_restore_56, if_pos (by rw [pb_le (by omega) (by omega)]; omega)]
theorem q_rest96 {H : AH} {n : Nat} (hR : RX H s t u v) (hn : n ≤ 8) (h17 : H.1 119 17 = nI n) (M : AH) (hM : M = am_fill H 129 0 (202 * n) (fun k => H.1 130 k)) : fX9_restore_96 GG am_fuel 119 (nI 0) H = some (nI 1, M) := by
  subst hM
  refine fill_loop0 (fun z k h => fX9_restore_96 GG z 119 (nI k) h) (fun h => some (nI 1, h)) (fun h => RX h s t u v ∧ h.1 119 17 = nI n ∧ h.1 130 = H.1 130) 129 0 (202 * n) (fun k => H.1 130 k) ?_ (fun h j w hP => ⟨hP.1, by rw [ps_n (by decide)]; exact hP.2.1, by rw [ps_n (by decide)]; exact hP.2.2⟩) ?_ H ⟨hR, h17, rfl⟩ (by omega)
  · intro z k h hP hk
    rw [fX9_restore_96, hP.2.1, pb_mul, if_neg (by rw [pb_le (by omega) (by omega)]; omega), hP.1.r119_16, Option.bind_some, hP.1.r119_18, Option.bind_some, ln_130, if_pos (pb_ok (by omega) (by decide)), ln_129, if_pos (pb_ok (by omega) (by decide)), pb_cl (by omega), am_let_eq, hP.2.2, pb_add, Nat.zero_add]
  · intro z h hP
    rw [fX9_restore_96, hP.2.1, pb_mul, if_pos (by rw [pb_le (by omega) (by omega)]; omega)]
theorem q_restore {X : AH} {tp hd ow mm : List Nat} {pc : Nat} {fs : List Fm} (hR : RX X s t u v) (m1 : MT X tp) (m5 : MS X hd ow) (hsm : SeM (X.1 125) (mm, pc, fs)) (ho : ow ≠ []) (hb : By tp) (hbl : tp.length ≤ 2000) (bo : By ow) (hl : ow.length ≤ 1000) (hhd : hd.length = 10) (bh : By hd) (w2 : By mm) (hlen : mm.length = ow.length) (hok : ∀ R, rdFile tp hd ow = .ok R → WS ow R.1 ∧ R.2.length ≤ 8 ∧ ∀ x ∈ R.2, x.2.length ≤ 200) : match rdFile tp hd ow with
    | .error p => ∃ G, fX9_restore GG 119 X = some ((-10 : Int32) - nI p.1, G) ∧ G.2 = X.2 ∧ (∀ a, a ≠ 119 → a ≠ 126 → a ≠ 130 → G.1 a = X.1 a) ∧ (∀ j, j < 17 → j ≠ 1 → G.1 119 j = X.1 119 j) ∧ G.1 119 17 = X.1 119 17 ∧ G.1 119 25 = X.1 119 25 ∧ G.1 119 1 = nI 0 ∧ EW G p
    | .ok R => ∃ G, fX9_restore GG 119 X = some (nI 1, G) ∧ G.2 = X.2 ∧ (∀ a, a ≠ 119 → a ≠ 125 → a ≠ 126 → a ≠ 129 → a ≠ 130 → G.1 a = X.1 a) ∧ (∀ j, j < 17 → j ≠ 1 → G.1 119 j = X.1 119 j) ∧ G.1 119 25 = X.1 119 25 ∧ G.1 119 1 = nI 0 ∧ SeM (G.1 125) (sb mm R.1.1, R.1.2) ∧ MG G R.2 ∧ MZ G 0 none := by
  have hp := len_pos ho
  have hne : ¬ nI ow.length = 0 := by rw [pb_eq0 (by omega)]; omega
  generalize hY : am_setI (am_setI (am_setI (am_setI X 119 28 (nI tp.length)) 119 1 (nI 0)) 119 20 (nI 0)) 119 21 (-2 : Int32) = Y
  have eY : Y.2 = X.2 := by rw [← hY]; rfl
  have kY : ∀ a, a ≠ 119 → Y.1 a = X.1 a := fun a ha => by rw [← hY, ps_n ha, ps_n ha, ps_n ha, ps_n ha]
  have jY : ∀ j, j ≠ 28 → j ≠ 1 → j ≠ 20 → j ≠ 21 → Y.1 119 j = X.1 119 j := fun j p1 p2 p3 p4 => by rw [← hY, ps_s, ps_un p4, ps_s, ps_un p3, ps_s, ps_un p2, ps_s, ps_un p1]
  have y1 : Y.1 119 1 = nI 0 := by rw [← hY, ps_s, ps_un (by decide), ps_s, ps_un (by decide), ps_s, ps_us]
  have y28 : Y.1 119 28 = nI tp.length := by rw [← hY, ps_s, ps_un (by decide), ps_s, ps_un (by decide), ps_s, ps_un (by decide), ps_s, ps_us]
  have y20 : Y.1 119 20 = nI 0 := by rw [← hY, ps_s, ps_un (by decide), ps_s, ps_us]
  have y21 : Y.1 119 21 = (-2 : Int32) := by rw [← hY, ps_s, ps_us]
  have RY : RX Y s t u v := hR.eq eY
  have start : fX9_restore GG 119 X = am_bind (fX9_readFile GG 119 Y) fun r35 h35 => if r35 = 0 then some ((-10 : Int32) - h35.1 119 20, h35) else am_bind (fX9_bits GG 119 h35) fun r50 h50 => fX9_restore_56 GG am_fuel 119 r50 (nI 0) h50 := by
    unfold fX9_restore
    rw [m1.1, am_let_eq, am_let_eq, ps_s, ps_un (by decide), ps_s, ps_un (by decide), m5.1, if_neg hne, am_let_eq, am_let_eq, hY]
  have hF : MFix Y s t u v tp hd ow := ⟨RY, by rw [kY 120 (by decide)]; exact m1.2, y28, by rw [jY 9 (by decide) (by decide) (by decide) (by decide)]; exact m5.1, by rw [kY 123 (by decide)]; exact m5.2.1, by rw [kY 124 (by decide)]; exact m5.2.2⟩
  obtain ⟨r, Z, e1, e2, e3⟩ := q_readFile hF hb bo hl hhd bh hbl
  have kZ : ∀ a, a ≠ 119 → a ≠ 126 → a ≠ 130 → Z.1 a = X.1 a := fun a p q r => by rw [e2.c p q r, kY a p]
  have jZ : ∀ j, j ≠ 28 → j ≠ 1 → j ≠ 19 → j ≠ 20 → j ≠ 21 → Z.1 119 j = X.1 119 j := fun j p1 p2 p3 p4 p5 => by rw [e2.2 j p3 p4 p5, jY j p1 p2 p4 p5]
  have z1 : Z.1 119 1 = nI 0 := by rw [e2.2 1 (by decide) (by decide) (by decide)]; exact y1
  have eZ : Z.2 = X.2 := e2.1.1.trans eY
  have RZ : RX Z s t u v := hR.eq eZ
  cases hrd : rdFile tp hd ow with
  | error p =>
    rw [hrd] at e3
    refine ⟨Z, ?_, eZ, kZ, fun j p1 p2 => jZ j (by omega) (by omega) (by omega) (by omega) (by omega), jZ 17 (by decide) (by decide) (by decide) (by decide) (by decide), jZ 25 (by decide) (by decide) (by decide) (by decide) (by decide), z1, e3.2⟩
    rw [start, e1, am_bs, e3.1, if_pos (by decide), e3.2.1]
  | ok R =>
    rw [hrd] at e3
    obtain ⟨⟨m2, pc2, fs2⟩, st2⟩ := R
    obtain ⟨hws, h8, h200⟩ := hok _ hrd
    obtain ⟨⟨x1, x2, x3, x4, x5⟩, xl, xr⟩ := id hws
    simp only at xl h8 h200
    obtain ⟨er, ⟨o1, o2, o3, o4⟩, o5⟩ := e3
    simp only at o1 o2 o3 o4
    have hseZ : SeM (Z.1 126) (m2, pc2, fs2) := ⟨o2, o1, o3.1, o3.2⟩
    have hb' := q_bits (H := Z) RZ (mm := mm) (pc := pc) (fs := fs) (by rw [jZ 9 (by decide) (by decide) (by decide) (by decide) (by decide), hlen]; exact m5.1) (by omega) w2 (by rw [kZ 125 (by decide) (by decide) (by decide)]; exact hsm)
    have e56 := q_rest56 (H := Z) RZ (nI (mm.getD 17 0 % 4)) _ rfl
    have hsx : SeM ((am_fill Z 125 0 2202 (fun k => Z.1 126 k)).1 125) (m2, pc2, fs2) := hseZ.on hws.1 (fun k hk => by rw [pf_in (by omega) (by omega), Nat.sub_zero])
    generalize hG1 : am_fill Z 125 0 2202 (fun k => Z.1 126 k) = G1 at e56 hsx
    have FG1 : Fr Z G1 [125] := by rw [← hG1]; exact Fr.fill (by simp)
    obtain ⟨H, g1, g2, g3⟩ := q_stay (H := G1) (mm := mm) (RZ.eq FG1.1) (m2 := m2) (by rw [FG1.2 119 (by decide), jZ 9 (by decide) (by decide) (by decide) (by decide) (by decide), xl]; exact m5.1) x1 x2 hsx
    have FH := FG1.tr g3
    have kH : ∀ a, a ≠ 125 → H.1 a = Z.1 a := fun a ha => FH.2 a (by simp [ha])
    have h19 : H.1 119 19 = nI st2.length := by rw [kH 119 (by decide)]; exact o4.1
    generalize hH2 : am_setI H 119 17 (nI st2.length) = H2
    have eH2 : H2.2 = X.2 := by rw [← hH2]; exact FH.1.trans eZ
    have kH2 : ∀ a, a ≠ 119 → a ≠ 125 → H2.1 a = Z.1 a := fun a p q => by rw [← hH2, ps_n p, kH a q]
    have jH2 : ∀ j, j ≠ 17 → H2.1 119 j = Z.1 119 j := fun j hj => by rw [← hH2, ps_s, ps_un hj, kH 119 (by decide)]
    have e96 := q_rest96 (H := H2) (n := st2.length) (hR.eq eH2) h8 (by rw [← hH2, ps_s, ps_us]) _ rfl
    generalize hG : am_fill H2 129 0 (202 * st2.length) (fun k => H2.1 130 k) = G at e96
    have FG : Fr H2 G [129] := by rw [← hG]; exact Fr.fill (by simp)
    have kG : ∀ a, a ≠ 129 → G.1 a = H2.1 a := fun a ha => FG.2 a (by simp [ha])
    refine ⟨G, ?_, FG.1.trans eH2, fun a p1 p2 p3 p4 p5 => by rw [kG a p4, kH2 a p1 p2, kZ a p1 p3 p5], fun j p1 p2 => ?_, ?_, ?_, ?_, ⟨?_, fun i x hx => ?_⟩, ?_, ?_⟩
    · rw [start, e1, am_bs, er, if_neg (by decide), hb', am_bs, e56, g1, am_bs, h19, am_let_eq, hH2]
      exact e96
    · rw [kG 119 (by decide), jH2 j (by omega), jZ j (by omega) p2 (by omega) (by omega) (by omega)]
    · rw [kG 119 (by decide), jH2 25 (by decide), jZ 25 (by decide) (by decide) (by decide) (by decide) (by decide)]
    · rw [kG 119 (by decide), jH2 1 (by decide)]; exact z1
    · rw [kG 125 (by decide), ← hH2, ps_n (by decide)]; exact g2
    · rw [kG 119 (by decide), ← hH2, ps_s, ps_us]
    · obtain ⟨q1, q2, q3⟩ := o4.2 i x hx
      have hi : i < st2.length := (List.getElem?_eq_some_iff.mp hx).1
      have hxl := h200 x (List.mem_of_getElem? hx)
      have cp : ∀ k, k < 202 * st2.length → G.1 129 k = Z.1 130 k := fun k hk => by
        rw [← hG, pf_in (by omega) (by omega), Nat.sub_zero, kH2 130 (by decide) (by decide)]
      exact ⟨by rw [cp _ (by omega)]; exact q1, by rw [cp _ (by omega)]; exact q2, fun k hk => by rw [cp _ (by omega)]; exact q3 k hk⟩
    · rw [kG 119 (by decide), jH2 20 (by decide), o5.1]; exact y20
    · rw [kG 119 (by decide), jH2 21 (by decide), o5.2]; exact y21
theorem st_restore (hI : Inv h) : ∃ r h1 h2, fX8_restore GG 0 h = some (r, h1) ∧ fX9_restore GG 119 h1 = some (r, h2) ∧ Inv h2 := by
  obtain ⟨s, t, u, v, ⟨tp, ou, dk, ct, hd, ow, ⟨mm, pc, fs⟩, kp, bd, st, cd, pl, ch⟩, hw, hx, hm⟩ := id hI
  have hR := hx.1
  obtain ⟨hq, hqt, hst, hu, hv, huv⟩ := id hx.2.1
  obtain ⟨c0, c1, c2, c3, c4, c5, c6, c7, c8, c9⟩ := id hx
  obtain ⟨m0, m1, m2, m3, m4, m5, m6, m7, m8, m9, m10⟩ := id hm
  have hl : ow.length ≤ 1000 := hw.2.2.2.2.2.1.2
  have hs' : s = 23 ∨ s = 66 := hq
  have ht' : t = 23 ∨ t = 66 := hqt
  have hu' : u = 109 ∨ u = 114 := hu
  have hv' : v = 109 ∨ v = 114 := hv
  have arr0 : ∀ g, Arr g [] := fun g i hi => by simp at hi
  by_cases ho : ow = []
  · obtain ⟨h1, e1, e2, e3⟩ := p_clear0 (h := h) (N := 2000) hR.r2_0
    have k1 : ∀ a, a ≠ 2 → h1.1 a = h.1 a := fun a ha => e3.2 a (by simp [ha])
    generalize hG : am_setI (am_setI h1 119 28 (h1.1 119 1)) 119 1 (nI 0) = G
    have kG : ∀ a, a ≠ 119 → G.1 a = h1.1 a := fun a ha => by rw [← hG, ps_n ha, ps_n ha]
    have jG : ∀ j, j ≠ 28 → j ≠ 1 → G.1 119 j = h.1 119 j := fun j p q => by rw [← hG, ps_s, ps_un q, ps_s, ps_un p, k1 119 (by decide)]
    have eG : G.2 = h.2 := by rw [← hG]; exact e3.1
    have kk : ∀ a, a ≠ 2 → a ≠ 119 → G.1 a = h.1 a := fun a p q => by rw [kG a q, k1 a p]
    refine ⟨-4, h1, G, ?_, ?_, ?_⟩
    · unfold fX8_restore
      rw [p_noStory hR c5 hl, am_bs, if_pos ho, if_neg (by decide), hR.r0_2, Option.bind_some, e1, am_bs]
    · unfold fX9_restore
      rw [am_let_eq, am_let_eq, hG, jG 9 (by decide) (by decide), m5.1, ho, if_pos (by rfl)]
    · have f : ∀ (A : List Nat), (∀ a ∈ A, 119 < a) → ∀ a ∈ A, G.1 a = h.1 a := fun A hA a ha => kk a (by have := hA a ha; omega) (by have := hA a ha; omega)
      have e : ∀ (J : List Nat), (∀ j ∈ J, j ≠ 28 ∧ j ≠ 1) → ∀ j ∈ J, G.1 119 j = h.1 119 j := fun J hJ j hj => jG j (hJ j hj).1 (hJ j hj).2
      exact inv_io (tp' := []) hw hx hm eG (fun a ha => kk a (by omega) (by omega)) (fun j hj => jG j (by omega) (by omega)) (e2.eq (by rw [eG, e3.1]) (kG 2 (by decide)) (kG 3 (by decide))) (c3.eq eG (fun a ha => kk a (by omega) (by omega))) (c4.eq eG (fun a ha => kk a (by omega) (by omega))) (by rw [kk 0 (by decide) (by decide)]; exact c9) ⟨by rw [← hG, ps_s, ps_us]; rfl, arr0 _⟩ (m2.eq (e _ (by decide)) (f _ (by decide))) (m3.eq (e _ (by decide)) (f _ (by decide))) (m4.eq (e _ (by decide)) (f _ (by decide))) (m9.eq (e _ (by decide)) (f _ (by decide))) (m10.eq (e _ (by decide)) (f _ (by decide))) (fun b hb => by cases hb) hw.2.1.1 (fun d hd => (hw.2.2.1 d hd).1) hw.2.2.2.1 hw.2.2.2.2.2.2.2.2.2.1 hw.2.2.2.2.2.2.2.2.2.2.2
  · have hsm := m6 ho
    have hg := (hw.2.2.2.2.2.2.1.2 ho).1
    obtain ⟨⟨w1, w2, w3, w4, w5⟩, hlen, -⟩ := id hg
    simp only at hlen
    have htb := hw.1.1
    have htl := hw.1.2
    have bo := hw.2.2.2.2.2.1.1
    have hhd := hw.2.2.2.2.1.2.2 ho
    have bh := hw.2.2.2.2.1.1
    obtain ⟨r, h1, a1, a2, a3⟩ := p_readFor (t := t) (v := v) hqt hv hR c2 c5 htb bo hl hhd bh
    have R1 := hR.eq a2.1
    obtain ⟨h2, b1, b2, b3⟩ := p_clear0 (h := h1) (N := 2000) R1.r2_0
    have R2 := R1.eq b3.1
    have k2 : ∀ a, a ≠ 1 → a ≠ 2 → (a < t ∨ t + 42 < a) → (a < v ∨ v + 4 < a) → h2.1 a = h.1 a := fun a p q r w => by rw [b3.2 a (by simp [q]), a2.2 a p r w]
    have start : fX8_restore GG 0 h = am_let (am_setI h2 0 14 (am_ushr r (nI 16))) fun h49 => if r = 0 then fX8_restore_66 GG 0 r 0 (-2 : Int32) h49 else fX8_restore_66 GG 0 r 0 (r &&& nI 65535) h49 := by
      unfold fX8_restore
      rw [p_noStory hR c5 hl, am_bs, if_neg ho, if_pos (by decide), hR.r0_0, Option.bind_some, hR.r0_6, Option.bind_some, hR.r0_9, Option.bind_some, hR.r0_11, Option.bind_some, a1, am_bs, R1.r0_2, Option.bind_some, b1, am_bs]
    cases hrd : rdFile tp hd ow with
    | error p =>
      rw [hrd] at a3
      obtain ⟨ar, hgp⟩ := a3
      subst ar
      generalize hh3 : am_setI (am_setI h2 0 14 (nI p.1)) 0 15 (nI p.2) = h3
      have e3 : h3.2 = h.2 := by rw [← hh3]; exact b3.1.trans a2.1
      have k3 : ∀ a, a ≠ 0 → h3.1 a = h2.1 a := fun a ha => by rw [← hh3, ps_n ha, ps_n ha]
      have k3m : ∀ a, 119 ≤ a → h3.1 a = h.1 a := fun a ha => by rw [k3 a (by omega), k2 a (by omega) (by omega) (by omega) (by omega)]
      have Q := q_restore (X := h3) (hR.eq e3) (m1.eq (fun j _ => by rw [k3m 119 (by omega)]) (fun a ha => k3m a (by simp at ha; omega))) (m5.eq (fun j _ => by rw [k3m 119 (by omega)]) (fun a ha => k3m a (by simp at ha; omega))) (by rw [k3m 125 (by omega)]; exact hsm) ho htb htl bo hl hhd bh w2 hlen (fun R hz => by rw [hrd] at hz; cases hz)
      rw [hrd] at Q
      obtain ⟨G, q1, q2, q3, q4, q5, q6, q7, q8⟩ := Q
      have kG : ∀ a, a ≠ 0 → a ≠ 1 → a ≠ 2 → (a < t ∨ t + 42 < a) → (a < v ∨ v + 4 < a) → a ≠ 119 → a ≠ 126 → a ≠ 130 → G.1 a = h.1 a := fun a p1 p2 p3 p4 p5 p6 p7 p8 => by rw [q3 a p6 p7 p8, k3 a p1, k2 a p2 p3 p4 p5]
      have eG : G.2 = h.2 := q2.trans e3
      have G0 : G.1 0 = h3.1 0 := q3 0 (by decide) (by decide) (by decide)
      have h20 : h2.1 0 = h.1 0 := k2 0 (by decide) (by decide) (by omega) (by omega)
      refine ⟨(-10 : Int32) - nI p.1, h3, G, ?_, q1, ?_⟩
      · rw [start, f_ushr hgp, am_let_eq, if_neg hgp.ne, f_and hgp]
        unfold fX8_restore_66
        rw [am_let_eq, hh3, if_neg hgp.ne, ← hh3, ps_s, ps_un (by decide), ps_s, ps_us]
      · have f : ∀ (A : List Nat), (∀ a ∈ A, 119 < a ∧ a ≠ 126 ∧ a ≠ 130) → ∀ a ∈ A, G.1 a = h.1 a := fun A hA a ha => by
          have := hA a ha
          exact kG a (by omega) (by omega) (by omega) (by omega) (by omega) (by omega) (by omega) (by omega)
        have j3 : ∀ j, h3.1 119 j = h.1 119 j := fun j => by rw [k3m 119 (by omega)]
        have e : ∀ (J : List Nat), (∀ j ∈ J, j < 17 ∧ j ≠ 1) → ∀ j ∈ J, G.1 119 j = h.1 119 j := fun J hJ j hj => by rw [q4 j (hJ j hj).1 (hJ j hj).2, j3]
        refine inv_io (tp' := []) (cd' := p.1) (pl' := some p.2) hw hx hm eG (fun a ha => kG a (by omega) (by omega) (by omega) (by omega) (by omega) (by omega) (by omega) (by omega)) (fun j hj => ?_) (b2.eq (by rw [eG, b3.1, a2.1]) (by rw [q3 2 (by decide) (by decide) (by decide), k3 2 (by decide)]) (by rw [q3 3 (by decide) (by decide) (by decide), k3 3 (by decide)])) (c3.eq eG (fun a ha => kG a (by omega) (by omega) (by omega) (by omega) (by omega) (by omega) (by omega) (by omega))) (c4.eq eG (fun a ha => kG a (by omega) (by omega) (by omega) (by omega) (by omega) (by omega) (by omega) (by omega))) ⟨?_, ?_, ?_, ?_⟩ ⟨q7, arr0 _⟩ (m2.eq (e _ (by decide)) (f _ (by decide))) (m3.eq (e _ (by decide)) (f _ (by decide))) (m4.eq (e _ (by decide)) (f _ (by decide))) q8 (m10.eq (fun j hj => ?_) (f _ (by decide))) (fun b hb => by cases hb) hw.2.1.1 (fun d hd => (hw.2.2.1 d hd).1) hw.2.2.2.1 ⟨hgp.1.2, fun x hx => by cases hx; exact hgp.2⟩ hw.2.2.2.2.2.2.2.2.2.2.2
        · by_cases h17 : j = 17
          · subst h17; rw [q5, j3]
          · rw [q4 j (by omega) (by omega), j3]
        · rw [G0, ← hh3, ps_s, ps_un (by decide), ps_s, ps_un (by decide), h20]; exact c9.1
        · rw [G0, ← hh3, ps_s, ps_un (by decide), ps_s, ps_un (by decide), h20]; exact c9.2.1
        · rw [G0, ← hh3, ps_s, ps_un (by decide), ps_s, ps_us]
        · rw [G0, ← hh3, ps_s, ps_us]; rfl
        · simp at hj
          subst hj
          rw [q6, j3]
    | ok R =>
      rw [hrd] at a3
      obtain ⟨ar, hokr⟩ := a3
      subst ar
      obtain ⟨⟨n2, pc2, fs2⟩, st2⟩ := R
      obtain ⟨o1, o2, o3, o4, o5⟩ := hokr
      simp only at o1 o2 o3 o4 o5
      obtain ⟨⟨x1, x2, x3, x4, x5⟩, xl, xr⟩ := id o3
      generalize hh3 : am_setI (am_setI h2 0 14 (nI 0)) 0 15 (-2 : Int32) = h3
      have e3 : h3.2 = h.2 := by rw [← hh3]; exact b3.1.trans a2.1
      have R3 : RX h3 s t u v := hR.eq e3
      have k3 : ∀ a, a ≠ 0 → h3.1 a = h2.1 a := fun a ha => by rw [← hh3, ps_n ha, ps_n ha]
      have k31 : ∀ a, a ≠ 0 → a ≠ 2 → h3.1 a = h1.1 a := fun a ha h2' => by rw [k3 a ha, b3.2 a (by simp [h2'])]
      have hse3 : SeX h3 s (mm, pc, fs) := c7.eq' hw.fr.1 (fun a ha => by rw [k3 a (by omega), k2 a (by omega) (by omega) (by omega) (by omega)])
      have hst3 : SeX h3 t (n2, pc2, fs2) := o1.eq' x4 (fun a ha => k31 a (by omega) (by omega))
      obtain ⟨h4, f1, f2, f3, f4, f5⟩ := p_turn hq hqt hst R3 hse3 hst3 w1 x1 w2 x2
      have hco := p_coming f2
      generalize hh5 : am_setR (am_setR h4 0 10 (some v)) 0 11 (some u) = h5 at hco
      have R5 : RX h5 t s v u := RX.swap2 f2 (by rw [hh5])
      have k5 : ∀ a, h5.1 a = h4.1 a := fun a => by rw [← hh5]; rfl
      have r5 : ∀ a, a ≠ 0 → h5.2 a = h.2 a := fun a ha => by
        have : h5.2 a = h4.2 a := by rw [← hh5]; simp [am_setR, ha]
        rw [this, f5 a ha, e3]
      have k53 : ∀ a, a ≠ t + 1 → h5.1 a = h3.1 a := fun a ha => by rw [k5 a, f4 a ha]
      have k5h : ∀ a, a ≠ 0 → a ≠ 1 → a ≠ 2 → (a < t ∨ t + 42 < a) → (a < v ∨ v + 4 < a) → h5.1 a = h.1 a := fun a p1 p2 p3 p4 p5 => by rw [k53 a (by omega), k3 a p1, k2 a p2 p3 p4 p5]
      have k5m : ∀ a, 119 ≤ a → h5.1 a = h.1 a := fun a ha => k5h a (by omega) (by omega) (by omega) (by omega) (by omega)
      have Q := q_restore (X := h5) R5 (m1.eq (fun j _ => by rw [k5m 119 (by omega)]) (fun a ha => k5m a (by simp at ha; omega))) (m5.eq (fun j _ => by rw [k5m 119 (by omega)]) (fun a ha => k5m a (by simp at ha; omega))) (by rw [k5m 125 (by omega)]; exact hsm) ho htb htl bo hl hhd bh w2 hlen (fun R hz => by
        rw [hrd] at hz
        cases hz
        exact ⟨o3, o4, fun x hx => (o5 x hx).2.2⟩)
      rw [hrd] at Q
      obtain ⟨G, q1, q2, q3, q4, q5, q6, q7, q8, q9⟩ := Q
      have kGc : ∀ a, a < 119 → G.1 a = h5.1 a := fun a ha => q3 a (by omega) (by omega) (by omega) (by omega) (by omega)
      have rG : ∀ a, a ≠ 0 → G.2 a = h.2 a := fun a ha => by rw [q2]; exact r5 a ha
      have kG : ∀ a, a ≠ 0 → a ≠ 1 → a ≠ 2 → (a < 23 ∨ 118 < a) → a ≠ 119 → a ≠ 125 → a ≠ 126 → a ≠ 129 → a ≠ 130 → G.1 a = h.1 a := fun a p1 p2 p3 p4 p5 p6 p7 p8 p9 => by rw [q3 a p5 p6 p7 p8 p9, k5h a p1 p2 p3 (by omega) (by omega)]
      have G0 : G.1 0 = h3.1 0 := by rw [kGc 0 (by decide), k53 0 (by omega)]
      have h20 : h2.1 0 = h.1 0 := k2 0 (by decide) (by decide) (by omega) (by omega)
      have f : ∀ (A : List Nat), (∀ a ∈ A, 119 < a ∧ a ≠ 125 ∧ a ≠ 126 ∧ a ≠ 129 ∧ a ≠ 130) → ∀ a ∈ A, G.1 a = h.1 a := fun A hA a ha => by
        have := hA a ha
        exact kG a (by omega) (by omega) (by omega) (by omega) (by omega) (by omega) (by omega) (by omega) (by omega)
      have j5 : ∀ j, h5.1 119 j = h.1 119 j := fun j => by rw [k5m 119 (by omega)]
      have e : ∀ (J : List Nat), (∀ j ∈ J, j < 17 ∧ j ≠ 1) → ∀ j ∈ J, G.1 119 j = h.1 119 j := fun J hJ j hj => by rw [q4 j (hJ j hj).1 (hJ j hj).2, j5]
      refine ⟨nI 1, h5, G, ?_, q1, ?_⟩
      · rw [start, show am_ushr (nI 0) (nI 16) = nI 0 by decide, am_let_eq, if_pos (by decide)]
        unfold fX8_restore_66
        rw [am_let_eq, hh3, if_pos (by decide), f1, am_bs, hco, am_bs]
      · refine inv_turn (tp' := []) (ss' := (sb mm n2, pc2, fs2)) (kp' := kp) (st' := st2) (cd' := 0) (pl' := none) (s' := t) (t' := s) (u' := v) (v' := u) hw hx hm ho (R5.eq q2) ⟨hqt, hq, fun z => hst z.symm, hv, hu, fun z => huv z.symm⟩ rG (fun a ha => kG a (by omega) (by omega) (by omega) (by omega) (by omega) (by omega) (by omega) (by omega) (by omega)) (fun j hj => ?_) (fun j hj => ?_) (b2.eq (by rw [rG 2 (by decide), b3.1, a2.1]) (by rw [kGc 2 (by decide), k53 2 (by omega), k3 2 (by decide)]) (by rw [kGc 3 (by decide), k53 3 (by omega), k3 3 (by decide)])) (c6.er rG (fun a ha => kG a (by omega) (by omega) (by omega) (by omega) (by omega) (by omega) (by omega) (by omega) (by omega))) (f3.eq' x4 (fun a ha => by rw [kGc a (by omega), k5 a])) (o2.er (fun a ha => by rw [rG a ha, a2.1]) (fun a ha => by rw [kGc a (by omega), k53 a (by omega), k31 a (by omega) (by omega)])) ?_ ?_ ⟨q6, arr0 _⟩ q7 (m7.eq (e _ (by decide)) (f _ (by decide))) q8 q9 (fun b hb => by cases hb) o3.sb (hw.2.2.2.2.2.2.1.2 ho).2 ⟨hw.2.2.2.2.2.2.2.1.1, hw.2.2.2.2.2.2.2.1.2.2⟩ ⟨o4, o5⟩ ⟨by decide, fun x hx => by cases hx⟩
        · by_cases h25 : j = 25
          · subst h25; rw [q5, j5]
          · rw [q4 j (by omega) (by omega), j5]
        · rw [G0, ← hh3, ps_s, ps_un (by omega), ps_s, ps_un (by omega), h20]
        · rw [G0, ← hh3, ps_s, ps_un (by decide), ps_s, ps_us]
        · rw [G0, ← hh3, ps_s, ps_us]; rfl
end RESTORE
