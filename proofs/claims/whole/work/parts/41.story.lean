/-! ===== story ===== -/
section STORY
variable {h : AH} {s t u v : Nat}
theorem am_bs {α β : Type} {r : α} {h : AH} (K : α → AH → Option (β × AH)) : am_bind (some (r, h)) K = K r h := rfl
theorem am_let_eq {α β : Type} (x : α) (K : α → β) : am_let x K = K x := rfl
theorem TQ.r0 {q : Nat} (hq : TQ q) {h : AH} {s t u v : Nat} (hR : RX h s t u v) : h.2 q 0 = some (q + 1) := by rcases hq with rfl | rfl <;> exact hR _ _ (by decide) (by decide)
theorem TQ.r1 {q : Nat} (hq : TQ q) {h : AH} {s t u v : Nat} (hR : RX h s t u v) : h.2 q 1 = some (q + 3) := by rcases hq with rfl | rfl <;> exact hR _ _ (by decide) (by decide)
theorem TQ.r2 {q : Nat} (hq : TQ q) {h : AH} {s t u v : Nat} (hR : RX h s t u v) : h.2 q 2 = some (q + 4) := by rcases hq with rfl | rfl <;> exact hR _ _ (by decide) (by decide)
theorem TQ.l {q : Nat} (hq : TQ q) : am_len GG (q + 2) = 1600 := by rcases hq with rfl | rfl <;> rfl
theorem TQ.l3 {q : Nat} (hq : TQ q) : am_len GG (q + 3) = 8 := by rcases hq with rfl | rfl <;> rfl
theorem TQ.l4 {q : Nat} (hq : TQ q) : am_len GG (q + 4) = 8 := by rcases hq with rfl | rfl <;> rfl
theorem TQ.rr {q : Nat} (hq : TQ q) {h : AH} {s t u v : Nat} (hR : RX h s t u v) : h.2 (q + 1) 0 = some (q + 2) := by rcases hq with rfl | rfl <;> exact hR _ _ (by decide) (by decide)
theorem max_nI {k : Nat} (hk : k < 2 ^ 31) : am_max (nI 0) (nI k) = nI k := by
  unfold am_max
  by_cases h0 : k = 0
  · subst h0
    simp
  · first
    | rw [if_pos (by rw [pb_ltI (by decide) hk]; omega)]
    | rw [if_neg (by rw [pb_ltI hk (by decide)]; omega)]
/-- a story is taken off the tape -/
theorem p_takeFrom {tp : List Nat} (hR : RX h s t u v) (hT : Byt h 2 3 2000 tp) (h1 : 11 ≤ tp.length) (h2 : tp.length ≤ 1010) : ∃ T, fX5_takeFrom GG 14 2 h = some ((), T) ∧ Fr h T [14, 15, 16] ∧ CS T (tp.take 10) (tp.drop 10) := by
  have A := fill_loop0 (fun z i h => fX5_takeFrom_2 GG z 14 2 (nI i) h) (fun g => am_let (am_setI g 14 2 (am_max (nI 0) (am_min ((g.1 2 1) - (nI 10)) (nI 1000)))) fun h43 => fX5_takeFrom_48 GG am_fuel 14 2 (nI 0) h43) (fun g => RX g s t u v ∧ Byt g 2 3 2000 tp) 15 0 10 (fun k => nI (tp.getD k 0)) (by
    intro z i g hP hi
    rw [fX5_takeFrom_2, if_neg (by rw [pb_le (by omega) (by omega)]; omega), hP.1.r14_0, Option.bind_some, p_at hP.2 ln_3 (by decide) (by omega)]
    simp (disch := omega) only [am_bind, Option.bind_some, ln_15, pb_ok, if_true, pb_cl, am_let, pb_add, Nat.zero_add]) (fun g j w hP => ⟨hP.1, hP.2.eq rfl (ps_n (by decide)) (ps_n (by decide))⟩) (by
    intro z g hP
    rw [fX5_takeFrom_2, if_pos (by rw [pb_le (by omega) (by omega)]; omega)]) h ⟨hR, hT⟩ (by omega)
  generalize hG : am_fill h 15 0 10 (fun k => nI (tp.getD k 0)) = G at A
  have hFG : Fr h G [14, 15, 16] := by rw [← hG]; exact Fr.fill (by simp)
  have hTG : Byt G 2 3 2000 tp := hT.fr hFG (by decide) (by decide)
  have B := fill_loop0 (fun z i h => fX5_takeFrom_48 GG z 14 2 (nI i) h) (fun g => some ((), g)) (fun g => RX g s t u v ∧ Byt g 2 3 2000 tp ∧ g.1 14 2 = nI (tp.length - 10)) 16 0 (tp.length - 10) (fun k => nI (tp.getD (10 + k) 0)) (by
    intro z i g hP hi
    rw [fX5_takeFrom_48, hP.2.2, if_neg (by rw [pb_le (by omega) (by omega)]; omega), hP.1.r14_1, Option.bind_some, pb_add, p_at hP.2.1 ln_3 (by decide) (by omega)]
    simp (disch := omega) only [am_bind, Option.bind_some, ln_16, pb_ok, if_true, pb_cl, am_let, pb_add, Nat.zero_add]) (fun g j w hP => ⟨hP.1, hP.2.1.eq rfl (ps_n (by decide)) (ps_n (by decide)), by rw [ps_n (by decide)]; exact hP.2.2⟩) (by
    intro z g hP
    rw [fX5_takeFrom_48, hP.2.2, if_pos (by rw [pb_le (by omega) (by omega)]; omega)]) (am_setI G 14 2 (nI (tp.length - 10))) ⟨hR.eq hFG.1, hTG.eq rfl (ps_n (by decide)) (ps_n (by decide)), by rw [ps_s, ps_us]⟩ (by omega)
  refine ⟨am_fill (am_setI G 14 2 (nI (tp.length - 10))) 16 0 (tp.length - 10) (fun k => nI (tp.getD (10 + k) 0)), ?_, (hFG.tr (Fr.set (by simp))).tr (Fr.fill (by simp)), ?_, ?_, ?_⟩
  rotate_left
  · rw [pf_n (by decide), ps_s, ps_us, List.length_drop]
  · intro i hi
    simp at hi
    rw [pf_n (by decide), ps_n (by decide), ← hG, pf_in (by omega) (by omega), Nat.sub_zero]
    simp [List.getD, List.getElem?_take, show i < 10 by omega]
  · intro i hi
    simp at hi
    rw [pf_in (by omega) (by omega), Nat.sub_zero]
    simp only [List.getD_eq_getElem?_getD, List.getElem?_drop]
  · unfold fX5_takeFrom
    refine Eq.trans A ?_
    unfold am_let
    have : G.1 2 1 = nI tp.length := hTG.2.2.1
    rw [this, pb_sub (by omega), min_nI (by omega) (by decide), Nat.min_eq_left (by omega), max_nI (by omega)]
    exact B
theorem p_clear6 {q : Nat} {st : List (Nat × List Nat)} (hq : TQ q) (hR : RX h s t u v) (hC : CG h q st) : ∃ h1, fX6_clear GG q h = some ((), h1) ∧ CG h1 q [] ∧ Fr h h1 [q, q + 1] := by
  obtain ⟨h1, e1, e2, e3⟩ := p_clear (Γ := GG) hC.1
  refine ⟨am_setI h1 q 3 (nI 0), ?_, ⟨?_, ?_, fun i x hx => by simp at hx⟩, (e3.mo (by simp)).tr (Fr.set (by simp))⟩
  · unfold fX6_clear
    rw [hq.r0 hR, Option.bind_some, e1]
    rfl
  · exact e2.eq rfl (ps_n (by omega)) (ps_n (by omega))
  · rw [ps_s, ps_us]; rfl
theorem p_clear2 {kp : List Sn} {ow ow' : List Nat} {bd : Nat} (hR : RX h s t u v) (hC : CK h kp ow bd) : ∃ h1, fX2_clear GG 17 h = some ((), h1) ∧ CK h1 [] ow' bd ∧ Fr h h1 [17, 18] := by
  obtain ⟨h1, e1, e2, e3⟩ := p_clear (Γ := GG) hC.1
  refine ⟨am_setI h1 17 4 (nI 0), ?_, ⟨?_, ?_, ?_, fun i x hx => by simp at hx⟩, (e3.mo (by simp)).tr (Fr.set (by simp))⟩
  · unfold fX2_clear
    rw [hR.r17_0, Option.bind_some, e1]
    rfl
  · exact e2.eq rfl (ps_n (by omega)) (ps_n (by omega))
  · rw [ps_s, ps_us]; rfl
  · rw [ps_s, ps_un (by decide), e3.2 17 (by decide)]; exact hC.2.2.1
theorem q_story26 {H : AH} (hR : RX H s t u v) {n : Nat} (h1 : 11 ≤ n) (h2 : n ≤ 1010) : ∃ G, fX9_story_26 GG am_fuel 119 (nI n) (nI 0) H = some (nI (n - 10), G) ∧ (∀ a, a ≠ 119 → a ≠ 123 → a ≠ 124 → a ≠ 125 → G.1 a = H.1 a) ∧ G.2 = H.2 ∧ (∀ j, j ≠ 9 → j ≠ 17 → j ≠ 14 → G.1 119 j = H.1 119 j) ∧ G.1 119 9 = nI (n - 10) ∧ G.1 119 17 = nI 0 ∧ G.1 119 14 = nI 0 ∧ (∀ k, k < 10 → G.1 123 k = H.1 120 k) ∧ (∀ k, k < n - 10 → G.1 124 k = H.1 120 (10 + k)) ∧ ∀ ow : List Nat, ow.length = n - 10 → Arr (G.1 124) ow → SeM (G.1 125) (ow, 0, [(0, some 0, 0, 0, [])]) := by
  have A := fill_loop0 (fun z i h => fX9_story_26 GG z 119 (nI n) (nI i) h) (fun g => am_let (am_setI g 119 9 (nI n - (nI 10))) fun h55 => fX9_story_60 GG am_fuel 119 (nI 0) h55) (fun g => RX g s t u v ∧ g.1 120 = H.1 120) 123 0 10 (H.1 120) (by
    intro z i g hP hi
    simp (disch := omega) only [fX9_story_26, pb_le, if_neg, hP.1.r119_7, hP.1.r119_0, hP.2, Option.bind_some, pb_add, ln_120, ln_123, pb_ok, if_true, pb_cl, am_let, if_false, Nat.zero_add]) (fun g j w hP => ⟨hP.1, by rw [ps_n (by decide)]; exact hP.2⟩) (by
    intro z g hP
    rw [fX9_story_26, if_pos (by rw [pb_le (by omega) (by omega)]; omega)]) H ⟨hR, rfl⟩ (by omega)
  generalize hG1 : am_fill H 123 0 10 (H.1 120) = G1 at A
  have B := fill_loop0 (fun z i h => fX9_story_60 GG z 119 (nI i) h) (fun g => am_bind (fX9_begin GG 119 g) fun r90 h90 => am_let (am_setI h90 119 17 (nI 0)) fun h95 => am_let (am_setI h95 119 14 (nI 0)) fun h100 => some (h100.1 119 9, h100)) (fun g => RX g s t u v ∧ g.1 120 = H.1 120 ∧ g.1 119 9 = nI (n - 10)) 124 0 (n - 10) (fun k => H.1 120 (10 + k)) (by
    intro z i g hP hi
    simp (disch := omega) only [fX9_story_60, hP.2.2, pb_le, if_neg, hP.1.r119_8, hP.1.r119_0, hP.2.1, Option.bind_some, pb_add, ln_120, ln_124, pb_ok, if_true, pb_cl, am_let, if_false, Nat.zero_add]) (fun g j w hP => ⟨hP.1, by rw [ps_n (by decide)]; exact hP.2.1, by rw [ps_n (by decide)]; exact hP.2.2⟩) (by
    intro z g hP
    rw [fX9_story_60, hP.2.2, if_pos (by rw [pb_le (by omega) (by omega)]; omega)]) (am_setI G1 119 9 (nI (n - 10))) ⟨by rw [← hG1]; exact hR.eq rfl, by rw [ps_n (by decide), ← hG1, pf_n (by decide)], by rw [ps_s, ps_us]⟩ (by omega)
  generalize hG2 : am_fill (am_setI G1 119 9 (nI (n - 10))) 124 0 (n - 10) (fun k => H.1 120 (10 + k)) = G2 at B
  have g9 : G2.1 119 9 = nI (n - 10) := by rw [← hG2, pf_n (by decide), ps_s, ps_us]
  have hR2 : RX G2 s t u v := by rw [← hG2, ← hG1]; exact hR.eq rfl
  have C := q_begin hR2 g9 (by omega)
  generalize hG3 : am_setI (am_fill G2 125 0 2202 (fun k => if k < n - 10 then G2.1 124 k else nI 0)) 125 1001 (nI 1) = G3 at C
  have F3 : Fr G2 G3 [125] := by rw [← hG3]; exact (Fr.fill (by simp)).tr (Fr.set (by simp))
  have k : ∀ a, a ≠ 119 → a ≠ 123 → a ≠ 124 → a ≠ 125 → (am_setI (am_setI G3 119 17 (nI 0)) 119 14 (nI 0)).1 a = H.1 a := fun a x1 x2 x3 x4 => by
    rw [ps_n x1, ps_n x1, F3.2 a (by simp [x4]), ← hG2, pf_n x3, ps_n x1, ← hG1, pf_n x2]
  have kk : ∀ j, j ≠ 9 → j ≠ 17 → j ≠ 14 → (am_setI (am_setI G3 119 17 (nI 0)) 119 14 (nI 0)).1 119 j = H.1 119 j := fun j x1 x2 x3 => by
    rw [ps_s, ps_un x3, ps_s, ps_un x2, F3.2 119 (by decide), ← hG2, pf_n (by decide), ps_s, ps_un x1, ← hG1, pf_n (by decide)]
  have k124 : G2.1 124 = (am_setI (am_setI G3 119 17 (nI 0)) 119 14 (nI 0)).1 124 := by rw [ps_n (by decide), ps_n (by decide), F3.2 124 (by decide)]
  have e9 : (am_setI (am_setI G3 119 17 (nI 0)) 119 14 (nI 0)).1 119 9 = nI (n - 10) := by rw [ps_s, ps_un (by decide), ps_s, ps_un (by decide), F3.2 119 (by decide), g9]
  refine ⟨am_setI (am_setI G3 119 17 (nI 0)) 119 14 (nI 0), ?_, k, ?_, kk, e9, by rw [ps_s, ps_un (by decide), ps_s, ps_us], by rw [ps_s, ps_us], fun i hi => ?_, fun i hi => ?_, fun ow hl ha => ?_⟩
  · refine Eq.trans A ?_
    unfold am_let
    rw [pb_sub (by omega)]
    refine Eq.trans B ?_
    rw [C]
    simp only [am_bind, Option.bind_some, am_let]
    rw [e9]
  · show G3.2 = H.2
    rw [F3.1, ← hG2, ← hG1]
    rfl
  · rw [ps_n (by decide), ps_n (by decide), F3.2 123 (by decide), ← hG2, pf_n (by decide), ps_n (by decide), ← hG1, pf_in (by omega) (by omega), Nat.sub_zero]
  · rw [← k124, ← hG2, pf_in (by omega) (by omega), Nat.sub_zero]
  · have := SeM.begin (H := G2) (ow := ow) (by rw [k124]; exact ha) (by omega)
    rw [hl] at this
    rw [ps_n (by decide), ps_n (by decide), ← hG3]
    exact this
theorem st_story (hI : Inv h) : ∃ r h1 h2, fX8_story GG 0 h = some (r, h1) ∧ fX9_story GG 119 h1 = some (r, h2) ∧ Inv h2 := by
  obtain ⟨s, t, u, v, ⟨tp, ou, dk, ct, hd, ow, ss, kp, bd, st, cd, pl, ch⟩, hw, hx, hm⟩ := id hI
  have hR := hx.1
  obtain ⟨hq, hqt, hst, hu, hv, huv⟩ := id hx.2.1
  have hs' : s = 23 ∨ s = 66 := hq
  have hu' : u = 109 ∨ u = 114 := hu
  have hT := hx.2.2.1
  have hl : tp.length ≤ 2000 := hw.1.2
  obtain ⟨m0, m1, m2, m3, m4, m5, m6, m7, m8, m9, m10⟩ := id hm
  have t1 : h.1 2 1 = nI tp.length := hT.2.2.1
  by_cases hf : 11 ≤ tp.length ∧ tp.length ≤ 1010
  · obtain ⟨f1, f2⟩ := hf
    obtain ⟨c0, c1, c2, c3, c4, c5, c6, c7, c8, c9⟩ := id hx
    obtain ⟨T, a1, a2, a3⟩ := p_takeFrom hR hT f1 f2
    have hRT := hR.eq a2.1
    have hl' : (tp.drop 10).length ≤ 1000 := by simp; omega
    obtain ⟨B, b1, b2, b3⟩ := p_sbegin (q := s) hq hRT a3 hl'
    have hRB := hRT.eq b2.1
    have kB : ∀ a, a ≠ 14 → a ≠ 15 → a ≠ 16 → (a < 23 ∨ 108 < a) → B.1 a = h.1 a := fun a x1 x2 x3 x4 => by rw [b2.2 a (by simp; omega), a2.2 a (by simp [x1, x2, x3])]
    have eB : B.2 = h.2 := b2.1.trans a2.1
    obtain ⟨D, d1, d2, d3⟩ := p_clear6 (q := u) hu hRB (c8.eq' eB (fun a ha => kB a (by omega) (by omega) (by omega) (by omega)))
    have hRD := hRB.eq d3.1
    have eD : D.2 = h.2 := d3.1.trans eB
    have kD : ∀ a, a < 109 → D.1 a = B.1 a := fun a x => d3.2 a (by simp; omega)
    obtain ⟨E, e1, e2, e3⟩ := p_clear2 (ow' := tp.drop 10) hRD (c6.eq eD (fun a ha => by rw [kD a (by omega), kB a (by omega) (by omega) (by omega) (by omega)]))
    have hRE := hRD.eq e3.1
    have eE : E.2 = h.2 := e3.1.trans eD
    have kE : ∀ a, a ≠ 17 → a ≠ 18 → E.1 a = D.1 a := fun a x y => e3.2 a (by simp [x, y])
    obtain ⟨F, g1, g2, g3⟩ := p_clear (Γ := GG) (h := E) (hT.eq (by rw [eE]) (by rw [kE 2 (by decide) (by decide), kD 2 (by decide), kB 2 (by decide) (by decide) (by decide) (by decide)]) (by rw [kE 3 (by decide) (by decide), kD 3 (by decide), kB 3 (by decide) (by decide) (by decide) (by decide)]))
    have eF : F.2 = h.2 := g3.1.trans eE
    have hRF := hR.eq eF
    have kF : ∀ a, a ≠ 2 → F.1 a = E.1 a := fun a x => g3.2 a (by simp [x])
    have kall : ∀ a, a ≠ 2 → a ≠ 14 → a ≠ 15 → a ≠ 16 → a ≠ 17 → a ≠ 18 → a ≠ u → a ≠ u + 1 → (a < 23 ∨ 108 < a) → F.1 a = h.1 a := fun a x1 x2 x3 x4 x5 x6 x7 x8 x9 => by rw [kF a x1, kE a x5 x6, d3.2 a (by simp [x7, x8]), kB a x2 x3 x4 x9]
    have kM : ∀ a, 119 ≤ a → F.1 a = h.1 a := fun a ha => kall a (by omega) (by omega) (by omega) (by omega) (by omega) (by omega) (by omega) (by omega) (by omega)
    obtain ⟨G, q1, q2, q3, q4, q5, q6, q7, q8, q9, q10⟩ := q_story26 (H := am_setI F 119 1 (nI 0)) (s := s) (t := t) (u := u) (v := v) (hRF.eq rfl) f1 f2
    refine ⟨nI (tp.length - 10), F, G, ?_, ?_, ?_⟩
    · unfold fX8_story
      rw [hR.r0_2, Option.bind_some, t1, pb_sub (by omega)]
      rw [am_let_eq]
      rw [if_neg (by rw [pb_ltI (by omega) (by omega)]; omega), if_neg (by rw [pb_ltI (by omega) (by omega)]; omega)]
      unfold fX8_story_28
      rw [if_neg (by decide), hR.r0_6, Option.bind_some, hR.r0_2, Option.bind_some, a1]
      simp only [am_bind, Option.bind_some, hRT.r0_8, hRT.r0_6, b1, hRB.r0_10, d1, hRD.r0_7, e1]
      unfold fX8_story_69
      rw [hRE.r0_2, Option.bind_some, g1]
      simp only [am_bind, Option.bind_some]
      rw [if_neg (by decide)]
    · unfold fX9_story
      have t2 : F.1 119 1 = nI tp.length := by rw [kM 119 (by decide)]; exact m1.1
      rw [t2, am_let_eq, am_let_eq]
      have ho : fX9_outside GG (nI tp.length) (nI 11) (nI 1010) (am_setI F 119 1 (nI 0)) = some (nI 0, am_setI F 119 1 (nI 0)) := by
        unfold fX9_outside fX9_outside_10
        rw [if_neg (by rw [pb_ltI (by omega) (by omega)]; omega), if_pos (by rw [pb_le (by omega) (by omega)]; omega)]
      rw [ho, am_bs, if_pos (by decide)]
      exact q1
    · have kG : ∀ a, a < 119 → G.1 a = F.1 a := fun a ha => by rw [q2 a (by omega) (by omega) (by omega) (by omega), ps_n (by omega)]
      have eG : G.2 = h.2 := q3.trans eF
      have kGm : ∀ a, 119 < a → a ≠ 123 → a ≠ 124 → a ≠ 125 → G.1 a = h.1 a := fun a x1 x2 x3 x4 => by rw [q2 a (by omega) x2 x3 x4, ps_n (by omega), kM a (by omega)]
      have kGj : ∀ j, j ≠ 1 → j ≠ 9 → j ≠ 17 → j ≠ 14 → G.1 119 j = h.1 119 j := fun j x1 x2 x3 x4 => by rw [q4 j x2 x3 x4, ps_s, ps_un x1, kM 119 (by decide)]
      have kGc : ∀ a, a ≠ 2 → a ≠ 14 → a ≠ 15 → a ≠ 16 → a ≠ 17 → a ≠ 18 → a < 23 → G.1 a = h.1 a := fun a x1 x2 x3 x4 x5 x6 x7 => by rw [kG a (by omega), kall a x1 x2 x3 x4 x5 x6 (by omega) (by omega) (by omega)]
      have f : ∀ (A : List Nat), (∀ a ∈ A, 119 < a ∧ a ≠ 123 ∧ a ≠ 124 ∧ a ≠ 125) → ∀ a ∈ A, G.1 a = h.1 a := fun A hA a ha => kGm a (hA a ha).1 (hA a ha).2.1 (hA a ha).2.2.1 (hA a ha).2.2.2
      have e : ∀ (J : List Nat), (∀ j ∈ J, j ≠ 1 ∧ j ≠ 9 ∧ j ≠ 17 ∧ j ≠ 14) → ∀ j ∈ J, G.1 119 j = h.1 119 j := fun J hJ j hj => kGj j (hJ j hj).1 (hJ j hj).2.1 (hJ j hj).2.2.1 (hJ j hj).2.2.2
      have t120 : Arr ((am_setI F 119 1 (nI 0)).1 120) tp := by rw [ps_n (by decide), kM 120 (by decide)]; exact m1.2
      have hA124 : Arr (G.1 124) (tp.drop 10) := by
        intro i hi
        simp at hi
        rw [q9 i (by omega), t120 (10 + i) (by omega)]
        simp only [List.getD_eq_getElem?_getD, List.getElem?_drop]
      have hne : tp.drop 10 ≠ [] := fun z => by have := congrArg List.length z; simp at this; omega
      have hbd : By (tp.drop 10) := fun b hb => hw.1.1 b (List.mem_of_mem_drop hb)
      have kE0 : ∀ a, a ≠ 2 → a ≠ 17 → a ≠ 18 → a < 109 → G.1 a = B.1 a := fun a x1 x2 x3 x4 => by rw [kG a (by omega), kF a x1, kE a x2 x3, kD a x4]
      refine ⟨s, t, u, v, ([], ou, dk, ct, tp.take 10, tp.drop 10, (tp.drop 10, 0, [(0, some 0, 0, 0, [])]), [], bd, [], cd, pl, ch), ?_, ?_, ?_⟩
      · obtain ⟨w1, w2, w3, w4, w5, w6, w7, w8, w9, w10, w11⟩ := hw
        refine ⟨⟨fun b hb => by simp at hb, by simp⟩, w2, w3, w4, ⟨w1.1.take 10, by simp; omega, fun _ => by simp; omega⟩, ⟨hbd, hl'⟩, ⟨fun h => absurd h hne, fun _ => ⟨WS.begin hbd hl', fun s hs => by simp at hs⟩⟩, ⟨by simp, w8.2.1, by simp⟩, ⟨by simp, fun x hx => by simp at hx⟩, w10, w11⟩
      · refine ⟨hR.eq eG, c1, g2.eq (by rw [eG, eF]) (kG 2 (by decide)) (kG 3 (by decide)), c3.eq eG (fun a ha => kGc a (by omega) (by omega) (by omega) (by omega) (by omega) (by omega) (by omega)), c4.eq eG (fun a ha => kGc a (by omega) (by omega) (by omega) (by omega) (by omega) (by omega) (by omega)), a3.eq (fun a ha => by rw [kE0 a (by omega) (by omega) (by omega) (by omega), b2.2 a (by simp; omega)]), e2.eq (eG.trans eE.symm) (fun a ha => by rw [kG a (by omega), kF a (by omega)]), b3.eq' (by simp) (fun a ha => kE0 a (by omega) (by omega) (by omega) (by omega)), d2.eq' (eG.trans eD.symm) (fun a ha => by rw [kG a (by omega), kF a (by omega), kE a (by omega) (by omega)]), ?_⟩
        rw [kGc 0 (by decide) (by decide) (by decide) (by decide) (by decide) (by decide) (by decide)]
        exact c9
      · refine ⟨hR.eq eG, ⟨?_, fun i hi => by simp at hi⟩, m2.eq (e _ (by decide)) (f _ (by decide)), m3.eq (e _ (by decide)) (f _ (by decide)), m4.eq (e _ (by decide)) (f _ (by decide)), ⟨by rw [q5, List.length_drop], ?_, hA124⟩, fun _ => q10 _ (by simp) hA124, ⟨q7, by rw [kGj 15 (by decide) (by decide) (by decide) (by decide)]; exact m7.2.1, fun i s hs => by simp at hs⟩, ⟨q6, fun i s hs => by simp at hs⟩, m9.eq (e _ (by decide)) (f _ (by decide)), m10.eq (e _ (by decide)) (f _ (by decide))⟩
        · rw [q4 1 (by decide) (by decide) (by decide), ps_s, ps_us]
          rfl
        · intro i hi
          simp at hi
          rw [q8 i (by omega), t120 i (by omega)]
          simp [List.getD, List.getElem?_take, show i < 10 by omega]
  · obtain ⟨h1, g1, g2, g3⟩ := p_clear (Γ := GG) hT
    have k1 : ∀ a, a ≠ 2 → h1.1 a = h.1 a := fun a x => g3.2 a (by simp [x])
    refine ⟨-1, h1, am_setI h1 119 1 (nI 0), ?_, ?_, ?_⟩
    · have h69 : ∀ x : Int32, fX8_story_27 GG 0 x h = some (-1, h1) := by
        intro x
        unfold fX8_story_27 fX8_story_28
        rw [if_pos (by decide)]
        unfold fX8_story_69
        rw [hR.r0_2, Option.bind_some, g1]
        simp only [am_bind, Option.bind_some]
        rw [if_pos (by decide)]
      unfold fX8_story
      rw [hR.r0_2, Option.bind_some, t1]
      rw [am_let_eq]
      by_cases hlow : 11 ≤ tp.length
      · rw [pb_sub (by omega), if_neg (by rw [pb_ltI (by omega) (by omega)]; omega), if_pos (by rw [pb_ltI (by omega) (by omega)]; omega)]
        exact h69 _
      · rw [if_pos]
        · exact h69 _
        · rw [Int32.lt_iff_toInt_lt, pk_sub_toInt (by omega) (by decide), nI_toInt (by decide)]
          omega
    · unfold fX9_story
      have t2 : h1.1 119 1 = nI tp.length := by rw [k1 119 (by decide)]; exact m1.1
      rw [t2, am_let_eq, am_let_eq]
      have ho : fX9_outside GG (nI tp.length) (nI 11) (nI 1010) (am_setI h1 119 1 (nI 0)) = some (nI 1, am_setI h1 119 1 (nI 0)) := by
        unfold fX9_outside fX9_outside_10
        by_cases hlow : 11 ≤ tp.length
        · rw [if_neg (by rw [pb_ltI (by omega) (by omega)]; omega), if_neg (by rw [pb_le (by omega) (by omega)]; omega)]
        · rw [if_pos (by rw [pb_ltI (by omega) (by omega)]; omega)]
      rw [ho, am_bs, if_neg (by decide)]
    · refine inv_tape (h1 := h1) (tp' := []) hw hx hm g3.1 (fun a x1 x2 => k1 a x1) g2 rfl (fun a x1 x2 => ps_n x1) (fun j hj => by rw [ps_s, ps_un hj]) ⟨by rw [ps_s, ps_us]; rfl, fun i hi => by simp at hi⟩ (fun b hb => by simp at hb)
end STORY
