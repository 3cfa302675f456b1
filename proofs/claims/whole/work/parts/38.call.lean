/-! ===== call ===== -/
section CALL
variable {h : AH}
theorem p_addFrame {h : AH} {q s t u v n bk ar nl : Nat} {re : Option Nat} (hq : SQ q) (hR : RX h s t u v) (h4 : h.1 q 4 = nI n) (hn : n < 20) (hnl : nl ≤ 15) : ∃ h1, fX4_addFrame GG q (nI bk) (rI re) (nI ar) (nI nl) h = some ((), h1) ∧ Fr h h1 [q, q + 3 + 2 * n, q + 4 + 2 * n] ∧ FrX (h1.1 (q + 3 + 2 * n)) (h1.1 (q + 4 + 2 * n)) (bk, re, ar, nl, List.replicate nl 0) ∧ h1.1 q 4 = nI (n + 1) ∧ ∀ j, j ≠ 4 → h1.1 q j = h.1 q j := by
  obtain ⟨h1, e1, e2, e3⟩ := p_begin (h := h) (q := q + 3 + 2 * n) (c := q + 4 + 2 * n) (bk := bk) (re := re) (ar := ar) (hq.rr hR hn) (hq.row n hn) (by omega) hnl
  have k : h1.1 q = h.1 q := e2.2 q (by simp; omega)
  refine ⟨am_setI h1 q 4 (nI (n + 1)), ?_, (e2.mo (by simp)).tr (Fr.set (by simp)), ?_, by rw [ps_s, ps_us], fun j hj => by rw [ps_s, ps_un hj, k]⟩
  · unfold fX4_addFrame
    rw [h4, if_neg (nI_pos (by omega)), hq.rf hR, Option.bind_some, hq.f, if_neg (by rw [pb_le (by decide) (by omega)]; omega), Option.bind_some, hq.f, if_pos (pb_ok hn (by decide)), pb_cl (by omega), hq.ri hR hn]
    simp only [Option.elim_some, e1, am_bind, Option.bind_some, am_let, k, h4, pb_add]
  · rw [ps_n (by omega), ps_n (by omega)]
    exact e3
theorem SeX.add {h h1 : AH} {q pc : Nat} {mm : List Nat} {fs : List Fm} {fm : Fm} (hs : SeX h q (mm, pc, fs)) (hF : Fr h h1 [q, q + 3 + 2 * fs.length, q + 4 + 2 * fs.length]) (hX : FrX (h1.1 (q + 3 + 2 * fs.length)) (h1.1 (q + 4 + 2 * fs.length)) fm) (h4 : h1.1 q 4 = nI (fs.length + 1)) (hj : ∀ j, j ≠ 4 → h1.1 q j = h.1 q j) : SeX h1 q (mm, pc, fs ++ [fm]) := by
  obtain ⟨c1, c2, c3, c4, c5⟩ := hs
  refine ⟨by rw [hj 2 (by decide)]; exact c1, by rw [hj 3 (by decide)]; exact c2, by rw [h4]; simp, fun i hi => by rw [hF.2 (q + 1) (by simp; omega)]; exact c4 i hi, fun i f hi => ?_⟩
  have hlt := (List.getElem?_eq_some_iff.mp hi).1
  simp at hlt
  by_cases e : i = fs.length
  · subst e
    simp at hi
    subst hi
    exact hX
  · rw [List.getElem?_append_left (by omega)] at hi
    rw [hF.2 _ (by simp; omega), hF.2 _ (by simp; omega)]
    exact c5 i f hi
theorem q_call97 {H : AH} {s t u v o : Nat} (hR : RX H s t u v) (ho : 1002 ≤ o) (ho2 : o + 60 ≤ 2202) (x y z w : Int32) (M : AH) (hM : M = am_fill H 125 o 60 (fun _ => nI 0)) : fX9_call_97 GG am_fuel 119 x y z w (nI o) (nI 0) H = some (M.1 125 1001, am_setI (am_setI (am_setI (am_setI (am_setI M 125 o (M.1 125 1000)) 125 (o + 1) y) 125 (o + 2) z) 125 (o + 3) w) 125 1000 x) := by
  subst hM
  refine fill_loop0 (fun k i h => fX9_call_97 GG k 119 x y z w (nI o) (nI i) h) (fun h : AH => some (h.1 125 1001, am_setI (am_setI (am_setI (am_setI (am_setI h 125 o (h.1 125 1000)) 125 (o + 1) y) 125 (o + 2) z) 125 (o + 3) w) 125 1000 x)) (fun h => RX h s t u v) 125 o 60 (fun _ => nI 0) ?_ (fun h j w hP => hP) ?_ H hR (by decide)
  · intro z i h hP hi
    simp (disch := omega) only [fX9_call_97, pb_le, if_neg, hP.r119_10, Option.bind_some, pb_add, ln_125, pb_ok, if_true, pb_cl, am_let, if_false]
  · intro k h hP
    simp (disch := omega) only [fX9_call_97, pb_le, if_pos, hP.r119_10, Option.bind_some, pb_add, ln_125, pb_ok, if_true, pb_cl]
    refine am_let_ex (fun a1 b1 => ?_)
    have r1 : a1.2 119 10 = some 125 := by rw [b1]; exact hP.r119_10
    simp (disch := omega) only [r1, Option.bind_some, ln_125, pb_ok, if_true, pb_cl]
    refine am_let_ex (fun a2 b2 => ?_)
    have r2 : a2.2 119 10 = some 125 := by rw [b2]; exact r1
    simp (disch := omega) only [r2, Option.bind_some, ln_125, pb_ok, if_true, pb_cl]
    refine am_let_ex (fun a3 b3 => ?_)
    have r3 : a3.2 119 10 = some 125 := by rw [b3]; exact r2
    simp (disch := omega) only [r3, Option.bind_some, ln_125, pb_ok, if_true, pb_cl]
    refine am_let_ex (fun a4 b4 => ?_)
    have r4 : a4.2 119 10 = some 125 := by rw [b4]; exact r3
    simp (disch := omega) only [r4, Option.bind_some, ln_125, pb_ok, if_true, pb_cl]
    refine am_let_ex (fun a5 b5 => ?_)
    have r5 : a5.2 119 10 = some 125 := by rw [b5]; exact r4
    simp (disch := omega) only [r5, Option.bind_some, ln_125, pb_ok, if_true, pb_cl]
    have : a5.1 125 1001 = h.1 125 1001 := by
      rw [b5, ps_s, ps_un (by omega), b4, ps_s, ps_un (by omega), b3, ps_s, ps_un (by omega), b2, ps_s, ps_un (by omega), b1, ps_s, ps_un (by omega)]
    rw [this, b5, b4, b3, b2, b1]
/-- a frame more in the model's session -/
theorem SeM.add {g g1 : Nat → Int32} {pc pc' : Nat} {mm : List Nat} {fs : List Fm} {fm : Fm} (hs : SeM g (mm, pc, fs)) (hml : mm.length ≤ 1000) (hw : ∀ fm ∈ fs, WFm fm) (he : ∀ k, k ≠ 1000 → k ≠ 1001 → (k < 1002 + 60 * fs.length ∨ 1002 + 60 * fs.length + 60 ≤ k) → g1 k = g k) (h0 : g1 1000 = nI pc') (h1 : g1 1001 = nI (fs.length + 1)) (hF : FrM g1 (1002 + 60 * fs.length) fm) : SeM g1 (mm, pc', fs ++ [fm]) := by
  obtain ⟨c1, c2, c3, c4⟩ := hs
  refine ⟨fun i hi => by rw [he i (by omega) (by omega) (by omega)]; exact c1 i hi, h0, by rw [h1]; simp, fun i f hi => ?_⟩
  have hlt := (List.getElem?_eq_some_iff.mp hi).1
  simp at hlt
  by_cases e : i = fs.length
  · subst e
    simp at hi
    subst hi
    exact hF
  · rw [List.getElem?_append_left (by omega)] at hi
    refine (c4 i f hi).eq (hw f (List.mem_of_getElem? hi)).len (fun k h1 h2 => he k (by omega) (by omega) (by omega))
/-- both do it -/
theorem st_callGo {s t u v : Nat} {tp ou : List Nat} {dk : Option (List Nat)} {ct : Option Nat} {hd ow mm : List Nat} {pc : Nat} {fs : List Fm} {kp : List Sn} {bd : Nat} {st : List (Nat × List Nat)} {cd : Nat} {pl : Option Nat} {ch : List (Nat × Nat × Nat)} (hw : WF (tp, ou, dk, ct, hd, ow, (mm, pc, fs), kp, bd, st, cd, pl, ch)) (hx : CX h s t u v (tp, ou, dk, ct, hd, ow, (mm, pc, fs), kp, bd, st, cd, pl, ch)) (hm : MX h s t u v (tp, ou, dk, ct, hd, ow, (mm, pc, fs), kp, bd, st, cd, pl, ch)) (ho : ow ≠ []) {a c d : Nat} {re : Option Nat} (ha : a ≤ 16777215) (hre : ∀ r, re = some r → r < 256) (hc : c ≤ 7) (hd' : d ≤ 15) : ∃ r h1 h2, fX8_call_26 GG 0 (nI a) (rI re) (nI c) (nI d) h = some (r, h1) ∧ fX9_call_37 GG 119 (nI a) (rI re) (nI c) (nI d) h1 = some (r, h2) ∧ Inv h2 ∧ h1.1 119 = h.1 119 := by
  have hI : Inv h := ⟨s, t, u, v, _, hw, hx, hm⟩
  have hR := hx.1
  have hq := hx.2.1.1
  have hse := hx.2.2.2.2.2.2.2.1
  have hg := (hw.2.2.2.2.2.2.1.2 ho).1
  obtain ⟨⟨w1, w2, w3, w4, w5⟩, hlen, ws0, r0, hfst⟩ := id hg
  simp only at hlen hfst
  have sm := hm.2.2.2.2.2.2.1 ho
  have hs23 : 23 ≤ s ∧ s ≤ 66 := by rcases hq with rfl | rfl <;> decide
  have h4 := hse.2.2.1
  have g4 : h.1 125 1001 = nI fs.length := sm.2.2.1
  by_cases hfull : fs.length = 20
  · refine ⟨-3, h, h, ?_, ?_, hI, rfl⟩
    · unfold fX8_call_26 fX8_call_31
      rw [p_within _ (by decide), if_pos (in_nIr (by decide) ha)]
      simp only [am_bind, Option.bind_some]
      rw [if_neg (by decide), if_neg (by decide), p_within _ (by decide), if_pos (in_nIr (by decide) hc)]
      simp only [Option.bind_some]
      rw [if_neg (by decide), p_within _ (by decide), if_pos (in_nIr (by decide) hd')]
      simp only [Option.bind_some, hR.r0_8, h4, hfull]
      rw [if_neg (by decide), if_neg (by decide)]
    · unfold fX9_call_37
      rw [q_outside _ (by decide), if_pos (in_nIr (by decide) hc)]
      simp only [am_bind, Option.bind_some]
      rw [if_pos (by decide), q_outside _ (by decide), if_pos (in_nIr (by decide) hd')]
      simp (disch := omega) only [Option.bind_some, hR.r119_10, ln_125, pb_ok, if_true, pb_cl, g4, hfull]
      rw [if_pos (by decide)]
  · obtain ⟨h1, e1, e2, e3, e4, e5⟩ := p_addFrame (h := h) (bk := pc) (re := re) (ar := c) (nl := d) hq hR h4 (by omega) hd'
    have hk : ∀ x, x < 23 ∨ 108 < x → h1.1 x = h.1 x := fun x hx => e2.2 x (by simp; omega)
    have hS1 := (hse.add e2 e3 e4 e5).pcs (x := a)
    have hR1 : RX (am_setI h1 s 3 (nI a)) s t u v := hR.eq e2.1
    have hk2 : ∀ x, x < 23 ∨ 108 < x → (am_setI h1 s 3 (nI a)).1 x = h.1 x := fun x hx => by rw [ps_n (by omega)]; exact hk x hx
    have hG : (am_setI h1 s 3 (nI a)).1 125 = h.1 125 := hk2 125 (by omega)
    generalize hH : am_setI h1 s 3 (nI a) = H at *
    have q1 := q_call97 (H := am_setI H 125 1001 (nI (fs.length + 1))) (s := s) (t := t) (u := u) (v := v) (hR1.eq rfl) (o := 1002 + 60 * fs.length) (by omega) (by omega) (nI a) (rI re) (nI c) (nI d) _ rfl
    have q2 : (am_fill (am_setI H 125 1001 (nI (fs.length + 1))) 125 (1002 + 60 * fs.length) 60 (fun _ => nI 0)).1 125 1001 = nI (fs.length + 1) := by rw [pf_out (by omega), ps_s, ps_us]
    have q3 : (am_fill (am_setI H 125 1001 (nI (fs.length + 1))) 125 (1002 + 60 * fs.length) 60 (fun _ => nI 0)).1 125 1000 = nI pc := by rw [pf_out (by omega), ps_s, ps_un (by decide), hG, sm.2.1]
    rw [q2, q3] at q1
    refine ⟨nI (fs.length + 1), H, am_setI (am_setI (am_setI (am_setI (am_setI (am_fill (am_setI H 125 1001 (nI (fs.length + 1))) 125 (1002 + 60 * fs.length) 60 (fun _ => nI 0)) 125 (1002 + 60 * fs.length) (nI pc)) 125 (1002 + 60 * fs.length + 1) (rI re)) 125 (1002 + 60 * fs.length + 2) (nI c)) 125 (1002 + 60 * fs.length + 3) (nI d)) 125 1000 (nI a), ?_, ?_, ?_, hk2 119 (by omega)⟩
    · unfold fX8_call_26 fX8_call_31
      rw [p_within _ (by decide), if_pos (in_nIr (by decide) ha)]
      simp only [am_bind, Option.bind_some]
      rw [if_neg (by decide), if_neg (by decide), p_within _ (by decide), if_pos (in_nIr (by decide) hc)]
      simp only [Option.bind_some]
      rw [if_neg (by decide), p_within _ (by decide), if_pos (in_nIr (by decide) hd')]
      simp only [Option.bind_some, hR.r0_8, h4, hse.2.1]
      rw [if_neg (by decide), if_pos (by rw [pb_ltI (by omega) (by decide)]; omega), e1]
      have r8 : h1.2 0 8 = some s := by rw [e2.1]; exact hR.r0_8
      have r9 : H.2 0 8 = some s := by rw [← hH]; exact r8
      simp only [Option.bind_some, r8, am_let, hH, r9]
      rw [hS1.2.2.1]
      simp
    · unfold fX9_call_37
      rw [q_outside _ (by decide), if_pos (in_nIr (by decide) hc)]
      simp only [am_bind, Option.bind_some]
      rw [if_pos (by decide), q_outside _ (by decide), if_pos (in_nIr (by decide) hd')]
      simp (disch := omega) only [Option.bind_some, hR1.r119_10, ln_125, pb_ok, if_true, pb_cl, hG, g4, pb_add]
      rw [if_pos (by decide), if_neg (by rw [pb_eq (by omega) (by decide)]; omega)]
      refine am_let_ex (fun h87 hh => ?_)
      have r87 : h87.1 125 1001 = nI (fs.length + 1) := by rw [hh, ps_s, ps_us]
      have hR87 : RX h87 s t u v := by rw [hh]; exact hR1.eq ps_2
      rw [q_newest hR87 r87 (by omega)]
      rw [Option.bind_some, hh]
      exact q1
    · refine inv_ses (h1 := H) (ss' := (mm, a, fs ++ [(pc, re, c, d, List.replicate d 0)])) hw hx hm ho (by rw [← hH]; exact e2.1) hk2 hS1 rfl (fun x hx => by rw [ps_n hx, ps_n hx, ps_n hx, ps_n hx, ps_n hx, pf_n hx, ps_n hx]) ?_ ?_
      · refine SeM.add sm w1 w5 (fun k k1 k2 k3 => ?_) ?_ ?_ ?_
        · rw [ps_s, ps_un k1, ps_s, ps_un (by omega), ps_s, ps_un (by omega), ps_s, ps_un (by omega), ps_s, ps_un (by omega), pf_out (by omega), ps_s, ps_un k2, hG]
        · rw [ps_s, ps_us]
        · rw [ps_s, ps_un (by omega), ps_s, ps_un (by omega), ps_s, ps_un (by omega), ps_s, ps_un (by omega), ps_s, ps_un (by omega), pf_out (by omega), ps_s, ps_us]
        · refine ⟨?_, ?_, ?_, ?_, ?_, fun k hk => ?_⟩
          · rw [ps_s, ps_un (by omega), ps_s, ps_un (by omega), ps_s, ps_un (by omega), ps_s, ps_un (by omega), ps_s, ps_us]
          · rw [ps_s, ps_un (by omega), ps_s, ps_un (by omega), ps_s, ps_un (by omega), ps_s, ps_us]
          · rw [ps_s, ps_un (by omega), ps_s, ps_un (by omega), ps_s, ps_us]
          · rw [ps_s, ps_un (by omega), ps_s, ps_us]
          · rw [ps_s, ps_un (by omega), ps_s, ps_un (by omega), ps_s, ps_un (by omega), ps_s, ps_un (by omega), ps_s, ps_un (by omega), pf_in (by omega) (by omega)]
            simp
          · simp at hk
            rw [ps_s, ps_un (by omega), ps_s, ps_un (by omega), ps_s, ps_un (by omega), ps_s, ps_un (by omega), ps_s, ps_un (by omega), pf_in (by omega) (by omega)]
            simp [List.getD, List.getElem?_replicate, hk]
      · have w3' : pc < 16777216 := w3
        refine ⟨⟨w1, w2, by omega, by simp; omega, fun fm hfm => ?_⟩, hlen, ws0, r0 ++ [(pc, re, c, d, List.replicate d 0)], by simp [hfst]⟩
        rcases List.mem_append.mp hfm with hz | hz
        · exact w5 fm hz
        · simp at hz
          subst hz
          refine ⟨w3', hre, hc, hd', by simp, by simp, fun w hw => ?_⟩
          rw [List.eq_of_mem_replicate hw]
          decide
theorem st_call (hI : Inv h) (x y z w : Int32) : ∃ r h1 h2, fX8_call GG 0 x y z w h = some (r, h1) ∧ fX9_call GG 119 x y z w h1 = some (r, h2) ∧ Inv h2 := by
  obtain ⟨s, t, u, v, ⟨tp, ou, dk, ct, hd, ow, ⟨mm, pc, fs⟩, kp, bd, st, cd, pl, ch⟩, hw, hx, hm⟩ := id hI
  have hR := hx.1
  have hS := hx.2.2.2.2.2.1
  have hl : ow.length ≤ 1000 := hw.2.2.2.2.2.1.2
  have m9 : h.1 119 9 = nI ow.length := hm.2.2.2.2.2.1.1
  by_cases ho : ow = []
  · refine ⟨-4, h, h, ?_, ?_, hI⟩
    · unfold fX8_call
      rw [p_noStory hR hS hl]
      simp only [am_bind, Option.bind_some, ho, if_true]
      rfl
    · unfold fX9_call
      rw [m9, ho, if_pos (by rfl)]
  · have hp := len_pos ho
    have hne : ¬ nI ow.length = 0 := by rw [pb_eq0 (by omega)]; omega
    -- the result
    by_cases hy : y = -2 ∨ (0 ≤ y ∧ y ≤ nI 255)
    · have hre : ∃ re : Option Nat, y = rI re ∧ ∀ r, re = some r → r < 256 := by
        rcases hy with rfl | hy
        · exact ⟨none, rfl, fun r hr => by cases hr⟩
        · obtain ⟨j, hj, rfl⟩ := in_nI (by decide) hy
          exact ⟨some j, rfl, fun r hr => by cases hr; omega⟩
      have hc : fX8_call GG 0 x y z w h = fX8_call_26 GG 0 x y z w h := by
        unfold fX8_call
        rw [p_noStory hR hS hl]
        simp only [am_bind, Option.bind_some, if_neg ho]
        rw [if_pos (by decide)]
        by_cases hn : y = -2
        · rw [if_pos hn]
        · rw [if_neg hn, p_within _ (by decide), if_pos (hy.resolve_left hn)]
          simp only [Option.bind_some]
          rw [if_neg (by decide)]
      rw [hc]
      by_cases hxx : 0 ≤ x ∧ x ≤ nI 16777215
      · have hcm : ∀ H : AH, H.1 119 9 = nI ow.length → fX9_call GG 119 x y z w H = fX9_call_37 GG 119 x y z w H := by
          intro H hH
          unfold fX9_call
          rw [hH, if_neg hne, q_outside _ (by decide), if_pos hxx]
          simp only [am_bind, Option.bind_some]
          rw [if_pos (by decide)]
          by_cases hn : y = -2
          · rw [if_pos hn]
          · rw [if_neg hn, q_outside _ (by decide), if_pos (hy.resolve_left hn)]
            simp only [Option.bind_some]
            rw [if_pos (by decide)]
        by_cases hz : 0 ≤ z ∧ z ≤ nI 7
        · by_cases hww : 0 ≤ w ∧ w ≤ nI 15
          · obtain ⟨a, ha, rfl⟩ := in_nI (by decide) hxx
            obtain ⟨re, rfl, hre⟩ := hre
            obtain ⟨c, hcc, rfl⟩ := in_nI (by decide) hz
            obtain ⟨d, hdd, rfl⟩ := in_nI (by decide) hww
            obtain ⟨r, h1, h2, e1, e2, e3, e4⟩ := st_callGo hw hx hm ho ha hre hcc hdd
            refine ⟨r, h1, h2, e1, ?_, e3⟩
            rw [hcm h1 (by rw [e4]; exact m9)]; exact e2
          · refine ⟨-1, h, h, ?_, ?_, hI⟩
            · unfold fX8_call_26 fX8_call_31
              rw [p_within _ (by decide), if_pos hxx]
              simp only [am_bind, Option.bind_some]
              rw [if_neg (by decide), if_neg (by decide), p_within _ (by decide), if_pos hz]
              simp only [Option.bind_some]
              rw [if_neg (by decide), p_within _ (by decide), if_neg hww]
              rfl
            · rw [hcm h m9]
              unfold fX9_call_37
              rw [q_outside _ (by decide), if_pos hz]
              simp only [am_bind, Option.bind_some]
              rw [if_pos (by decide), q_outside _ (by decide), if_neg hww]
              rfl
        · refine ⟨-1, h, h, ?_, ?_, hI⟩
          · unfold fX8_call_26 fX8_call_31
            rw [p_within _ (by decide), if_pos hxx]
            simp only [am_bind, Option.bind_some]
            rw [if_neg (by decide), if_neg (by decide), p_within _ (by decide), if_neg hz]
            rfl
          · rw [hcm h m9]
            unfold fX9_call_37
            rw [q_outside _ (by decide), if_neg hz]
            rfl
      · refine ⟨-1, h, h, ?_, ?_, hI⟩
        · unfold fX8_call_26 fX8_call_31
          rw [p_within _ (by decide), if_neg hxx]
          rfl
        · unfold fX9_call
          rw [m9, if_neg hne, q_outside _ (by decide), if_neg hxx]
          rfl
    · have hn : ¬ y = -2 := fun e => hy (Or.inl e)
      have hn2 : ¬ (0 ≤ y ∧ y ≤ nI 255) := fun e => hy (Or.inr e)
      refine ⟨-1, h, h, ?_, ?_, hI⟩
      · unfold fX8_call
        rw [p_noStory hR hS hl]
        simp only [am_bind, Option.bind_some, if_neg ho]
        rw [if_pos (by decide), if_neg hn, p_within _ (by decide), if_neg hn2]
        simp only [Option.bind_some]
        rw [if_pos (by decide)]
        unfold fX8_call_31
        rw [p_within _ (by decide)]
        by_cases hxx : 0 ≤ x ∧ x ≤ nI 16777215
        · rw [if_pos hxx]
          simp only [am_bind, Option.bind_some]
          rw [if_neg (by decide), if_pos (by decide)]
        · rw [if_neg hxx]
          rfl
      · unfold fX9_call
        rw [m9, if_neg hne, q_outside _ (by decide)]
        by_cases hxx : 0 ≤ x ∧ x ≤ nI 16777215
        · rw [if_pos hxx]
          simp only [am_bind, Option.bind_some]
          rw [if_pos (by decide), if_neg hn, q_outside _ (by decide), if_neg hn2]
          rfl
        · rw [if_neg hxx]
          rfl
end CALL
