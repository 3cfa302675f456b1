/-! ===== poke, leave, local, push, pop ===== -/
section SES2
variable {h : AH}
theorem st_poke (hI : Inv h) (x y : Int32) : ∃ r h1 h2, fX8_poke GG 0 x y h = some (r, h1) ∧ fX9_poke GG 119 x y h1 = some (r, h2) ∧ Inv h2 := by
  obtain ⟨s, t, u, v, ⟨tp, ou, dk, ct, hd, ow, ⟨mm, pc, fs⟩, kp, bd, st, cd, pl, ch⟩, hw, hx, hm⟩ := id hI
  have hR := hx.1
  have hq := hx.2.1.1
  have hS := hx.2.2.2.2.2.1
  have hse := hx.2.2.2.2.2.2.2.1
  have hl : ow.length ≤ 1000 := hw.2.2.2.2.2.1.2
  have m9 : h.1 119 9 = nI ow.length := hm.2.2.2.2.2.1.1
  by_cases ho : ow = []
  · refine ⟨-4, h, h, ?_, ?_, hI⟩
    · unfold fX8_poke
      rw [p_noStory hR hS hl]
      simp only [am_bind, Option.bind_some, ho, if_true]
      rfl
    · unfold fX9_poke
      rw [m9, ho, if_pos (by rfl)]
  · have hp := len_pos ho
    have hne : ¬ nI ow.length = 0 := by rw [pb_eq0 (by omega)]; omega
    obtain ⟨hws, hlen, hfst⟩ := (hw.2.2.2.2.2.2.1.2 ho).1
    simp only at hlen
    have sm := hm.2.2.2.2.2.2.1 ho
    have hs23 : 23 ≤ s ∧ s ≤ 66 := by rcases hq with rfl | rfl <;> decide
    by_cases hin : 0 ≤ x ∧ x < nI ow.length
    · by_cases hiy : 0 ≤ y ∧ y ≤ nI 255
      · obtain ⟨j, hj, rfl⟩ := in_nIS (by omega) hin
        obtain ⟨b, hb, rfl⟩ := in_nI (by decide) hiy
        refine ⟨nI (mm.getD j 0), am_setI h (s + 1) j (nI b), am_setI (am_setI h (s + 1) j (nI b)) 125 j (nI b), ?_, ?_, ?_⟩
        · unfold fX8_poke
          rw [p_noStory hR hS hl]
          simp only [am_bind, Option.bind_some, if_neg ho, hR.r0_8, hse.1, hlen]
          rw [p_withinS _ (by omega), if_pos hin]
          simp only [Option.bind_some]
          rw [p_within _ (by decide), if_pos hiy]
          simp only [Option.bind_some, hR.r0_8]
          rw [p_byteAt hq hR hse.1 (by omega) hse.2.2.2.1 (by omega)]
          simp only [Option.bind_some, hR.r0_8]
          rw [p_setByte hq hR hse.1 (by omega) (by omega)]
          rfl
        · unfold fX9_poke
          rw [ps_n (by omega), m9, if_neg hne, q_outsideS _ (by omega), if_pos hin]
          simp only [am_bind, Option.bind_some]
          rw [q_outside _ (by decide), if_pos hiy]
          simp (disch := omega) only [Option.bind_some, ps_2, hR.r119_10, ln_125, pb_ok, if_true, pb_cl, am_let, ps_n, sm.1, if_false]
          rfl
        · refine inv_ses (h1 := am_setI h (s + 1) j (nI b)) hw hx hm ho rfl (fun a ha => ps_n (by omega)) (hse.mem (by omega)) rfl (fun a ha => ps_n ha) (by rw [ps_s, ps_n (by omega)]; exact sm.mem hws.1 (by omega)) ?_
          obtain ⟨a1, a2, a3⟩ := hws
          refine ⟨⟨by simpa using a1, fun z hz => ?_, a3⟩, by simpa using hlen, hfst⟩
          rcases List.mem_or_eq_of_mem_set hz with hz | rfl
          · exact a2 z hz
          · omega
      · refine ⟨-1, h, h, ?_, ?_, hI⟩
        · unfold fX8_poke
          rw [p_noStory hR hS hl]
          simp only [am_bind, Option.bind_some, if_neg ho, hR.r0_8, hse.1, hlen]
          rw [p_withinS _ (by omega), if_pos hin]
          simp only [Option.bind_some]
          rw [p_within _ (by decide), if_neg hiy]
          rfl
        · unfold fX9_poke
          rw [m9, if_neg hne, q_outsideS _ (by omega), if_pos hin]
          simp only [am_bind, Option.bind_some]
          rw [q_outside _ (by decide), if_neg hiy]
          rfl
    · refine ⟨-1, h, h, ?_, ?_, hI⟩
      · unfold fX8_poke
        rw [p_noStory hR hS hl]
        simp only [am_bind, Option.bind_some, if_neg ho, hR.r0_8, hse.1, hlen]
        rw [p_withinS _ (by omega), if_neg hin]
        rfl
      · unfold fX9_poke
        rw [m9, if_neg hne, q_outsideS _ (by omega), if_neg hin]
        rfl
/-- the newest frame is there -/
theorem last_fm {fs : List Fm} {n : Nat} (hn : fs.length = n + 1) : ∃ fm, fs[n]? = some fm := ⟨fs[n]'(by omega), List.getElem?_eq_getElem (by omega)⟩
theorem st_leave (hI : Inv h) : ∃ r h1 h2, fX8_leave GG 0 h = some (r, h1) ∧ fX9_leave GG 119 h1 = some (r, h2) ∧ Inv h2 := by
  obtain ⟨s, t, u, v, ⟨tp, ou, dk, ct, hd, ow, ⟨mm, pc, fs⟩, kp, bd, st, cd, pl, ch⟩, hw, hx, hm⟩ := id hI
  have hR := hx.1
  have hq := hx.2.1.1
  have hS := hx.2.2.2.2.2.1
  have hse := hx.2.2.2.2.2.2.2.1
  have hl : ow.length ≤ 1000 := hw.2.2.2.2.2.1.2
  have m9 : h.1 119 9 = nI ow.length := hm.2.2.2.2.2.1.1
  by_cases ho : ow = []
  · refine ⟨-4, h, h, ?_, ?_, hI⟩
    · unfold fX8_leave
      rw [p_noStory hR hS hl]
      simp only [am_bind, Option.bind_some, ho, if_true]
      rfl
    · unfold fX9_leave
      rw [m9, ho, if_pos (by rfl)]
  · have hp := len_pos ho
    have hne : ¬ nI ow.length = 0 := by rw [pb_eq0 (by omega)]; omega
    obtain ⟨hws, hlen, ws0, r0, hfst⟩ := (hw.2.2.2.2.2.2.1.2 ho).1
    obtain ⟨w1, w2, w3, w4, w5⟩ := hws
    simp only at hlen hfst
    have sm := hm.2.2.2.2.2.2.1 ho
    have hs23 : 23 ≤ s ∧ s ≤ 66 := by rcases hq with rfl | rfl <;> decide
    obtain ⟨n, hn⟩ : ∃ n, fs.length = n + 1 := ⟨r0.length, by rw [hfst]; simp⟩
    have h4 : h.1 s 4 = nI (n + 1) := by rw [hse.2.2.1, hn]
    have g4 : h.1 125 1001 = nI (n + 1) := by rw [sm.2.2.1, hn]
    by_cases h0 : n = 0
    · refine ⟨-2, h, h, ?_, ?_, hI⟩
      · unfold fX8_leave
        rw [p_noStory hR hS hl]
        simp only [am_bind, Option.bind_some, if_neg ho, hR.r0_8]
        rw [if_pos (by decide), p_newest hq hR h4 (by omega)]
        simp only [Option.bind_some, Option.elim_some, hR.r0_8, h4]
        rw [if_neg (by rw [pb_ltI (by omega) (by omega)]; omega)]
      · unfold fX9_leave
        rw [m9, if_neg hne, hR.r119_10, Option.bind_some, ln_125, if_pos (pb_ok (by decide) (by decide)), pb_cl (by decide), g4, if_pos (by rw [h0])]
    · obtain ⟨⟨bk, re, ar, nl, ws⟩, hfm⟩ := last_fm hn
      obtain ⟨f1, f2, f3, f4, f5, f6⟩ := hse.2.2.2.2 n _ hfm
      obtain ⟨e1, e2, e3, e4, e5, e6⟩ := sm.2.2.2 n _ hfm
      have hbk : bk < 16777216 := (w5 _ (List.mem_of_getElem? hfm)).1
      refine ⟨nI bk, am_setI (am_setI h s 3 (nI bk)) s 4 (nI (fs.length - 1)), am_setI (am_setI (am_setI (am_setI h s 3 (nI bk)) s 4 (nI (fs.length - 1))) 125 1000 (nI bk)) 125 1001 (nI (fs.length - 1)), ?_, ?_, ?_⟩
      · unfold fX8_leave
        rw [p_noStory hR hS hl]
        simp only [am_bind, Option.bind_some, if_neg ho, hR.r0_8]
        rw [if_pos (by decide), p_newest hq hR h4 (by omega)]
        simp only [Option.bind_some, Option.elim_some, hR.r0_8, h4]
        rw [if_pos (by rw [pb_ltI (by omega) (by omega)]; omega)]
        simp (disch := omega) only [am_let, f1, ps_2, hR.r0_8, Option.bind_some, ps_s, ps_us, ps_un, h4, pb_pred, hn, Nat.add_sub_cancel]
      · unfold fX9_leave
        rw [ps_n (by omega), ps_n (by omega), m9, if_neg hne]
        simp (disch := omega) only [ps_2, hR.r119_10, Option.bind_some, ln_125, pb_ok, pb_cl, if_true, ps_n, g4, if_false]
        rw [if_neg (by rw [pb_eq (by omega) (by decide)]; omega), q_newest (h := am_setI (am_setI h s 3 (nI bk)) s 4 (nI (fs.length - 1))) (s := s) (t := t) (u := u) (v := v) (hR.eq rfl) (n := n) (by rw [ps_n (by omega), ps_n (by omega)]; exact g4) (by omega)]
        simp (disch := omega) only [am_bind, Option.bind_some, pb_ok, pb_cl, if_true, ps_n, e1, am_let, ps_2, hR.r119_10, ln_125, ps_s, ps_us, ps_un, g4, pb_pred, if_false]
        rw [hn, Nat.add_sub_cancel]
      · refine inv_ses (h1 := am_setI (am_setI h s 3 (nI bk)) s 4 (nI (fs.length - 1))) hw hx hm ho rfl (fun a ha => by rw [ps_n (by omega), ps_n (by omega)]) hse.drop rfl (fun a ha => by rw [ps_n ha, ps_n ha]) (by rw [ps_s, ps_s, ps_n (by omega), ps_n (by omega)]; exact sm.drop w1) ?_
        refine ⟨⟨w1, w2, hbk, by simp; omega, fun fm hfm => w5 fm ((List.dropLast_sublist fs).subset hfm)⟩, hlen, ws0, r0.dropLast, ?_⟩
        simp only
        rw [hfst]
        cases r0 with
        | nil => rw [hfst] at hn; simp at hn; omega
        | cons a b => simp
end SES2
