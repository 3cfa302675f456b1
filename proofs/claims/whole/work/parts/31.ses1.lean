/-! ===== jump, peek, poke ===== -/
section SES1
variable {h : AH}
theorem len_pos {ow : List Nat} (ho : ow ≠ []) : 0 < ow.length := List.length_pos_iff.mpr ho
theorem st_jump (hI : Inv h) (x : Int32) : ∃ r h1 h2, fX8_jump GG 0 x h = some (r, h1) ∧ fX9_jump GG 119 x h1 = some (r, h2) ∧ Inv h2 := by
  obtain ⟨s, t, u, v, ⟨tp, ou, dk, ct, hd, ow, ⟨mm, pc, fs⟩, kp, bd, st, cd, pl, ch⟩, hw, hx, hm⟩ := hI
  have hR := hx.1
  have hq := hx.2.1.1
  have hS := hx.2.2.2.2.2.1
  have hse := hx.2.2.2.2.2.2.2.1
  have hl : ow.length ≤ 1000 := hw.2.2.2.2.2.1.2
  have m9 : h.1 119 9 = nI ow.length := hm.2.2.2.2.2.1.1
  by_cases ho : ow = []
  · refine ⟨-4, h, h, ?_, ?_, s, t, u, v, _, hw, hx, hm⟩
    · unfold fX8_jump
      rw [p_noStory hR hS hl]
      simp only [am_bind, Option.bind_some, ho, if_true]
      rfl
    · unfold fX9_jump
      rw [m9, ho, if_pos (by rfl)]
  · have hne : ¬ nI ow.length = 0 := by rw [pb_eq0 (by omega)]; have := len_pos ho; omega
    by_cases hin : 0 ≤ x ∧ x ≤ nI 16777215
    · obtain ⟨j, hj, rfl⟩ := in_nI (by decide) hin
      have hs23 : 23 ≤ s ∧ s ≤ 66 := by rcases hq with rfl | rfl <;> decide
      have hm2 := hm.keep (h1 := am_setI h s 3 (nI j)) (s' := s) (t' := t) (u' := u) (v' := v) (hR.eq rfl) (fun a ha => ps_n (by omega))
      have sm := hm.2.2.2.2.2.2.1 ho
      refine ⟨nI pc, am_setI h s 3 (nI j), am_setI (am_setI h s 3 (nI j)) 125 1000 (nI j), ?_, ?_, s, t, u, v, (tp, ou, dk, ct, hd, ow, (mm, j, fs), kp, bd, st, cd, pl, ch), ?_, ?_, ?_⟩
      · unfold fX8_jump
        rw [p_noStory hR hS hl]
        simp only [am_bind, Option.bind_some, if_neg ho, p_within _ (show 16777215 < 2 ^ 31 by decide), if_pos hin, hR.r0_8, am_let, hse.2.1]
        rfl
      · unfold fX9_jump
        rw [ps_n (by omega), m9, if_neg hne, q_outside _ (by decide), if_pos hin]
        simp (disch := omega) only [am_bind, Option.bind_some, ps_2, hR.r119_10, ln_125, pb_ok, if_true, pb_cl, am_let, ps_n, sm.2.1, if_false]
        rfl
      · refine hw.ses ho ?_
        obtain ⟨⟨a1, a2, a3, a4, a5⟩, b, c⟩ := (hw.2.2.2.2.2.2.1.2 ho).1
        exact ⟨⟨a1, a2, by omega, a4, a5⟩, b, c⟩
      · refine CX.keep (h := am_setI h s 3 (nI j)) ?_ ?_ rfl (fun a ha => ps_n (by omega))
        · refine hw.ses ho ?_
          obtain ⟨⟨a1, a2, a3, a4, a5⟩, b, c⟩ := (hw.2.2.2.2.2.2.1.2 ho).1
          exact ⟨⟨a1, a2, by omega, a4, a5⟩, b, c⟩
        · refine hx.ses rfl (fun a ha => ps_n (by omega)) ?_
          obtain ⟨c1, c2, c3, c4, c5⟩ := hse
          refine ⟨by rw [ps_s, ps_un (by decide)]; exact c1, by rw [ps_s, ps_us], by rw [ps_s, ps_un (by decide)]; exact c3, fun i hi => by rw [ps_n (by omega)]; exact c4 i hi, fun i fm hi => ?_⟩
          rw [ps_n (by omega), ps_n (by omega)]
          exact c5 i fm hi
      · refine hm2.ses rfl (fun a ha hn => ps_n hn) (fun _ => ?_)
        rw [ps_s, ps_n (by omega)]
        obtain ⟨c1, c2, c3, c4⟩ := sm
        have hml := hw.fr.2
        simp only at hml
        refine ⟨fun i hi => by rw [ps_un (by omega)]; exact c1 i hi, by rw [ps_us], by rw [ps_un (by decide)]; exact c3, fun i fm hi => ?_⟩
        obtain ⟨bk, re, ar, nl, ws⟩ := fm
        obtain ⟨d1, d2, d3, d4, d5, d6⟩ := c4 i _ hi
        exact ⟨by rw [ps_un (by omega)]; exact d1, by rw [ps_un (by omega)]; exact d2, by rw [ps_un (by omega)]; exact d3, by rw [ps_un (by omega)]; exact d4, by rw [ps_un (by omega)]; exact d5, fun k hk => by rw [ps_un (by omega)]; exact d6 k hk⟩
    · refine ⟨-1, h, h, ?_, ?_, s, t, u, v, _, hw, hx, hm⟩
      · unfold fX8_jump
        rw [p_noStory hR hS hl]
        simp only [am_bind, Option.bind_some, if_neg ho, p_within _ (show 16777215 < 2 ^ 31 by decide), if_neg hin]
        rfl
      · unfold fX9_jump
        rw [m9, if_neg hne, q_outside _ (by decide), if_neg hin]
        rfl
theorem st_peek (hI : Inv h) (x : Int32) : ∃ r h1 h2, fX8_peek GG 0 x h = some (r, h1) ∧ fX9_peek GG 119 x h1 = some (r, h2) ∧ Inv h2 := by
  obtain ⟨s, t, u, v, ⟨tp, ou, dk, ct, hd, ow, ⟨mm, pc, fs⟩, kp, bd, st, cd, pl, ch⟩, hw, hx, hm⟩ := hI
  have hR := hx.1
  have hq := hx.2.1.1
  have hS := hx.2.2.2.2.2.1
  have hse := hx.2.2.2.2.2.2.2.1
  have hl : ow.length ≤ 1000 := hw.2.2.2.2.2.1.2
  have m9 : h.1 119 9 = nI ow.length := hm.2.2.2.2.2.1.1
  have hI : Inv h := ⟨s, t, u, v, _, hw, hx, hm⟩
  by_cases ho : ow = []
  · refine ⟨-4, h, h, ?_, ?_, hI⟩
    · unfold fX8_peek
      rw [p_noStory hR hS hl]
      simp only [am_bind, Option.bind_some, ho, if_true]
      rfl
    · unfold fX9_peek
      rw [m9, ho, if_pos (by rfl)]
  · have hp := len_pos ho
    have hne : ¬ nI ow.length = 0 := by rw [pb_eq0 (by omega)]; omega
    have hlen : mm.length = ow.length := (hw.2.2.2.2.2.2.1.2 ho).1.2.1
    have sm := hm.2.2.2.2.2.2.1 ho
    by_cases hin : 0 ≤ x ∧ x < nI ow.length
    · obtain ⟨j, hj, rfl⟩ := in_nIS (by omega) hin
      refine ⟨nI (mm.getD j 0), h, h, ?_, ?_, hI⟩
      · unfold fX8_peek
        rw [p_noStory hR hS hl]
        simp only [am_bind, Option.bind_some, if_neg ho, hR.r0_8, hse.1, hlen]
        rw [p_withinS _ (by omega), if_pos hin]
        simp only [Option.bind_some, hR.r0_8]
        rw [p_byteAt hq hR hse.1 (by omega) hse.2.2.2.1 (by omega)]
        rfl
      · unfold fX9_peek
        rw [m9, if_neg hne, q_outsideS _ (by omega), if_pos hin]
        simp (disch := omega) only [am_bind, Option.bind_some, hR.r119_10, ln_125, pb_ok, if_true, pb_cl, sm.1, if_false]
        rfl
    · refine ⟨-1, h, h, ?_, ?_, hI⟩
      · unfold fX8_peek
        rw [p_noStory hR hS hl]
        simp only [am_bind, Option.bind_some, if_neg ho, hR.r0_8, hse.1, hlen]
        rw [p_withinS _ (by omega), if_neg hin]
        rfl
      · unfold fX9_peek
        rw [m9, if_neg hne, q_outsideS _ (by omega), if_neg hin]
        rfl
theorem st_why (hI : Inv h) (x : Int32) : ∃ r h1 h2, fX8_why GG 0 x h = some (r, h1) ∧ fX9_why GG 119 x h1 = some (r, h2) ∧ Inv h2 := by
  obtain ⟨s, t, u, v, ⟨tp, ou, dk, ct, hd, ow, ss, kp, bd, st, cd, pl, ch⟩, hw, hx, hm⟩ := id hI
  have hz := hx.2.2.2.2.2.2.2.2.2
  have hz2 := hm.2.2.2.2.2.2.2.2.2.1
  refine ⟨if x = nI 0 then nI cd else if x = nI 1 then rI pl else -1, h, h, ?_, ?_, hI⟩
  · unfold fX8_why
    rw [hz.2.2.1, hz.2.2.2]
    split
    · rfl
    · split <;> rfl
  · unfold fX9_why
    rw [hz2.1, hz2.2, nI_0]
    split
    · rfl
    · split <;> rfl
theorem st_cut (hI : Inv h) (x : Int32) : ∃ r h1 h2, fX8_cut GG 0 x h = some (r, h1) ∧ fX9_cut GG 119 x h1 = some (r, h2) ∧ Inv h2 := by
  obtain ⟨s, t, u, v, ⟨tp, ou, dk, ct, hd, ow, ss, kp, bd, st, cd, pl, ch⟩, hw, hx, hm⟩ := id hI
  have key : ∀ c : Option Nat, (∀ n, c = some n → n < 2147483648) → x = rI c → Inv (am_setI (am_setI h 0 13 x) 119 6 x) := by
    intro c hc hxc
    refine ⟨s, t, u, v, (tp, ou, dk, c, hd, ow, ss, kp, bd, st, cd, pl, ch), ?_, ?_, ?_⟩
    · obtain ⟨w1, w2, w3, w4, w5⟩ := hw
      exact ⟨w1, w2, w3, hc, w5⟩
    · refine hx.sca hw rfl (fun a h1 h2 => ?_) ?_ ?_
      · rw [ps_n (by omega), ps_n (by omega)]
      · exact hx.2.2.2.2.1.eq rfl (fun a ha => by rw [ps_n (by omega), ps_n (by omega)])
      · obtain ⟨z1, z2, z3, z4⟩ := hx.2.2.2.2.2.2.2.2.2
        rw [ps_n (by decide), ps_s]
        exact ⟨by rw [ps_un (by decide)]; exact z1, by rw [ps_us]; exact hxc, by rw [ps_un (by decide)]; exact z3, by rw [ps_un (by decide)]; exact z4⟩
    · obtain ⟨m0, m1, m2, m3, m4, m5, m6, m7, m8, m9, m10⟩ := hm
      have e : ∀ j, j ≠ 6 → (am_setI (am_setI h 0 13 x) 119 6 x).1 119 j = h.1 119 j := fun j hj => by rw [ps_s, ps_un hj, ps_n (by decide)]
      have e2 : ∀ (J : List Nat), (∀ j ∈ J, j ≠ 6) → ∀ j ∈ J, (am_setI (am_setI h 0 13 x) 119 6 x).1 119 j = h.1 119 j := fun J hJ j hj => e j (hJ j hj)
      have f : ∀ (A : List Nat), (∀ a ∈ A, a ≠ 119 ∧ a ≠ 0) → ∀ a ∈ A, (am_setI (am_setI h 0 13 x) 119 6 x).1 a = h.1 a := fun A hA a ha => by rw [ps_n (hA a ha).1, ps_n (hA a ha).2]
      refine ⟨m0.eq rfl, m1.eq (e2 _ (by decide)) (f _ (by decide)), m2.eq (e2 _ (by decide)) (f _ (by decide)), m3.eq (e2 _ (by decide)) (f _ (by decide)), ?_, m5.eq (e2 _ (by decide)) (f _ (by decide)), m6.eq (e2 _ (by decide)) (f _ (by decide)), m7.eq (e2 _ (by decide)) (f _ (by decide)), m8.eq (e2 _ (by decide)) (f _ (by decide)), m9.eq (e2 _ (by decide)) (f _ (by decide)), m10.eq (e2 _ (by decide)) (f _ (by decide))⟩
      unfold MU
      rw [ps_s, ps_us]
      exact hxc
  rcases pb_split x with hneg | ⟨j, hj, rfl⟩
  · have hn : ¬ 0 ≤ x := Int32.not_le.mpr hneg
    by_cases h2 : x = -2
    · refine ⟨nI 1, am_setI h 0 13 x, am_setI (am_setI h 0 13 x) 119 6 x, ?_, ?_, key none (fun n hn => by cases hn) h2⟩
      · unfold fX8_cut
        rw [if_neg hn, if_pos h2]
        rfl
      · unfold fX9_cut
        rw [if_neg hn, if_pos h2]
        rfl
    · refine ⟨-1, h, h, ?_, ?_, hI⟩
      · unfold fX8_cut
        rw [if_neg hn, if_neg h2]
      · unfold fX9_cut
        rw [if_neg hn, if_neg h2]
  · refine ⟨nI 1, am_setI h 0 13 (nI j), am_setI (am_setI h 0 13 (nI j)) 119 6 (nI j), ?_, ?_, key (some j) (fun n hn => by cases hn; omega) rfl⟩
    · unfold fX8_cut
      rw [if_pos (nI_pos' hj)]
      rfl
    · unfold fX9_cut
      rw [if_pos (nI_pos' hj)]
      rfl
end SES1
