/-! ===== feed, back, load ===== -/
section FEED
variable {h : AH}
theorem Arr.fill {h : AH} {c : Nat} {bs cs : List Nat} (ha : Arr (h.1 c) bs) : Arr ((am_fill h c bs.length cs.length (fun k => nI (cs.getD k 0))).1 c) (bs ++ cs) := by
  intro i hi
  simp at hi
  rw [getD_app]
  by_cases hlt : i < bs.length
  · rw [if_pos hlt, pf_out (Or.inl hlt), ha i hlt]
  · rw [if_neg hlt, pf_in (by omega) (by omega)]
theorem By.app {a b : List Nat} (ha : By a) (hb : By b) : By (a ++ b) := fun x hx => (List.mem_append.mp hx).elim (ha x) (hb x)
theorem st_feed (hI : Inv h) (a b c d e : Int32) : ∃ r h1 h2, fX8_feed GG 0 a b c d e h = some (r, h1) ∧ fX9_feed GG 119 a b c d e h1 = some (r, h2) ∧ Inv h2 := by
  obtain ⟨s, t, u, v, ⟨tp, ou, dk, ct, hd, ow, ss, kp, bd, st, cd, pl, ch⟩, hw, hx, hm⟩ := id hI
  have hR := hx.1
  have hT := hx.2.2.1
  have hMT := hm.2.1
  have hl : tp.length ≤ 2000 := hw.1.2
  by_cases hroom : tp.length ≤ 1980
  · obtain ⟨h1, a1, a2, a3⟩ := p_addNumber (Γ := GG) hT ln_3 (by decide) (by decide) a (n := 4) (by decide) (by omega)
    obtain ⟨h2, b1, b2, b3⟩ := p_addNumber (Γ := GG) a2 ln_3 (by decide) (by decide) b (n := 4) (by decide) (by simp [be_len]; omega)
    obtain ⟨h3, c1, c2, c3⟩ := p_addNumber (Γ := GG) b2 ln_3 (by decide) (by decide) c (n := 4) (by decide) (by simp [be_len]; omega)
    obtain ⟨h4, d1, d2, d3⟩ := p_addNumber (Γ := GG) c2 ln_3 (by decide) (by decide) d (n := 4) (by decide) (by simp [be_len]; omega)
    obtain ⟨h5, e1, e2, e3⟩ := p_addNumber (Γ := GG) d2 ln_3 (by decide) (by decide) e (n := 4) (by decide) (by simp [be_len]; omega)
    have hF : Fr h h5 [2, 3] := (((a3.tr b3).tr c3).tr d3).tr e3
    have hk : ∀ x, x ≠ 2 → x ≠ 3 → h5.1 x = h.1 x := fun x x1 x2 => hF.2 x (by simp [x1, x2])
    have hR5 := hR.eq hF.1
    have hlen5 : (tp ++ be (uN a) 4 ++ be (uN b) 4 ++ be (uN c) 4 ++ be (uN d) 4 ++ be (uN e) 4).length = tp.length + 20 := by simp [be_len]
    -- the model
    have m1 : h5.1 119 1 = nI tp.length := by rw [hk 119 (by decide) (by decide)]; exact hMT.1
    refine ⟨nI (tp.length + 20), h5, am_setI (am_fill (am_fill (am_fill (am_fill (am_fill h5 120 tp.length 4 (bq a)) 120 (tp.length + 4) 4 (bq b)) 120 (tp.length + 8) 4 (bq c)) 120 (tp.length + 12) 4 (bq d)) 120 (tp.length + 16) 4 (bq e)) 119 1 (nI (tp.length + 20)), ?_, ?_, ?_⟩
    · unfold fX8_feed
      rw [hR.r0_2, Option.bind_some, p_room hT ln_3]
      simp only [am_bind, Option.bind_some]
      rw [if_pos (by rw [pb_le (by decide) (by omega)]; omega)]
      simp only [hR.r0_2, (hR.eq a3.1).r0_2, (hR.eq (a3.tr b3).1).r0_2, (hR.eq ((a3.tr b3).tr c3).1).r0_2, (hR.eq (((a3.tr b3).tr c3).tr d3).1).r0_2, hR5.r0_2, Option.bind_some, a1, b1, c1, d1, e1, e2.2.2.1, hlen5]
    · unfold fX9_feed
      rw [m1, if_pos (by rw [pb_le (by omega) (by decide)]; exact hroom), q_four hR5 (by omega)]
      simp (disch := omega) only [am_bind, Option.bind_some, pf_n, m1, pb_add, if_true, if_false]
      rw [q_four (h := am_fill h5 120 tp.length 4 (bq a)) (s := s) (t := t) (u := u) (v := v) (hR5.eq rfl) (by omega)]
      simp (disch := omega) only [Option.bind_some, pf_n, m1, pb_add, if_true, if_false]
      rw [q_four (h := am_fill (am_fill h5 120 tp.length 4 (bq a)) 120 (tp.length + 4) 4 (bq b)) (s := s) (t := t) (u := u) (v := v) (hR5.eq rfl) (by omega)]
      simp (disch := omega) only [Option.bind_some, pf_n, m1, pb_add, if_true, if_false]
      rw [q_four (h := am_fill (am_fill (am_fill h5 120 tp.length 4 (bq a)) 120 (tp.length + 4) 4 (bq b)) 120 (tp.length + 8) 4 (bq c)) (s := s) (t := t) (u := u) (v := v) (hR5.eq rfl) (by omega)]
      simp (disch := omega) only [Option.bind_some, pf_n, m1, pb_add, if_true, if_false]
      rw [q_four (h := am_fill (am_fill (am_fill (am_fill h5 120 tp.length 4 (bq a)) 120 (tp.length + 4) 4 (bq b)) 120 (tp.length + 8) 4 (bq c)) 120 (tp.length + 12) 4 (bq d)) (s := s) (t := t) (u := u) (v := v) (hR5.eq rfl) (by omega)]
      simp (disch := omega) only [Option.bind_some, pf_n, m1, pb_add, am_let, ps_s, ps_us, if_true, if_false]
    · refine inv_tape (h1 := h5) (tp' := tp ++ be (uN a) 4 ++ be (uN b) 4 ++ be (uN c) 4 ++ be (uN d) 4 ++ be (uN e) 4) hw hx hm hF.1 hk e2 rfl (fun x x1 x2 => by rw [ps_n x1, pf_n x2, pf_n x2, pf_n x2, pf_n x2, pf_n x2]) (fun j hj => by rw [ps_s, ps_un hj, pf_n (by decide), pf_n (by decide), pf_n (by decide), pf_n (by decide), pf_n (by decide)]) ⟨?_, ?_⟩ (((((hw.1.1.app (be_lt _ _)).app (be_lt _ _)).app (be_lt _ _)).app (be_lt _ _)).app (be_lt _ _))
      · rw [ps_s, ps_us, hlen5]
      · rw [ps_n (by decide)]
        have q0 : Arr (h5.1 120) tp := by rw [hk 120 (by decide) (by decide)]; exact hMT.2
        have q1 : Arr ((am_fill h5 120 tp.length 4 (bq a)).1 120) (tp ++ be (uN a) 4) := Arr.fill (cs := be (uN a) 4) q0
        have l1 : (tp ++ be (uN a) 4).length = tp.length + 4 := by simp [be_len]
        have q2 := Arr.fill (cs := be (uN b) 4) q1
        rw [l1] at q2
        have l2 : (tp ++ be (uN a) 4 ++ be (uN b) 4).length = tp.length + 8 := by simp [be_len]
        have q3 := Arr.fill (cs := be (uN c) 4) q2
        rw [l2] at q3
        have l3 : (tp ++ be (uN a) 4 ++ be (uN b) 4 ++ be (uN c) 4).length = tp.length + 12 := by simp [be_len]
        have q4 := Arr.fill (cs := be (uN d) 4) q3
        rw [l3] at q4
        have l4 : (tp ++ be (uN a) 4 ++ be (uN b) 4 ++ be (uN c) 4 ++ be (uN d) 4).length = tp.length + 16 := by simp [be_len]
        have q5 := Arr.fill (cs := be (uN e) 4) q4
        rw [l4] at q5
        exact q5
  · refine ⟨-3, h, h, ?_, ?_, hI⟩
    · unfold fX8_feed
      rw [hR.r0_2, Option.bind_some, p_room hT ln_3]
      simp only [am_bind, Option.bind_some]
      rw [if_neg (by rw [pb_le (by decide) (by omega)]; omega)]
    · unfold fX9_feed
      rw [hMT.1, if_neg (by rw [pb_le (by omega) (by decide)]; exact hroom)]
end FEED
