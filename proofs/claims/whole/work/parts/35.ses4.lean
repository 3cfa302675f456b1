/-! ===== frame, call ===== -/
section SES4
variable {h : AH} {s t u v q : Nat}
theorem st_frame (hI : Inv h) (x y : Int32) : ∃ r h1 h2, fX8_frame GG 0 x y h = some (r, h1) ∧ fX9_frame GG 119 x y h1 = some (r, h2) ∧ Inv h2 := by
  obtain ⟨s, t, u, v, ⟨tp, ou, dk, ct, hd, ow, ⟨mm, pc, fs⟩, kp, bd, st, cd, pl, ch⟩, hw, hx, hm⟩ := id hI
  have hR := hx.1
  have hq := hx.2.1.1
  have hS := hx.2.2.2.2.2.1
  have hse := hx.2.2.2.2.2.2.2.1
  have hl : ow.length ≤ 1000 := hw.2.2.2.2.2.1.2
  have m9 : h.1 119 9 = nI ow.length := hm.2.2.2.2.2.1.1
  by_cases ho : ow = []
  · refine ⟨-4, h, h, ?_, ?_, hI⟩
    · unfold fX8_frame
      rw [p_noStory hR hS hl]
      simp only [am_bind, Option.bind_some, ho, if_true]
      rfl
    · unfold fX9_frame
      rw [m9, ho, if_pos (by rfl)]
  · have hp := len_pos ho
    have hne : ¬ nI ow.length = 0 := by rw [pb_eq0 (by omega)]; omega
    obtain ⟨⟨w1, w2, w3, w4, w5⟩, hlen, ws0, r0, hfst⟩ := (hw.2.2.2.2.2.2.1.2 ho).1
    simp only at hlen hfst
    have sm := hm.2.2.2.2.2.2.1 ho
    have h4 := hse.2.2.1
    have g4 := sm.2.2.1
    by_cases hin : 0 ≤ x ∧ x < nI fs.length
    · obtain ⟨n, hn, rfl⟩ := in_nIS (by omega) hin
      obtain ⟨⟨bk, re, ar, nl, ws⟩, hfm⟩ : ∃ fm, fs[n]? = some fm := ⟨fs[n], List.getElem?_eq_getElem hn⟩
      obtain ⟨f1, f2, f3, f4, f5, f6⟩ := hse.2.2.2.2 n _ hfm
      obtain ⟨e1, e2, e3, e4, e5, e6⟩ := sm.2.2.2 n _ hfm
      obtain ⟨z1, z2, z3, z4, z5, z6, z7⟩ := w5 _ (List.mem_of_getElem? hfm)
      have hrr := hq.rr hR (i := n) (by omega)
      have hrow := hq.row n (by omega)
      have A : ∀ r : Int32, (if y < nI 10 then if y = nI 0 then some (nI bk, h) else if y = nI 1 then some (rI re, h) else if y = nI 2 then some (nI ar, h) else if y = nI 3 then some (nI nl, h) else if y = nI 4 then some (nI (ws.length - nl), h) else some ((-1 : Int32), h) else am_bind (fX1_words GG (s + 3 + 2 * n) h) fun r37 h37 => if r37 ≤ y - nI 10 then some ((-2 : Int32), h37) else am_bind (fX1_wordAt GG (s + 3 + 2 * n) (y - nI 10) h37) fun r48 h48 => some (r48, h48)) = some (r, h) → fX8_frame GG 0 (nI n) y h = some (r, h) := by
        intro r hr
        unfold fX8_frame
        rw [p_noStory hR hS hl]
        simp only [am_bind, Option.bind_some, if_neg ho, hR.r0_8]
        rw [if_pos (by decide), p_frameAt hq hR h4 w4 hn]
        simp only [Option.bind_some, Option.elim_some, f1, f2, f3, f4, f5]
        exact hr
      have B : ∀ r : Int32, (if y < 0 then fX9_frame_58 GG 119 y (nI (1002 + 60 * n)) h else if nI 4 < y then fX9_frame_58 GG 119 y (nI (1002 + 60 * n)) h else if am_ok (nI (1002 + 60 * n) + y) 2202 then some (h.1 125 (nI (1002 + 60 * n) + y).toNatClampNeg, h) else none) = some (r, h) → fX9_frame GG 119 (nI n) y h = some (r, h) := by
        intro r hr
        unfold fX9_frame
        rw [m9, if_neg hne, hR.r119_10, Option.bind_some, ln_125, if_pos (pb_ok (by decide) (by decide)), pb_cl (by decide), g4, q_outsideS _ (by omega), if_pos hin]
        simp only [am_bind, Option.bind_some, am_let, pb_mul, pb_add, hR.r119_10, ln_125]
        rw [if_pos (by decide), Nat.mul_comm n 60]
        exact hr
      have C : ∀ k, k < 60 → am_ok (nI (1002 + 60 * n) + nI k) 2202 = true ∧ (nI (1002 + 60 * n) + nI k).toNatClampNeg = 1002 + 60 * n + k := by
        intro k hk
        rw [pb_add]
        exact ⟨pb_ok (by omega) (by decide), pb_cl (by omega)⟩
      rcases pb_split y with hneg | ⟨k, hk, rfl⟩
      · have ny : ∀ k : Nat, k < 2 ^ 31 → ¬ y = nI k := fun k hk he => by rw [he] at hneg; exact nI_pos hk hneg
        refine ⟨-1, h, h, A _ ?_, B _ ?_, hI⟩
        · rw [if_pos (pb_neg hneg (by decide)), if_neg (ny 0 (by decide)), if_neg (ny 1 (by decide)), if_neg (ny 2 (by decide)), if_neg (ny 3 (by decide)), if_neg (ny 4 (by decide))]
        · rw [if_pos hneg]
          unfold fX9_frame_58
          rw [if_neg (pb_negle hneg (by decide))]
      · by_cases k10 : k < 10
        · by_cases k5 : k < 5
          · have B' : ∀ r : Int32, h.1 125 (1002 + 60 * n + k) = r → fX9_frame GG 119 (nI n) (nI k) h = some (r, h) := by
              intro r hr
              refine B _ ?_
              rw [if_neg (nI_pos hk), if_neg (by rw [pb_ltI (by decide) hk]; omega), (C k (by omega)).1, (C k (by omega)).2, hr]
              rfl
            have : k = 0 ∨ k = 1 ∨ k = 2 ∨ k = 3 ∨ k = 4 := by omega
            rcases this with rfl | rfl | rfl | rfl | rfl
            · exact ⟨nI bk, h, h, A _ rfl, B' _ e1, hI⟩
            · exact ⟨rI re, h, h, A _ rfl, B' _ e2, hI⟩
            · exact ⟨nI ar, h, h, A _ rfl, B' _ e3, hI⟩
            · exact ⟨nI nl, h, h, A _ rfl, B' _ e4, hI⟩
            · exact ⟨nI (ws.length - nl), h, h, A _ rfl, B' _ e5, hI⟩
          · have ny : ∀ j : Nat, j < 5 → ¬ nI k = nI j := fun j hj he => by rw [pb_eq hk (by omega)] at he; omega
            refine ⟨-1, h, h, A _ ?_, B _ ?_, hI⟩
            · rw [if_pos (by rw [pb_ltI hk (by decide)]; exact k10), if_neg (ny 0 (by decide)), if_neg (ny 1 (by decide)), if_neg (ny 2 (by decide)), if_neg (ny 3 (by decide)), if_neg (ny 4 (by decide))]
            · rw [if_neg (nI_pos hk), if_pos (by rw [pb_ltI (by decide) hk]; omega)]
              unfold fX9_frame_58
              rw [if_neg (by rw [pb_le (by decide) hk]; omega)]
        · have hsum : nl + (ws.length - nl) = ws.length := by omega
          have D : ∀ r : Int32, (if nI ws.length ≤ nI (k - 10) then some ((-2 : Int32), h) else am_bind (fX1_wordAt GG (s + 3 + 2 * n) (nI (k - 10)) h) fun r48 h48 => some (r48, h48)) = some (r, h) → fX8_frame GG 0 (nI n) (nI k) h = some (r, h) := by
            intro r hr
            refine A _ ?_
            rw [if_neg (by rw [pb_ltI hk (by decide)]; omega), p_words rfl f4 f5, hsum, pb_sub (by omega)]
            exact hr
          have E : ∀ r : Int32, (if nI ws.length ≤ nI (k - 10) then some ((-2 : Int32), h) else if am_ok (nI (1002 + 60 * n + 5 + k) - nI 10) 2202 then some (h.1 125 (nI (1002 + 60 * n + 5 + k) - nI 10).toNatClampNeg, h) else none) = some (r, h) → fX9_frame GG 119 (nI n) (nI k) h = some (r, h) := by
            intro r hr
            refine B _ ?_
            rw [if_neg (nI_pos hk), if_pos (by rw [pb_ltI (by decide) hk]; omega)]
            unfold fX9_frame_58
            rw [if_pos (by rw [pb_le (by decide) hk]; omega)]
            simp (disch := omega) only [hR.r119_10, Option.bind_some, pb_add, ln_125, pb_ok, pb_cl, if_true, e4, e5, if_false]
            rw [hsum, pb_sub (by omega)]
            exact hr
          by_cases hb : ws.length ≤ k - 10
          · refine ⟨-2, h, h, D _ ?_, E _ ?_, hI⟩
            · rw [if_pos (by rw [pb_le (by omega) (by omega)]; exact hb)]
            · rw [if_pos (by rw [pb_le (by omega) (by omega)]; exact hb)]
          · refine ⟨nI (ws.getD (k - 10) 0), h, h, D _ ?_, E _ ?_, hI⟩
            · rw [if_neg (by rw [pb_le (by omega) (by omega)]; exact hb), p_wordAt hrr hrow (by omega), f6 _ (by omega)]
              rfl
            · rw [if_neg (by rw [pb_le (by omega) (by omega)]; exact hb), pb_sub (by omega), if_pos (pb_ok (by omega) (by decide)), pb_cl (by omega), show 1002 + 60 * n + 5 + k - 10 = 1002 + 60 * n + 5 + (k - 10) by omega, e6 _ (by omega)]
    · refine ⟨-2, h, h, ?_, ?_, hI⟩
      · unfold fX8_frame
        rw [p_noStory hR hS hl]
        simp only [am_bind, Option.bind_some, if_neg ho, hR.r0_8]
        rw [if_pos (by decide)]
        rcases pb_split x with hneg | ⟨k, hk, rfl⟩
        · rw [p_frameAtN hneg]
          rfl
        · have : fs.length ≤ k := by
            rcases Nat.lt_or_ge k fs.length with hh | hh
            · exact absurd ⟨nI_pos' hk, by rw [pb_ltI hk (by omega)]; exact hh⟩ hin
            · exact hh
          rw [p_frameAt0 hq h4 w4 this hk]
          rfl
      · unfold fX9_frame
        rw [m9, if_neg hne, hR.r119_10, Option.bind_some, ln_125, if_pos (pb_ok (by decide) (by decide)), pb_cl (by decide), g4, q_outsideS _ (by omega), if_neg hin]
        rfl
end SES4
