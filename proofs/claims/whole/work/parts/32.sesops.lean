/-! ===== a session's parts change ===== -/
section SOPS
variable {h h1 h2 : AH} {s t u v q : Nat} {tp ou : List Nat} {dk : Option (List Nat)} {ct : Option Nat} {hd ow : List Nat} {ss ss' : Sn} {kp : List Sn} {bd : Nat} {st : List (Nat × List Nat)} {cd : Nat} {pl : Option Nat} {ch : List (Nat × Nat × Nat)} {mm : List Nat} {pc : Nat} {fs : List Fm}
theorem inv_ses (hw : WF (tp, ou, dk, ct, hd, ow, ss, kp, bd, st, cd, pl, ch)) (hx : CX h s t u v (tp, ou, dk, ct, hd, ow, ss, kp, bd, st, cd, pl, ch)) (hm : MX h s t u v (tp, ou, dk, ct, hd, ow, ss, kp, bd, st, cd, pl, ch)) (ho : ow ≠ []) (a1 : h1.2 = h.2) (a2 : ∀ a, a < 23 ∨ 108 < a → h1.1 a = h.1 a) (a3 : SeX h1 s ss') (b1 : h2.2 = h1.2) (b2 : ∀ a, a ≠ 125 → h2.1 a = h1.1 a) (b3 : SeM (h2.1 125) ss') (g : WS ow ss') : Inv h2 := by
  have hw' := hw.ses ho g
  refine ⟨s, t, u, v, (tp, ou, dk, ct, hd, ow, ss', kp, bd, st, cd, pl, ch), hw', ?_, ?_⟩
  · exact CX.keep hw' (hx.ses a1 a2 a3) b1 (fun a ha => b2 a (by omega))
  · exact (hm.keep (hx.1.eq a1) (fun a ha => a2 a (by omega))).ses b1 (fun a _ hn => b2 a hn) (fun _ => b3)
theorem SeX.pcs (hs : SeX h q (mm, pc, fs)) {x : Nat} : SeX (am_setI h q 3 (nI x)) q (mm, x, fs) := by
  obtain ⟨c1, c2, c3, c4, c5⟩ := hs
  refine ⟨by rw [ps_s, ps_un (by decide)]; exact c1, by rw [ps_s, ps_us], by rw [ps_s, ps_un (by decide)]; exact c3, fun i hi => by rw [ps_n (by omega)]; exact c4 i hi, fun i fm hi => ?_⟩
  rw [ps_n (by omega), ps_n (by omega)]
  exact c5 i fm hi
theorem SeX.mem (hs : SeX h q (mm, pc, fs)) {i b : Nat} (hi : i < mm.length) : SeX (am_setI h (q + 1) i (nI b)) q (mm.set i b, pc, fs) := by
  obtain ⟨c1, c2, c3, c4, c5⟩ := hs
  refine ⟨by rw [ps_n (by omega)]; simpa using c1, by rw [ps_n (by omega)]; exact c2, by rw [ps_n (by omega)]; exact c3, fun k hk => ?_, fun k fm hk => ?_⟩
  · rw [ps_s]
    simp only [List.length_set] at hk
    by_cases e : k = i
    · subst e
      rw [ps_us]
      simp [List.getD, hi]
    · rw [ps_un e, c4 k hk]
      simp only [List.getD_eq_getElem?_getD, List.getElem?_set_ne (fun z => e z.symm)]
  · rw [ps_n (by omega), ps_n (by omega)]
    exact c5 k fm hk
/-- one frame alone has changed -/
theorem SeX.frame (hs : SeX h q (mm, pc, fs)) {n : Nat} {fm : Fm} (hf : Fr h h1 [q + 3 + 2 * n, q + 4 + 2 * n]) (hF : FrX (h1.1 (q + 3 + 2 * n)) (h1.1 (q + 4 + 2 * n)) fm) (hn : n < fs.length) : SeX h1 q (mm, pc, fs.set n fm) := by
  obtain ⟨c1, c2, c3, c4, c5⟩ := hs
  have e : ∀ a, a ≠ q + 3 + 2 * n → a ≠ q + 4 + 2 * n → h1.1 a = h.1 a := fun a x y => hf.2 a (by simp [x, y])
  refine ⟨by rw [e q (by omega) (by omega)]; exact c1, by rw [e q (by omega) (by omega)]; exact c2, by rw [e q (by omega) (by omega)]; simpa using c3, fun i hi => by rw [e (q + 1) (by omega) (by omega)]; exact c4 i hi, fun i fm' hi => ?_⟩
  by_cases hin : i = n
  · subst hin
    rw [List.getElem?_set_self (by simpa using hn)] at hi
    cases hi
    exact hF
  · rw [List.getElem?_set_ne (fun z => hin z.symm)] at hi
    rw [e _ (by omega) (by omega), e _ (by omega) (by omega)]
    exact c5 i fm' hi
/-- the newest frame goes -/
theorem SeX.drop (hs : SeX h q (mm, pc, fs)) {x : Nat} : SeX (am_setI (am_setI h q 3 (nI x)) q 4 (nI (fs.length - 1))) q (mm, x, fs.dropLast) := by
  obtain ⟨c1, c2, c3, c4, c5⟩ := hs
  refine ⟨by rw [ps_s, ps_un (by decide), ps_s, ps_un (by decide)]; exact c1, by rw [ps_s, ps_un (by decide), ps_s, ps_us], by rw [ps_s, ps_us]; simp, fun i hi => by rw [ps_n (by omega), ps_n (by omega)]; exact c4 i hi, fun i fm hi => ?_⟩
  rw [ps_n (by omega), ps_n (by omega), ps_n (by omega), ps_n (by omega)]
  refine c5 i fm ?_
  rw [List.getElem?_dropLast] at hi
  split at hi
  · exact hi
  · cases hi
theorem SeM.pcs {g : Nat → Int32} (hs : SeM g (mm, pc, fs)) (hml : mm.length ≤ 1000) {x : Nat} : SeM (upd g 1000 (nI x)) (mm, x, fs) := by
  obtain ⟨c1, c2, c3, c4⟩ := hs
  refine ⟨fun i hi => by rw [ps_un (by omega)]; exact c1 i hi, by rw [ps_us], by rw [ps_un (by decide)]; exact c3, fun i fm hi => ?_⟩
  obtain ⟨bk, re, ar, nl, ws⟩ := fm
  obtain ⟨d1, d2, d3, d4, d5, d6⟩ := c4 i _ hi
  exact ⟨by rw [ps_un (by omega)]; exact d1, by rw [ps_un (by omega)]; exact d2, by rw [ps_un (by omega)]; exact d3, by rw [ps_un (by omega)]; exact d4, by rw [ps_un (by omega)]; exact d5, fun k hk => by rw [ps_un (by omega)]; exact d6 k hk⟩
theorem SeM.mem {g : Nat → Int32} (hs : SeM g (mm, pc, fs)) (hml : mm.length ≤ 1000) {i b : Nat} (hi : i < mm.length) : SeM (upd g i (nI b)) (mm.set i b, pc, fs) := by
  obtain ⟨c1, c2, c3, c4⟩ := hs
  refine ⟨fun k hk => ?_, by rw [ps_un (by omega)]; exact c2, by rw [ps_un (by omega)]; exact c3, fun k fm hk => ?_⟩
  · simp only [List.length_set] at hk
    by_cases e : k = i
    · subst e
      rw [ps_us]
      simp [List.getD, hi]
    · rw [ps_un e, c1 k hk]
      simp only [List.getD_eq_getElem?_getD, List.getElem?_set_ne (fun z => e z.symm)]
  · obtain ⟨bk, re, ar, nl, ws⟩ := fm
    obtain ⟨d1, d2, d3, d4, d5, d6⟩ := c4 k _ hk
    exact ⟨by rw [ps_un (by omega)]; exact d1, by rw [ps_un (by omega)]; exact d2, by rw [ps_un (by omega)]; exact d3, by rw [ps_un (by omega)]; exact d4, by rw [ps_un (by omega)]; exact d5, fun j hj => by rw [ps_un (by omega)]; exact d6 j hj⟩
theorem FrM.eq {g g1 : Nat → Int32} {o : Nat} {fm : Fm} (hF : FrM g o fm) (hl : fm.2.2.2.2.length ≤ 55) (he : ∀ k, o ≤ k → k < o + 60 → g1 k = g k) : FrM g1 o fm := by
  obtain ⟨bk, re, ar, nl, ws⟩ := fm
  obtain ⟨d1, d2, d3, d4, d5, d6⟩ := hF
  simp only at hl
  exact ⟨by rw [he _ (by omega) (by omega)]; exact d1, by rw [he _ (by omega) (by omega)]; exact d2, by rw [he _ (by omega) (by omega)]; exact d3, by rw [he _ (by omega) (by omega)]; exact d4, by rw [he _ (by omega) (by omega)]; exact d5, fun k hk => by rw [he _ (by omega) (by omega)]; exact d6 k hk⟩
theorem WFm.len {fm : Fm} (h : WFm fm) : fm.2.2.2.2.length ≤ 55 := by
  obtain ⟨bk, re, ar, nl, ws⟩ := fm
  obtain ⟨-, -, -, w4, -, w6, -⟩ := h
  simp only
  omega
/-- one frame alone has changed -/
theorem SeM.frame {g g1 : Nat → Int32} (hs : SeM g (mm, pc, fs)) (hml : mm.length ≤ 1000) (hw : ∀ fm ∈ fs, WFm fm) {n : Nat} {fm : Fm} (he : ∀ k, k < 1002 + 60 * n ∨ 1002 + 60 * n + 60 ≤ k → g1 k = g k) (hF : FrM g1 (1002 + 60 * n) fm) (hn : n < fs.length) : SeM g1 (mm, pc, fs.set n fm) := by
  obtain ⟨c1, c2, c3, c4⟩ := hs
  refine ⟨fun i hi => by rw [he i (by omega)]; exact c1 i hi, by rw [he _ (by omega)]; exact c2, by rw [he _ (by omega)]; simpa using c3, fun i fm' hi => ?_⟩
  by_cases hin : i = n
  · subst hin
    rw [List.getElem?_set_self (by simpa using hn)] at hi
    cases hi
    exact hF
  · rw [List.getElem?_set_ne (fun z => hin z.symm)] at hi
    refine (c4 i fm' hi).eq (hw fm' (List.mem_of_getElem? hi)).len (fun k h1 h2 => he k ?_)
    rcases Nat.lt_or_ge i n with hh | hh <;> omega
theorem SeM.drop {g : Nat → Int32} (hs : SeM g (mm, pc, fs)) (hml : mm.length ≤ 1000) {x : Nat} : SeM (upd (upd g 1000 (nI x)) 1001 (nI (fs.length - 1))) (mm, x, fs.dropLast) := by
  obtain ⟨c1, c2, c3, c4⟩ := hs
  refine ⟨fun i hi => by rw [ps_un (by omega), ps_un (by omega)]; exact c1 i hi, by rw [ps_un (by decide), ps_us], by rw [ps_us]; simp, fun i fm hi => ?_⟩
  rw [List.getElem?_dropLast] at hi
  split at hi
  · obtain ⟨bk, re, ar, nl, ws⟩ := fm
    obtain ⟨d1, d2, d3, d4, d5, d6⟩ := c4 i _ hi
    exact ⟨by rw [ps_un (by omega), ps_un (by omega)]; exact d1, by rw [ps_un (by omega), ps_un (by omega)]; exact d2, by rw [ps_un (by omega), ps_un (by omega)]; exact d3, by rw [ps_un (by omega), ps_un (by omega)]; exact d4, by rw [ps_un (by omega), ps_un (by omega)]; exact d5, fun k hk => by rw [ps_un (by omega), ps_un (by omega)]; exact d6 k hk⟩
  · cases hi
theorem q_newest (hR : RX h s t u v) {n : Nat} (hn : h.1 125 1001 = nI (n + 1)) (hl : n < 20) : fX9_newest GG 119 h = some (nI (1002 + 60 * n), h) := by
  unfold fX9_newest
  rw [hR.r119_10, Option.bind_some, ln_125, if_pos (pb_ok (by decide) (by decide)), pb_cl (by decide), hn, pb_pred, pb_mul, pb_add, Nat.mul_comm]
end SOPS
