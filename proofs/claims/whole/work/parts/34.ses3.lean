/-! ===== local, push, pop ===== -/
section SES3
variable {h : AH}
theorem WS.set {ow mm : List Nat} {pc n : Nat} {fs : List Fm} {bk ar nl : Nat} {re : Option Nat} {ws ws' : List Nat} (hg : WS ow (mm, pc, fs)) (hf : fs[n]? = some (bk, re, ar, nl, ws)) (hw : WFm (bk, re, ar, nl, ws')) : WS ow (mm, pc, fs.set n (bk, re, ar, nl, ws')) := by
  obtain ⟨⟨w1, w2, w3, w4, w5⟩, hlen, ws0, r0, hfst⟩ := hg
  refine ⟨⟨w1, w2, w3, by simpa using w4, fun fm hfm => ?_⟩, hlen, ?_⟩
  · rcases List.mem_or_eq_of_mem_set hfm with hz | rfl
    · exact w5 fm hz
    · exact hw
  · simp only at hfst ⊢
    subst hfst
    cases n with
    | zero =>
      simp at hf
      obtain ⟨rfl, rfl, rfl, rfl, rfl⟩ := hf
      exact ⟨ws', r0, rfl⟩
    | succ n => exact ⟨ws0, r0.set n (bk, re, ar, nl, ws'), rfl⟩
theorem am_let_ex {α β : Type} {x : α} {K : α → β} {r : β} (hk : ∀ y, y = x → K y = r) : am_let x K = r := hk x rfl
theorem q_push {H : AH} {s t u v k n nl d b : Nat} (hR : RX H s t u v) (m9 : H.1 119 9 = nI k) (hk : 0 < k) (hk2 : k ≤ 1000) (g4 : H.1 125 1001 = nI (n + 1)) (hn : n < 20) (e4 : H.1 125 (1002 + 60 * n + 3) = nI nl) (e5 : H.1 125 (1002 + 60 * n + 4) = nI d) (hd : d < 40) (hnl : nl ≤ 15) (hb : b ≤ 65535) : fX9_push GG 119 (nI b) H = some (nI (d + 1), am_setI (am_setI H 125 (1002 + 60 * n + 5 + nl + d) (nI b)) 125 (1002 + 60 * n + 4) (nI (d + 1))) := by
  unfold fX9_push
  rw [m9, if_neg (by rw [pb_eq0 (by omega)]; omega), q_outside _ (by decide), if_pos (in_nIr (by decide) hb)]
  simp only [am_bind, Option.bind_some]
  rw [if_pos (by decide), q_newest hR g4 hn]
  simp (disch := omega) only [Option.bind_some, hR.r119_10, pb_add, ln_125, pb_ok, pb_cl, if_true, e5, e4]
  rw [if_neg (by rw [pb_eq (by omega) (by decide)]; omega)]
  refine am_let_ex (fun h69 hh => ?_)
  have r1 : h69.2 119 10 = some 125 := by rw [hh]; exact hR.r119_10
  have r2 : h69.1 125 (1002 + 60 * n + 4) = nI d := by rw [hh, ps_s, ps_un (by omega)]; exact e5
  simp (disch := omega) only [r1, Option.bind_some, pb_add, ln_125, pb_ok, pb_cl, if_true, r2]
  refine am_let_ex (fun h81 hh2 => ?_)
  have r3 : h81.2 119 10 = some 125 := by rw [hh2]; exact r1
  have r4 : h81.1 125 (1002 + 60 * n + 4) = nI (d + 1) := by rw [hh2, ps_s, ps_us]
  simp (disch := omega) only [r3, Option.bind_some, ln_125, pb_ok, pb_cl, if_true, r4]
  rw [hh2, hh]
theorem q_pop {H : AH} {s t u v k n nl d : Nat} (hR : RX H s t u v) (m9 : H.1 119 9 = nI k) (hk : 0 < k) (hk2 : k ≤ 1000) (g4 : H.1 125 1001 = nI (n + 1)) (hn : n < 20) (e4 : H.1 125 (1002 + 60 * n + 3) = nI nl) (e5 : H.1 125 (1002 + 60 * n + 4) = nI (d + 1)) (hd : d < 40) (hnl : nl ≤ 15) : fX9_pop GG 119 H = some (H.1 125 (1002 + 60 * n + 5 + nl + d), am_setI H 125 (1002 + 60 * n + 4) (nI d)) := by
  unfold fX9_pop
  rw [m9, if_neg (by rw [pb_eq0 (by omega)]; omega), q_newest hR g4 hn]
  simp (disch := omega) only [am_bind, Option.bind_some, hR.r119_10, pb_add, ln_125, pb_ok, pb_cl, if_true, e5]
  rw [if_neg (by rw [pb_eq0 (by omega)]; omega), pb_pred]
  refine am_let_ex (fun h40 hh => ?_)
  have r1 : h40.2 119 10 = some 125 := by rw [hh]; exact hR.r119_10
  have r2 : h40.1 125 (1002 + 60 * n + 4) = nI d := by rw [hh, ps_s, ps_us]
  have r3 : h40.1 125 (1002 + 60 * n + 3) = nI nl := by rw [hh, ps_s, ps_un (by omega)]; exact e4
  simp (disch := omega) only [r1, Option.bind_some, pb_add, ln_125, pb_ok, pb_cl, if_true, r2, r3]
  rw [hh, ps_s, ps_un (by omega)]
theorem st_local (hI : Inv h) (x y : Int32) : ∃ r h1 h2, fX8_local GG 0 x y h = some (r, h1) ∧ fX9_local GG 119 x y h1 = some (r, h2) ∧ Inv h2 := by
  obtain ⟨s, t, u, v, ⟨tp, ou, dk, ct, hd, ow, ⟨mm, pc, fs⟩, kp, bd, st, cd, pl, ch⟩, hw, hx, hm⟩ := id hI
  have hR := hx.1
  have hq := hx.2.1.1
  have hS := hx.2.2.2.2.2.1
  have hse := hx.2.2.2.2.2.2.2.1
  have hl : ow.length ≤ 1000 := hw.2.2.2.2.2.1.2
  have m9 : h.1 119 9 = nI ow.length := hm.2.2.2.2.2.1.1
  by_cases ho : ow = []
  · refine ⟨-4, h, h, ?_, ?_, hI⟩
    · unfold fX8_local
      rw [p_noStory hR hS hl]
      simp only [am_bind, Option.bind_some, ho, if_true]
      rfl
    · unfold fX9_local
      rw [m9, ho, if_pos (by rfl)]
  · have hp := len_pos ho
    have hne : ¬ nI ow.length = 0 := by rw [pb_eq0 (by omega)]; omega
    have hg := (hw.2.2.2.2.2.2.1.2 ho).1
    obtain ⟨⟨w1, w2, w3, w4, w5⟩, hlen, ws0, r0, hfst⟩ := id hg
    simp only at hlen hfst
    have sm := hm.2.2.2.2.2.2.1 ho
    have hs23 : 23 ≤ s ∧ s ≤ 66 := by rcases hq with rfl | rfl <;> decide
    obtain ⟨n, hn⟩ : ∃ n, fs.length = n + 1 := ⟨r0.length, by rw [hfst]; simp⟩
    have h4 : h.1 s 4 = nI (n + 1) := by rw [hse.2.2.1, hn]
    have g4 : h.1 125 1001 = nI (n + 1) := by rw [sm.2.2.1, hn]
    obtain ⟨⟨bk, re, ar, nl, ws⟩, hfm⟩ := last_fm hn
    obtain ⟨f1, f2, f3, f4, f5, f6⟩ := hse.2.2.2.2 n _ hfm
    obtain ⟨e1, e2, e3, e4, e5, e6⟩ := sm.2.2.2 n _ hfm
    have hwf := w5 _ (List.mem_of_getElem? hfm)
    obtain ⟨z1, z2, z3, z4, z5, z6, z7⟩ := id hwf
    have hrr := hq.rr hR (i := n) (by omega)
    have hrow := hq.row n (by omega)
    by_cases hin : 0 ≤ x ∧ x < nI nl
    · by_cases hiy : 0 ≤ y ∧ y ≤ nI 65535
      · obtain ⟨j, hj, rfl⟩ := in_nIS (by omega) hin
        obtain ⟨b, hb, rfl⟩ := in_nI (by decide) hiy
        refine ⟨nI (ws.getD j 0), am_setI h (s + 4 + 2 * n) j (nI b), am_setI (am_setI h (s + 4 + 2 * n) j (nI b)) 125 (1002 + 60 * n + 5 + j) (nI b), ?_, ?_, ?_⟩
        · unfold fX8_local
          rw [p_noStory hR hS hl]
          simp only [am_bind, Option.bind_some, if_neg ho, hR.r0_8]
          rw [if_pos (by decide), p_newest hq hR h4 (by omega)]
          simp only [Option.bind_some, Option.elim_some, f4]
          rw [p_withinS _ (by omega), if_pos hin]
          simp only [Option.bind_some]
          rw [if_neg (by decide), p_within _ (by decide), if_pos hiy]
          simp only [Option.bind_some]
          rw [if_neg (by decide), p_wordAt hrr hrow (by omega)]
          simp only [Option.bind_some]
          rw [p_setWord hrr hrow (by omega), f6 j (by omega)]
          rfl
        · unfold fX9_local
          rw [ps_n (by omega), m9, if_neg hne, q_newest (h := am_setI h (s + 4 + 2 * n) j (nI b)) (s := s) (t := t) (u := u) (v := v) (hR.eq rfl) (n := n) (by rw [ps_n (by omega)]; exact g4) (by omega)]
          simp (disch := omega) only [am_bind, Option.bind_some, ps_2, hR.r119_10, pb_add, ln_125, pb_ok, pb_cl, if_true, ps_n, e4, if_false]
          rw [q_outsideS _ (by omega), if_pos hin]
          simp only [Option.bind_some]
          rw [if_pos (by decide), q_outside _ (by decide), if_pos hiy]
          simp (disch := omega) only [Option.bind_some, ps_2, hR.r119_10, pb_add, ln_125, pb_ok, pb_cl, if_true, ps_n, am_let, e6, if_false]
          rw [if_pos (by decide)]
        · refine inv_ses (h1 := am_setI h (s + 4 + 2 * n) j (nI b)) (ss' := (mm, pc, fs.set n (bk, re, ar, nl, ws.set j b))) hw hx hm ho rfl (fun a ha => ps_n (by omega)) ?_ rfl (fun a ha => ps_n ha) ?_ ?_
          · refine hse.frame (Fr.set (by simp)) ?_ (by omega)
            refine ⟨by rw [ps_n (by omega)]; exact f1, by rw [ps_n (by omega)]; exact f2, by rw [ps_n (by omega)]; exact f3, by rw [ps_n (by omega)]; exact f4, by rw [ps_n (by omega)]; simpa using f5, fun k hk => ?_⟩
            rw [ps_s]
            simp only [List.length_set] at hk
            by_cases e : k = j
            · subst e; rw [ps_us]; simp [List.getD, hk]
            · rw [ps_un e, f6 k hk]
              simp only [List.getD_eq_getElem?_getD, List.getElem?_set_ne (fun z => e z.symm)]
          · rw [ps_s, ps_n (by omega)]
            refine sm.frame w1 w5 (n := n) (fun k hk => ps_un (by omega)) ?_ (by omega)
            refine ⟨by rw [ps_un (by omega)]; exact e1, by rw [ps_un (by omega)]; exact e2, by rw [ps_un (by omega)]; exact e3, by rw [ps_un (by omega)]; exact e4, by rw [ps_un (by omega)]; simpa using e5, fun k hk => ?_⟩
            simp only [List.length_set] at hk
            by_cases e : k = j
            · subst e; rw [ps_us]; simp [List.getD, hk]
            · rw [ps_un (by omega), e6 k hk]
              simp only [List.getD_eq_getElem?_getD, List.getElem?_set_ne (fun z => e z.symm)]
          · refine hg.set hfm ⟨z1, z2, z3, z4, by simpa using z5, by simpa using z6, fun w hw => ?_⟩
            rcases List.mem_or_eq_of_mem_set hw with hz | rfl
            · exact z7 w hz
            · omega
      · refine ⟨-1, h, h, ?_, ?_, hI⟩
        · unfold fX8_local
          rw [p_noStory hR hS hl]
          simp only [am_bind, Option.bind_some, if_neg ho, hR.r0_8]
          rw [if_pos (by decide), p_newest hq hR h4 (by omega)]
          simp only [Option.bind_some, Option.elim_some, f4]
          rw [p_withinS _ (by omega), if_pos hin]
          simp only [Option.bind_some]
          rw [if_neg (by decide), p_within _ (by decide), if_neg hiy]
          rfl
        · unfold fX9_local
          rw [m9, if_neg hne, q_newest hR g4 (by omega)]
          simp (disch := omega) only [am_bind, Option.bind_some, hR.r119_10, pb_add, ln_125, pb_ok, pb_cl, if_true, e4, if_false]
          rw [q_outsideS _ (by omega), if_pos hin]
          simp only [Option.bind_some]
          rw [if_pos (by decide), q_outside _ (by decide), if_neg hiy]
          rfl
    · refine ⟨-1, h, h, ?_, ?_, hI⟩
      · unfold fX8_local
        rw [p_noStory hR hS hl]
        simp only [am_bind, Option.bind_some, if_neg ho, hR.r0_8]
        rw [if_pos (by decide), p_newest hq hR h4 (by omega)]
        simp only [Option.bind_some, Option.elim_some, f4]
        rw [p_withinS _ (by omega), if_neg hin]
        rfl
      · unfold fX9_local
        rw [m9, if_neg hne, q_newest hR g4 (by omega)]
        simp (disch := omega) only [am_bind, Option.bind_some, hR.r119_10, pb_add, ln_125, pb_ok, pb_cl, if_true, e4, if_false]
        rw [q_outsideS _ (by omega), if_neg hin]
        rfl
theorem st_push (hI : Inv h) (y : Int32) : ∃ r h1 h2, fX8_push GG 0 y h = some (r, h1) ∧ fX9_push GG 119 y h1 = some (r, h2) ∧ Inv h2 := by
  obtain ⟨s, t, u, v, ⟨tp, ou, dk, ct, hd, ow, ⟨mm, pc, fs⟩, kp, bd, st, cd, pl, ch⟩, hw, hx, hm⟩ := id hI
  have hR := hx.1
  have hq := hx.2.1.1
  have hS := hx.2.2.2.2.2.1
  have hse := hx.2.2.2.2.2.2.2.1
  have hl : ow.length ≤ 1000 := hw.2.2.2.2.2.1.2
  have m9 : h.1 119 9 = nI ow.length := hm.2.2.2.2.2.1.1
  by_cases ho : ow = []
  · refine ⟨-4, h, h, ?_, ?_, hI⟩
    · unfold fX8_push
      rw [p_noStory hR hS hl]
      simp only [am_bind, Option.bind_some, ho, if_true]
      rfl
    · unfold fX9_push
      rw [m9, ho, if_pos (by rfl)]
  · have hp := len_pos ho
    have hne : ¬ nI ow.length = 0 := by rw [pb_eq0 (by omega)]; omega
    have hg := (hw.2.2.2.2.2.2.1.2 ho).1
    obtain ⟨⟨w1, w2, w3, w4, w5⟩, hlen, ws0, r0, hfst⟩ := id hg
    simp only at hlen hfst
    have sm := hm.2.2.2.2.2.2.1 ho
    have hs23 : 23 ≤ s ∧ s ≤ 66 := by rcases hq with rfl | rfl <;> decide
    obtain ⟨n, hn⟩ : ∃ n, fs.length = n + 1 := ⟨r0.length, by rw [hfst]; simp⟩
    have h4 : h.1 s 4 = nI (n + 1) := by rw [hse.2.2.1, hn]
    have g4 : h.1 125 1001 = nI (n + 1) := by rw [sm.2.2.1, hn]
    obtain ⟨⟨bk, re, ar, nl, ws⟩, hfm⟩ := last_fm hn
    obtain ⟨f1, f2, f3, f4, f5, f6⟩ := hse.2.2.2.2 n _ hfm
    obtain ⟨e1, e2, e3, e4, e5, e6⟩ := sm.2.2.2 n _ hfm
    have hwf := w5 _ (List.mem_of_getElem? hfm)
    obtain ⟨z1, z2, z3, z4, z5, z6, z7⟩ := id hwf
    have hrr := hq.rr hR (i := n) (by omega)
    have hrow := hq.row n (by omega)
    by_cases hiy : 0 ≤ y ∧ y ≤ nI 65535
    · by_cases hfull : ws.length - nl = 40
      · refine ⟨-3, h, h, ?_, ?_, hI⟩
        · unfold fX8_push
          rw [p_noStory hR hS hl]
          simp only [am_bind, Option.bind_some, if_neg ho]
          rw [if_pos (by decide), p_within _ (by decide), if_pos hiy]
          simp only [Option.bind_some, hR.r0_8]
          rw [if_neg (by decide), p_newest hq hR h4 (by omega)]
          simp only [Option.bind_some, Option.elim_some, f5]
          rw [if_neg (by rw [pb_ltI (by omega) (by decide)]; omega)]
        · unfold fX9_push
          rw [m9, if_neg hne, q_outside _ (by decide), if_pos hiy]
          simp only [am_bind, Option.bind_some]
          rw [if_pos (by decide), q_newest hR g4 (by omega)]
          simp (disch := omega) only [Option.bind_some, hR.r119_10, pb_add, ln_125, pb_ok, pb_cl, if_true, e5, if_false]
          rw [if_pos (by rw [pb_eq (by omega) (by decide)]; exact hfull)]
      · obtain ⟨b, hb, rfl⟩ := in_nI (by decide) hiy
        have hsum : nl + (ws.length - nl) = ws.length := by omega
        refine ⟨nI (ws.length - nl + 1), am_setI (am_setI h (s + 4 + 2 * n) (nl + (ws.length - nl)) (nI b)) (s + 3 + 2 * n) 5 (nI (ws.length - nl + 1)), am_setI (am_setI (am_setI (am_setI h (s + 4 + 2 * n) (nl + (ws.length - nl)) (nI b)) (s + 3 + 2 * n) 5 (nI (ws.length - nl + 1))) 125 (1002 + 60 * n + 5 + nl + (ws.length - nl)) (nI b)) 125 (1002 + 60 * n + 4) (nI (ws.length - nl + 1)), ?_, ?_, ?_⟩
        · unfold fX8_push
          rw [p_noStory hR hS hl]
          simp only [am_bind, Option.bind_some, if_neg ho]
          rw [if_pos (by decide), p_within _ (by decide), if_pos hiy]
          simp only [Option.bind_some, hR.r0_8]
          rw [if_neg (by decide), p_newest hq hR h4 (by omega)]
          simp only [Option.bind_some, Option.elim_some]
          rw [f5, if_pos (by rw [pb_ltI (by omega) (by decide)]; omega), p_stackWord hrr hrow (by omega) f4 f5 (by omega) z4]
          simp only [Option.bind_some, ps_s, ps_us]
        · refine q_push (s := s) (t := t) (u := u) (v := v) (k := ow.length) (hR.eq rfl) ?_ hp hl ?_ (by omega) ?_ ?_ (by omega) z4 hb
          · rw [ps_n (by omega), ps_n (by omega)]; exact m9
          · rw [ps_n (by omega), ps_n (by omega)]; exact g4
          · rw [ps_n (by omega), ps_n (by omega)]; exact e4
          · rw [ps_n (by omega), ps_n (by omega)]; exact e5
        · refine inv_ses (h1 := am_setI (am_setI h (s + 4 + 2 * n) (nl + (ws.length - nl)) (nI b)) (s + 3 + 2 * n) 5 (nI (ws.length - nl + 1))) (ss' := (mm, pc, fs.set n (bk, re, ar, nl, ws ++ [b]))) hw hx hm ho rfl (fun a ha => by rw [ps_n (by omega), ps_n (by omega)]) ?_ rfl (fun a ha => by rw [ps_n ha, ps_n ha]) ?_ ?_
          · refine hse.frame ((Fr.set (by simp)).tr (Fr.set (by simp))) ?_ (by omega)
            refine ⟨by rw [ps_s, ps_un (by decide), ps_n (by omega)]; exact f1, by rw [ps_s, ps_un (by decide), ps_n (by omega)]; exact f2, by rw [ps_s, ps_un (by decide), ps_n (by omega)]; exact f3, by rw [ps_s, ps_un (by decide), ps_n (by omega)]; exact f4, by rw [ps_s, ps_us]; congr 1; simp; omega, fun k hk => ?_⟩
            rw [ps_n (by omega), ps_s, hsum, getD_app]
            simp at hk
            by_cases e : k = ws.length
            · subst e; rw [ps_us, if_neg (by omega)]; simp
            · rw [ps_un e, f6 k (by omega), if_pos (by omega)]
          · rw [ps_s, ps_s, ps_n (by omega), ps_n (by omega)]
            refine sm.frame w1 w5 (n := n) (fun k hk => by rw [ps_un (by omega), ps_un (by omega)]) ?_ (by omega)
            refine ⟨by rw [ps_un (by omega), ps_un (by omega)]; exact e1, by rw [ps_un (by omega), ps_un (by omega)]; exact e2, by rw [ps_un (by omega), ps_un (by omega)]; exact e3, by rw [ps_un (by omega), ps_un (by omega)]; exact e4, by rw [ps_us]; congr 1; simp; omega, fun k hk => ?_⟩
            rw [ps_un (by omega), getD_app]
            simp at hk
            by_cases e : k = ws.length
            · subst e
              rw [show 1002 + 60 * n + 5 + nl + (ws.length - nl) = 1002 + 60 * n + 5 + ws.length by omega, ps_us, if_neg (by omega)]
              simp
            · rw [ps_un (by omega), e6 k (by omega), if_pos (by omega)]
          · refine hg.set hfm ⟨z1, z2, z3, z4, by simp; omega, by simp; omega, fun w hw => ?_⟩
            rcases List.mem_append.mp hw with hz | hz
            · exact z7 w hz
            · simp at hz; omega
    · refine ⟨-1, h, h, ?_, ?_, hI⟩
      · unfold fX8_push
        rw [p_noStory hR hS hl]
        simp only [am_bind, Option.bind_some, if_neg ho]
        rw [if_pos (by decide), p_within _ (by decide), if_neg hiy]
        rfl
      · unfold fX9_push
        rw [m9, if_neg hne, q_outside _ (by decide), if_neg hiy]
        rfl
theorem st_pop (hI : Inv h) : ∃ r h1 h2, fX8_pop GG 0 h = some (r, h1) ∧ fX9_pop GG 119 h1 = some (r, h2) ∧ Inv h2 := by
  obtain ⟨s, t, u, v, ⟨tp, ou, dk, ct, hd, ow, ⟨mm, pc, fs⟩, kp, bd, st, cd, pl, ch⟩, hw, hx, hm⟩ := id hI
  have hR := hx.1
  have hq := hx.2.1.1
  have hS := hx.2.2.2.2.2.1
  have hse := hx.2.2.2.2.2.2.2.1
  have hl : ow.length ≤ 1000 := hw.2.2.2.2.2.1.2
  have m9 : h.1 119 9 = nI ow.length := hm.2.2.2.2.2.1.1
  by_cases ho : ow = []
  · refine ⟨-4, h, h, ?_, ?_, hI⟩
    · unfold fX8_pop
      rw [p_noStory hR hS hl]
      simp only [am_bind, Option.bind_some, ho, if_true]
      rfl
    · unfold fX9_pop
      rw [m9, ho, if_pos (by rfl)]
  · have hp := len_pos ho
    have hne : ¬ nI ow.length = 0 := by rw [pb_eq0 (by omega)]; omega
    have hg := (hw.2.2.2.2.2.2.1.2 ho).1
    obtain ⟨⟨w1, w2, w3, w4, w5⟩, hlen, ws0, r0, hfst⟩ := id hg
    simp only at hlen hfst
    have sm := hm.2.2.2.2.2.2.1 ho
    have hs23 : 23 ≤ s ∧ s ≤ 66 := by rcases hq with rfl | rfl <;> decide
    obtain ⟨n, hn⟩ : ∃ n, fs.length = n + 1 := ⟨r0.length, by rw [hfst]; simp⟩
    have h4 : h.1 s 4 = nI (n + 1) := by rw [hse.2.2.1, hn]
    have g4 : h.1 125 1001 = nI (n + 1) := by rw [sm.2.2.1, hn]
    obtain ⟨⟨bk, re, ar, nl, ws⟩, hfm⟩ := last_fm hn
    obtain ⟨f1, f2, f3, f4, f5, f6⟩ := hse.2.2.2.2 n _ hfm
    obtain ⟨e1, e2, e3, e4, e5, e6⟩ := sm.2.2.2 n _ hfm
    have hwf := w5 _ (List.mem_of_getElem? hfm)
    obtain ⟨z1, z2, z3, z4, z5, z6, z7⟩ := id hwf
    have hrr := hq.rr hR (i := n) (by omega)
    have hrow := hq.row n (by omega)
    by_cases hemp : ws.length - nl = 0
    · refine ⟨-2, h, h, ?_, ?_, hI⟩
      · unfold fX8_pop
        rw [p_noStory hR hS hl]
        simp only [am_bind, Option.bind_some, if_neg ho, hR.r0_8]
        rw [if_pos (by decide), p_newest hq hR h4 (by omega)]
        simp only [Option.bind_some, Option.elim_some, f5]
        rw [if_neg (by rw [pb_0lt (by omega)]; omega)]
      · unfold fX9_pop
        rw [m9, if_neg hne, q_newest hR g4 (by omega)]
        simp (disch := omega) only [am_bind, Option.bind_some, hR.r119_10, pb_add, ln_125, pb_ok, pb_cl, if_true, e5, if_false]
        rw [if_pos (by rw [pb_eq0 (by omega)]; exact hemp)]
    · refine ⟨nI (ws.getD (ws.length - 1) 0), am_setI h (s + 3 + 2 * n) 5 (nI (ws.length - nl - 1)), am_setI (am_setI h (s + 3 + 2 * n) 5 (nI (ws.length - nl - 1))) 125 (1002 + 60 * n + 4) (nI (ws.length - nl - 1)), ?_, ?_, ?_⟩
      · unfold fX8_pop
        rw [p_noStory hR hS hl]
        simp only [am_bind, Option.bind_some, if_neg ho, hR.r0_8]
        rw [if_pos (by decide), p_newest hq hR h4 (by omega)]
        simp only [Option.bind_some, Option.elim_some]
        rw [f5, if_pos (by rw [pb_0lt (by omega)]; omega), p_words rfl f4 f5]
        simp only [Option.bind_some]
        rw [pb_sub (by omega), p_wordAt hrr hrow (by omega)]
        simp only [Option.bind_some, am_let]
        rw [f5, pb_sub (by omega), show nl + (ws.length - nl) - 1 = ws.length - 1 by omega, f6 _ (by omega)]
      · have hq2 := q_pop (H := am_setI h (s + 3 + 2 * n) 5 (nI (ws.length - nl - 1))) (s := s) (t := t) (u := u) (v := v) (k := ow.length) (n := n) (nl := nl) (d := ws.length - nl - 1) (hR.eq rfl) (by rw [ps_n (by omega)]; exact m9) hp hl (by rw [ps_n (by omega)]; exact g4) (by omega) (by rw [ps_n (by omega)]; exact e4) (by rw [ps_n (by omega), e5]; congr 1; omega) (by omega) z4
        rw [hq2, ps_n (by omega), show 1002 + 60 * n + 5 + nl + (ws.length - nl - 1) = 1002 + 60 * n + 5 + (ws.length - 1) by omega, e6 _ (by omega)]
      · refine inv_ses (h1 := am_setI h (s + 3 + 2 * n) 5 (nI (ws.length - nl - 1))) (ss' := (mm, pc, fs.set n (bk, re, ar, nl, ws.dropLast))) hw hx hm ho rfl (fun a ha => ps_n (by omega)) ?_ rfl (fun a ha => ps_n ha) ?_ ?_
        · refine hse.frame (Fr.set (by simp)) ?_ (by omega)
          refine ⟨by rw [ps_s, ps_un (by decide)]; exact f1, by rw [ps_s, ps_un (by decide)]; exact f2, by rw [ps_s, ps_un (by decide)]; exact f3, by rw [ps_s, ps_un (by decide)]; exact f4, by rw [ps_s, ps_us]; congr 1; simp; omega, fun k hk => ?_⟩
          simp at hk
          rw [ps_n (by omega), f6 k (by omega)]
          simp only [List.getD_eq_getElem?_getD, List.getElem?_dropLast, show k < ws.length - 1 by omega, if_true]
        · rw [ps_s, ps_n (by omega)]
          refine sm.frame w1 w5 (n := n) (fun k hk => ps_un (by omega)) ?_ (by omega)
          refine ⟨by rw [ps_un (by omega)]; exact e1, by rw [ps_un (by omega)]; exact e2, by rw [ps_un (by omega)]; exact e3, by rw [ps_un (by omega)]; exact e4, by rw [ps_us]; congr 1; simp; omega, fun k hk => ?_⟩
          simp at hk
          rw [ps_un (by omega), e6 k (by omega)]
          simp only [List.getD_eq_getElem?_getD, List.getElem?_dropLast, show k < ws.length - 1 by omega, if_true]
        · refine hg.set hfm ⟨z1, z2, z3, z4, by simp; omega, by simp; omega, fun w hw => z7 w ((List.dropLast_sublist ws).subset hw)⟩
end SES3
