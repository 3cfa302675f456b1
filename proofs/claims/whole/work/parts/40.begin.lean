/-! ===== a session begins; bits; the turn to the spare one ===== -/
section BEGIN
variable {h : AH} {s t u v : Nat}
theorem p_sbegin {q : Nat} {hd ow : List Nat} (hq : SQ q) (hR : RX h s t u v) (hS : CS h hd ow) (hl : ow.length ≤ 1000) : ∃ h1, fX4_begin GG q 14 h = some ((), h1) ∧ Fr h h1 [q, q + 1, q + 3, q + 4] ∧ SeX h1 q (ow, 0, [(0, some 0, 0, 0, [])]) := by
  have hq' : q = 23 ∨ q = 66 := hq
  obtain ⟨s1, s2, s3⟩ := hS
  -- the bytes
  have hloop := fill_loop0 (fun z i h => fX4_begin_10 GG z q 14 (nI i) h) (fun h => am_let (am_setI h q 3 (nI 0)) fun h36 => am_let (am_setI h36 q 4 (nI 0)) fun h41 => am_bind (fX4_addFrame GG q (nI 0) (nI 0) (nI 0) (nI 0) h41) fun r49 h49 => some ((), h49)) (fun g => RX g s t u v ∧ g.1 q 2 = nI ow.length ∧ g.1 14 2 = nI ow.length ∧ Arr (g.1 16) ow) (q + 1) 0 ow.length (fun k => nI (ow.getD k 0)) (by
    intro z i g hP hi
    rw [fX4_begin_10, hP.2.1, if_neg (by rw [pb_le (by omega) (by omega)]; omega), p_storyAt hP.1 hP.2.2.1 hl hP.2.2.2 (by omega)]
    simp only [am_bind, Option.bind_some]
    rw [p_setByte hq hP.1 hP.2.1 hl hi]
    simp only [Option.bind_some, pb_add, Nat.zero_add]) (fun g j w hP => ⟨hP.1, by rw [ps_n (by omega)]; exact hP.2.1, by rw [ps_n (by omega)]; exact hP.2.2.1, by rw [ps_n (by omega)]; exact hP.2.2.2⟩) (by
    intro z g hP
    rw [fX4_begin_10, hP.2.1, if_pos (by rw [pb_le (by omega) (by omega)]; omega)]) (am_setI h q 2 (nI ow.length)) ⟨hR.eq rfl, by rw [ps_s, ps_us], by rw [ps_n (by omega)]; exact s1, by rw [ps_n (by omega)]; exact s3⟩ (by omega)
  generalize hG : am_fill (am_setI h q 2 (nI ow.length)) (q + 1) 0 ow.length (fun k => nI (ow.getD k 0)) = G at hloop
  have hFG : Fr h G [q, q + 1] := by
    rw [← hG]
    exact (Fr.set (by simp)).tr (Fr.fill (by simp))
  have g2 : G.1 q 2 = nI ow.length := by rw [← hG, pf_n (by omega), ps_s, ps_us]
  have gm : ∀ i, i < ow.length → G.1 (q + 1) i = nI (ow.getD i 0) := fun i hi => by rw [← hG, pf_in (by omega) (by omega), Nat.sub_zero]
  have hRG : RX (am_setI (am_setI G q 3 (nI 0)) q 4 (nI 0)) s t u v := hR.eq hFG.1
  obtain ⟨h1, e1, e2, e3, e4, e5⟩ := p_addFrame (h := am_setI (am_setI G q 3 (nI 0)) q 4 (nI 0)) (n := 0) (bk := 0) (re := some 0) (ar := 0) (nl := 0) hq hRG (by rw [ps_s, ps_us]) (by decide) (by decide)
  have hF1 : Fr h h1 [q, q + 1, q + 3, q + 4] := by
    refine (hFG.mo (by simp)).tr (((Fr.set (h := G) (j := 3) (v := nI 0) (by simp)).tr (Fr.set (by simp))).tr (e2.mo (by simp)))
  refine ⟨h1, ?_, hF1, ?_⟩
  · unfold fX4_begin am_let
    rw [s1]
    refine Eq.trans hloop ?_
    simp only [am_let]
    have e1' : fX4_addFrame GG q (nI 0) (nI 0) (nI 0) (nI 0) (am_setI (am_setI G q 3 (nI 0)) q 4 (nI 0)) = some ((), h1) := e1
    rw [e1']
    rfl
  · refine ⟨?_, ?_, ?_, ?_, ?_⟩
    · rw [e5 2 (by decide), ps_s, ps_un (by decide), ps_s, ps_un (by decide)]; exact g2
    · rw [e5 3 (by decide), ps_s, ps_un (by decide), ps_s, ps_us]
    · rw [e4]; rfl
    · intro i hi
      rw [e2.2 (q + 1) (by simp), ps_n (by omega), ps_n (by omega)]
      exact gm i hi
    · intro i fm hi
      have hlt := (List.getElem?_eq_some_iff.mp hi).1
      simp at hlt
      subst hlt
      simp at hi
      subst hi
      exact e3
theorem q_begin {H : AH} (hR : RX H s t u v) {n : Nat} (h9 : H.1 119 9 = nI n) (hn : n ≤ 1000) : fX9_begin GG 119 H = some ((), am_setI (am_fill H 125 0 2202 (fun k => if k < n then H.1 124 k else nI 0)) 125 1001 (nI 1)) := by
  unfold fX9_begin
  refine fill_loop0 (fun k i h => fX9_begin_2 GG k 119 (nI i) h) (fun h => some ((), am_setI h 125 1001 (nI 1))) (fun h => RX h s t u v ∧ h.1 119 9 = nI n ∧ h.1 124 = H.1 124) 125 0 2202 (fun k => if k < n then H.1 124 k else nI 0) ?_ (fun h j w hP => ⟨hP.1, by rw [ps_n (by decide)]; exact hP.2.1, by rw [ps_n (by decide)]; exact hP.2.2⟩) ?_ H ⟨hR, h9, rfl⟩ (by decide)
  · intro z i h hP hi
    by_cases hlt : i < n
    · simp (disch := omega) only [fX9_begin_2, fX9_begin_32, hP.2.1, pb_le, if_neg, hP.1.r119_10, hP.1.r119_8, hP.2.2, Option.bind_some, pb_add, ln_124, ln_125, pb_ok, if_true, pb_cl, am_let, if_false, Nat.zero_add, if_pos]
    · simp (disch := omega) only [fX9_begin_2, fX9_begin_32, hP.2.1, pb_le, if_neg, hP.1.r119_10, Option.bind_some, pb_add, ln_125, pb_ok, if_true, pb_cl, am_let, if_false, Nat.zero_add, if_pos]
  · intro z h hP
    simp (disch := omega) only [fX9_begin_2, pb_le, if_pos, hP.1.r119_10, Option.bind_some, ln_125, pb_ok, if_true, pb_cl, am_let]
theorem SeM.begin {H : AH} {ow : List Nat} (ha : Arr (H.1 124) ow) (hl : ow.length ≤ 1000) : SeM ((am_setI (am_fill H 125 0 2202 (fun k => if k < ow.length then H.1 124 k else nI 0)) 125 1001 (nI 1)).1 125) (ow, 0, [(0, some 0, 0, 0, [])]) := by
  have key : ∀ k, k < 2202 → k ≠ 1001 → (am_setI (am_fill H 125 0 2202 (fun k => if k < ow.length then H.1 124 k else nI 0)) 125 1001 (nI 1)).1 125 k = if k < ow.length then H.1 124 k else nI 0 := by
    intro k hk h1
    rw [ps_s, ps_un h1, pf_in (by omega) (by omega), Nat.sub_zero]
  refine ⟨fun i hi => ?_, ?_, by rw [ps_s, ps_us]; rfl, fun i fm hi => ?_⟩
  · rw [key i (by omega) (by omega), if_pos hi]
    exact ha i hi
  · rw [key 1000 (by omega) (by omega), if_neg (by omega)]
  · have hlt := (List.getElem?_eq_some_iff.mp hi).1
    simp at hlt
    subst hlt
    simp at hi
    subst hi
    refine ⟨?_, ?_, ?_, ?_, ?_, fun k hk => by simp at hk⟩ <;> (rw [key _ (by omega) (by omega), if_neg (by omega)]) <;> rfl
theorem WS.begin {ow : List Nat} (ho : By ow) (hl : ow.length ≤ 1000) : WS ow (ow, 0, [(0, some 0, 0, 0, [])]) := by
  refine ⟨⟨hl, ho, by decide, by simp, fun fm hf => ?_⟩, rfl, [], [], rfl⟩
  simp at hf
  subst hf
  exact ⟨by decide, fun r hr => by cases hr; decide, by decide, by decide, by simp, by simp, fun w hw => by simp at hw⟩
/-! bits -/
theorem bit_m4 : ∀ m : Fin 256, nI m.val &&& (-4 : Int32) = nI (m.val / 4 * 4) := by decide +kernel
theorem bit_252 : ∀ m : Fin 256, nI m.val &&& nI 252 = nI (m.val / 4 * 4) := by decide +kernel
theorem bit_3 : ∀ m : Fin 256, nI m.val &&& nI 3 = nI (m.val % 4) := by decide +kernel
theorem bit_or : ∀ (m : Fin 64) (b : Fin 4), nI (m.val * 4) ||| nI b.val = nI (m.val * 4 + b.val) := by decide +kernel
/-- the second memory with the first one's bits -/
def sb (mm m2 : List Nat) : List Nat := m2.set 17 (m2.getD 17 0 / 4 * 4 + mm.getD 17 0 % 4)
theorem sb_len {mm m2 : List Nat} : (sb mm m2).length = m2.length := by simp [sb]
theorem sb_by {mm m2 : List Nat} (h1 : By m2) : By (sb mm m2) := by
  intro b hb
  have := getD_lt h1 17
  rcases List.mem_or_eq_of_mem_set hb with hz | rfl
  · exact h1 b hz
  · omega
theorem bits_or {m b : Nat} (hm : m < 256) (hb : b < 4) : nI (m / 4 * 4) ||| nI b = nI (m / 4 * 4 + b) := bit_or ⟨m / 4, by omega⟩ ⟨b, hb⟩
theorem p_bits {q : Nat} {mm : List Nat} {pc : Nat} {fs : List Fm} (hq : SQ q) (hR : RX h s t u v) (hs : SeX h q (mm, pc, fs)) (hl : mm.length ≤ 1000) (hb : By mm) : fX4_bits GG q h = some (nI (mm.getD 17 0 % 4), h) := by
  have := bit_3 ⟨mm.getD 17 0, getD_lt hb 17⟩
  unfold fX4_bits
  rw [p_byteAt hq hR hs.1 hl hs.2.2.2.1 (by decide)]
  simp only [am_bind, Option.bind_some]
  rw [this]
theorem p_setBits {q b : Nat} {mm m2 : List Nat} {pc : Nat} {fs : List Fm} (hq : SQ q) (hR : RX h s t u v) (hs : SeX h q (m2, pc, fs)) (hl : m2.length ≤ 1000) (hb : By m2) (hB : b = mm.getD 17 0 % 4) : ∃ h1, fX4_setBits GG q (nI b) h = some ((), h1) ∧ SeX h1 q (sb mm m2, pc, fs) ∧ Fr h h1 [q + 1] := by
  have hb4 : b < 4 := by omega
  have e1 := bit_m4 ⟨m2.getD 17 0, getD_lt hb 17⟩
  have e2 := bit_3 ⟨b, by omega⟩
  have e3 := bits_or (getD_lt hb 17) hb4
  simp only at e1 e2
  unfold fX4_setBits
  rw [p_byteAt hq hR hs.1 hl hs.2.2.2.1 (by decide)]
  simp only [am_bind, Option.bind_some]
  rw [e1, e2, Nat.mod_eq_of_lt hb4, e3]
  by_cases hlt : 17 < m2.length
  · rw [p_setByte hq hR hs.1 hl hlt]
    refine ⟨_, rfl, ?_, Fr.set (by simp)⟩
    unfold sb
    rw [← hB]
    exact hs.mem hlt
  · rw [p_setByte0 hq hs.1 hl (by omega) (by decide)]
    refine ⟨_, rfl, ?_, Fr.rf⟩
    unfold sb
    rw [List.set_eq_of_length_le (by omega)]
    exact hs
theorem RX.swap {h1 : AH} (hR : RX h s t u v) (e : h1.2 = (am_setR (am_setR h 0 8 (some t)) 0 9 (some s)).2) : RX h1 t s u v := by
  intro a j ha hj
  rw [e]
  by_cases h0 : a = 0
  · subst h0
    by_cases h8 : j = 8
    · subst h8
      simp [am_setR, va_up, RF]
    · by_cases h9 : j = 9
      · subst h9
        simp [am_setR, va_up, RF]
      · have e1 : (am_setR (am_setR h 0 8 (some t)) 0 9 (some s)).2 0 j = h.2 0 j := by simp [am_setR, va_up, h8, h9]
        rw [e1, hR 0 j ha hj]
        unfold RF
        rw [if_pos rfl, if_pos rfl]
        match j, h8, h9 with
        | 0, _, _ => rfl
        | 1, _, _ => rfl
        | 2, _, _ => rfl
        | 3, _, _ => rfl
        | 4, _, _ => rfl
        | 5, _, _ => rfl
        | 6, _, _ => rfl
        | 7, _, _ => rfl
        | 10, _, _ => rfl
        | 11, _, _ => rfl
        | j + 12, _, _ => rfl
  · have e1 : (am_setR (am_setR h 0 8 (some t)) 0 9 (some s)).2 a j = h.2 a j := by simp [am_setR, h0]
    rw [e1, hR a j ha hj]
    unfold RF
    rw [if_neg h0, if_neg h0]
theorem p_turn {mm m2 : List Nat} {pc pc2 : Nat} {fs fs2 : List Fm} (hs : SQ s) (ht : SQ t) (hst : s ≠ t) (hR : RX h s t u v) (h1 : SeX h s (mm, pc, fs)) (h2 : SeX h t (m2, pc2, fs2)) (l1 : mm.length ≤ 1000) (l2 : m2.length ≤ 1000) (b1 : By mm) (b2 : By m2) : ∃ h', fX8_turnToSpare GG 0 h = some ((), h') ∧ RX h' t s u v ∧ SeX h' t (sb mm m2, pc2, fs2) ∧ (∀ a, a ≠ t + 1 → h'.1 a = h.1 a) ∧ ∀ a, a ≠ 0 → h'.2 a = h.2 a := by
  obtain ⟨h3, e1, e2, e3⟩ := p_setBits (mm := mm) ht hR h2 l2 b2 rfl
  refine ⟨am_setR (am_setR h3 0 8 (some t)) 0 9 (some s), ?_, RX.swap (h := h3) (hR.eq e3.1) rfl, e2, fun a ha => e3.2 a (by simp [ha]), fun a ha => ?_⟩
  · unfold fX8_turnToSpare
    rw [hR.r0_8, Option.bind_some, hR.r0_9, Option.bind_some, p_bits hs hR h1 l1 b1]
    simp only [am_bind, Option.bind_some, e1, (hR.eq e3.1).r0_9, am_let]
  · rw [← e3.1]
    simp [am_setR, ha]
theorem q_bits {H : AH} (hR : RX H s t u v) {mm : List Nat} {pc : Nat} {fs : List Fm} (h9 : H.1 119 9 = nI mm.length) (hl : mm.length ≤ 1000) (hb : By mm) (hs : SeM (H.1 125) (mm, pc, fs)) : fX9_bits GG 119 H = some (nI (mm.getD 17 0 % 4), H) := by
  unfold fX9_bits
  rw [h9]
  by_cases hlt : 17 < mm.length
  · have := bit_3 ⟨mm.getD 17 0, getD_lt hb 17⟩
    simp only at this
    rw [if_neg (by rw [pb_le (by omega) (by omega)]; omega), hR.r119_10, Option.bind_some, ln_125, if_pos (pb_ok (by decide) (by decide)), pb_cl (by decide), hs.1 17 hlt, this]
  · rw [if_pos (by rw [pb_le (by omega) (by omega)]; omega), List.getD_eq_getElem?_getD, List.getElem?_eq_none (by omega)]
    rfl
theorem q_stay {H : AH} (hR : RX H s t u v) {mm m2 : List Nat} {pc : Nat} {fs : List Fm} (h9 : H.1 119 9 = nI m2.length) (hl : m2.length ≤ 1000) (hb : By m2) (hs : SeM (H.1 125) (m2, pc, fs)) : ∃ H1, fX9_stay GG 119 (nI (mm.getD 17 0 % 4)) H = some ((), H1) ∧ SeM (H1.1 125) (sb mm m2, pc, fs) ∧ Fr H H1 [125] := by
  unfold fX9_stay
  rw [h9]
  by_cases hlt : 17 < m2.length
  · have e1 := bit_252 ⟨m2.getD 17 0, getD_lt hb 17⟩
    have e3 := bits_or (getD_lt hb 17) (show mm.getD 17 0 % 4 < 4 by omega)
    simp only at e1
    rw [if_neg (by rw [pb_le (by omega) (by omega)]; omega), hR.r119_10, Option.bind_some, Option.bind_some, ln_125, if_pos (pb_ok (by decide) (by decide)), if_pos (pb_ok (by decide) (by decide)), pb_cl (by decide), hs.1 17 hlt, e1, e3]
    refine ⟨_, rfl, ?_, Fr.set (by simp)⟩
    rw [ps_s]
    exact hs.mem hl hlt
  · rw [if_pos (by rw [pb_le (by omega) (by omega)]; omega)]
    refine ⟨_, rfl, ?_, Fr.rf⟩
    unfold sb
    rw [List.set_eq_of_length_le (by omega)]
    exact hs
theorem WS.sb {ow mm m2 : List Nat} {pc : Nat} {fs : List Fm} (hw : WS ow (m2, pc, fs)) : WS ow (sb mm m2, pc, fs) := by
  obtain ⟨⟨w1, w2, w3⟩, w4, w5⟩ := hw
  exact ⟨⟨by rw [sb_len]; exact w1, sb_by w2, w3⟩, by simp only [sb_len]; exact w4, w5⟩
/-! rows other than the first keep their references -/
theorem CO.er {h h1 : AH} {ou : List Nat} {ch : List (Nat × Nat × Nat)} (hC : CO h ou ch) (hr : ∀ a, a ≠ 0 → h1.2 a = h.2 a) (he : ∀ a, 4 ≤ a ∧ a ≤ 9 → h1.1 a = h.1 a) : CO h1 ou ch := by
  obtain ⟨c1, c2, c3, c4⟩ := hC
  refine ⟨c1.eq (by rw [hr 5 (by decide)]) (he 5 (by omega)) (he 6 (by omega)), by rw [he 4 (by omega)]; exact c2, c3, fun i c hc => ?_⟩
  rw [he 7 (by omega), he 8 (by omega), he 9 (by omega)]
  exact c4 i c hc
theorem CD.er {h h1 : AH} {dk : Option (List Nat)} (hC : CD h dk) (hr : ∀ a, a ≠ 0 → h1.2 a = h.2 a) (he : ∀ a, 10 ≤ a ∧ a ≤ 11 → h1.1 a = h.1 a) : CD h1 dk := fun d hd => (hC d hd).eq (by rw [hr 10 (by decide)]) (he 10 (by omega)) (he 11 (by omega))
theorem CK.er {h h1 : AH} {kp : List Sn} {ow : List Nat} {bd : Nat} (hC : CK h kp ow bd) (hr : ∀ a, a ≠ 0 → h1.2 a = h.2 a) (he : ∀ a, 17 ≤ a ∧ a ≤ 22 → h1.1 a = h.1 a) : CK h1 kp ow bd := by
  obtain ⟨c1, c2, c3, c4⟩ := hC
  refine ⟨c1.eq (by rw [hr 18 (by decide)]) (he 18 (by omega)) (he 19 (by omega)), by rw [he 17 (by omega)]; exact c2, by rw [he 17 (by omega)]; exact c3, fun i s hs => ?_⟩
  rw [he 20 (by omega), he 21 (by omega), he 22 (by omega)]
  exact c4 i s hs
theorem CG.er {h h1 : AH} {u : Nat} {st : List (Nat × List Nat)} (hC : CG h u st) (hr : ∀ a, a ≠ 0 → h1.2 a = h.2 a) (he : ∀ a, u ≤ a ∧ a ≤ u + 4 → h1.1 a = h.1 a) : CG h1 u st := by
  obtain ⟨c1, c2, c3⟩ := hC
  refine ⟨c1.eq (by rw [hr (u + 1) (by omega)]) (he _ (by omega)) (he _ (by omega)), by rw [he u (by omega)]; exact c2, fun i x hx => ?_⟩
  rw [he (u + 3) (by omega), he (u + 4) (by omega)]
  exact c3 i x hx
/-- another session, and what may come with it -/
theorem inv_turn {h h2 : AH} {s t u v s' t' u' v' : Nat} {tp tp' ou : List Nat} {dk : Option (List Nat)} {ct : Option Nat} {hd ow : List Nat} {ss ss' : Sn} {kp kp' : List Sn} {bd : Nat} {st st' : List (Nat × List Nat)} {cd cd' : Nat} {pl pl' : Option Nat} {ch : List (Nat × Nat × Nat)} (hw : WF (tp, ou, dk, ct, hd, ow, ss, kp, bd, st, cd, pl, ch)) (hx : CX h s t u v (tp, ou, dk, ct, hd, ow, ss, kp, bd, st, cd, pl, ch)) (hm : MX h s t u v (tp, ou, dk, ct, hd, ow, ss, kp, bd, st, cd, pl, ch)) (ho : ow ≠ []) (hR' : RX h2 s' t' u' v') (side : SQ s' ∧ SQ t' ∧ s' ≠ t' ∧ TQ u' ∧ TQ v' ∧ u' ≠ v') (hr : ∀ a, a ≠ 0 → h2.2 a = h.2 a) (k : ∀ a, ((4 ≤ a ∧ a ≤ 11) ∨ (14 ≤ a ∧ a ≤ 16) ∨ (121 ≤ a ∧ a ≤ 124) ∨ (131 ≤ a ∧ a ≤ 133)) → h2.1 a = h.1 a) (kj : ∀ j, (j = 3 ∨ j = 5 ∨ j = 6 ∨ j = 9 ∨ j = 25) → h2.1 119 j = h.1 119 j) (kz : ∀ j, (j = 12 ∨ j = 13) → h2.1 0 j = h.1 0 j) (c1' : Byt h2 2 3 2000 tp') (c6' : CK h2 kp' ow bd) (c7' : SeX h2 s' ss') (c8' : CG h2 u' st') (z1 : h2.1 0 14 = nI cd') (z2 : h2.1 0 15 = rI pl') (m1' : MT h2 tp') (m6' : SeM (h2.1 125) ss') (m7' : MK h2 kp' ow bd) (m8' : MG h2 st') (m9' : MZ h2 cd' pl') (w1' : By tp') (w2' : WS ow ss') (w3' : ∀ s ∈ kp', WS ow s) (w4' : kp'.length ≤ 8 ∧ (kp'.flatMap (encS ow)).length ≤ bd) (w5' : st'.length ≤ 8 ∧ ∀ x ∈ st', x.1 < 4294967296 ∧ By x.2 ∧ x.2.length ≤ 200) (w6' : cd' ≤ 10 ∧ ∀ p, pl' = some p → p ≤ 2000) : Inv h2 := by
  obtain ⟨c0, c1, c2, c3, c4, c5, c6, c7, c8, c9⟩ := hx
  obtain ⟨m0, m1, m2, m3, m4, m5, m6, m7, m8, m9, m10⟩ := hm
  refine ⟨s', t', u', v', (tp', ou, dk, ct, hd, ow, ss', kp', bd, st', cd', pl', ch), ?_, ?_, ?_⟩
  · obtain ⟨w1, w2, w3, w4, w5, w6, w7, w8, w9, w10, w11⟩ := hw
    exact ⟨⟨w1', c1'.2.1⟩, w2, w3, w4, w5, w6, ⟨fun h => absurd h ho, fun _ => ⟨w2', w3'⟩⟩, ⟨w4'.1, w8.2.1, w4'.2⟩, w5', w6', w11⟩
  · refine ⟨hR', side, c1', c3.er hr (fun a ha => k a (by omega)), c4.er hr (fun a ha => k a (by omega)), c5.eq (fun a ha => k a (by omega)), c6', c7', c8', ?_⟩
    exact ⟨by rw [kz 12 (by omega)]; exact c9.1, by rw [kz 13 (by omega)]; exact c9.2.1, z1, z2⟩
  · have f : ∀ (A : List Nat), (∀ a ∈ A, (121 ≤ a ∧ a ≤ 124) ∨ (131 ≤ a ∧ a ≤ 133)) → ∀ a ∈ A, h2.1 a = h.1 a := fun A hA a ha => k a (by have := hA a ha; omega)
    have e : ∀ (J : List Nat), (∀ j ∈ J, j = 3 ∨ j = 5 ∨ j = 6 ∨ j = 9 ∨ j = 25) → ∀ j ∈ J, h2.1 119 j = h.1 119 j := fun J hJ j hj => kj j (hJ j hj)
    exact ⟨hR', m1', m2.eq (e _ (by decide)) (f _ (by decide)), m3.eq (e _ (by decide)) (f _ (by decide)), m4.eq (e _ (by decide)) (f _ (by decide)), m5.eq (e _ (by decide)) (f _ (by decide)), fun _ => m6', m7', m8', m9', m10.eq (e _ (by decide)) (f _ (by decide))⟩
theorem st_restart (hI : Inv h) : ∃ r h1 h2, fX8_restart GG 0 h = some (r, h1) ∧ fX9_restart GG 119 h1 = some (r, h2) ∧ Inv h2 := by
  obtain ⟨s, t, u, v, ⟨tp, ou, dk, ct, hd, ow, ⟨mm, pc, fs⟩, kp, bd, st, cd, pl, ch⟩, hw, hx, hm⟩ := id hI
  have hR := hx.1
  obtain ⟨hq, hqt, hst, hu, hv, huv⟩ := id hx.2.1
  have hS := hx.2.2.2.2.2.1
  have hse := hx.2.2.2.2.2.2.2.1
  have hl : ow.length ≤ 1000 := hw.2.2.2.2.2.1.2
  obtain ⟨m0, m1, m2, m3, m4, m5, m6, m7, m8, m9, m10⟩ := id hm
  have m9' : h.1 119 9 = nI ow.length := m5.1
  by_cases ho : ow = []
  · refine ⟨-4, h, h, ?_, ?_, hI⟩
    · unfold fX8_restart
      rw [p_noStory hR hS hl]
      simp only [am_bind, Option.bind_some, ho, if_true]
      rfl
    · unfold fX9_restart
      rw [m9', ho, if_pos (by rfl)]
  · have hp := len_pos ho
    have hne : ¬ nI ow.length = 0 := by rw [pb_eq0 (by omega)]; omega
    have hs' : s = 23 ∨ s = 66 := hq
    have ht' : t = 23 ∨ t = 66 := hqt
    have hu' : u = 109 ∨ u = 114 := hu
    have hg := (hw.2.2.2.2.2.2.1.2 ho).1
    obtain ⟨⟨w1, w2, w3, w4, w5⟩, hlen, ws0, r0, hfst⟩ := id hg
    simp only at hlen hfst
    have sm := m6 ho
    obtain ⟨h1, e1, e2, e3⟩ := p_sbegin (q := t) hqt hR hS hl
    have hse1 : SeX h1 s (mm, pc, fs) := hse.eq' hw.fr.1 (fun a ha => e2.2 a (by simp; omega))
    obtain ⟨h3, f1, f2, f3, f4, f5⟩ := p_turn hq hqt hst (hR.eq e2.1) hse1 e3 w1 hl w2 hw.2.2.2.2.2.1.1
    have k1 : ∀ a, a < 23 ∨ 108 < a → h3.1 a = h.1 a := fun a ha => by rw [f4 a (by omega), e2.2 a (by simp; omega)]
    have k1r : ∀ a, a ≠ 0 → h3.2 a = h.2 a := fun a ha => by rw [f5 a ha, e2.1]
    have hb := q_bits (H := h3) f2 (mm := mm) (pc := pc) (fs := fs) (by rw [k1 119 (by omega), hlen]; exact m9') w1 w2 (by rw [k1 125 (by omega)]; exact sm)
    have hbe := q_begin (H := h3) f2 (n := ow.length) (by rw [k1 119 (by omega)]; exact m9') hl
    have hsb := SeM.begin (H := h3) (ow := ow) (by rw [k1 124 (by omega)]; exact m5.2.2) hl
    generalize hG : am_setI (am_fill h3 125 0 2202 (fun k => if k < ow.length then h3.1 124 k else nI 0)) 125 1001 (nI 1) = G at hbe hsb
    have hFG : Fr h3 G [125] := by rw [← hG]; exact (Fr.fill (by simp)).tr (Fr.set (by simp))
    obtain ⟨H, g1, g2, g3⟩ := q_stay (H := G) (mm := mm) (f2.eq hFG.1) (m2 := ow) (by rw [hFG.2 119 (by decide), k1 119 (by omega)]; exact m9') hl hw.2.2.2.2.2.1.1 hsb
    have hFH := hFG.tr g3
    have k2 : ∀ a, a ≠ 125 → H.1 a = h3.1 a := fun a ha => hFH.2 a (by simp [ha])
    have k3 : ∀ a, (a < 23 ∨ 108 < a) → a ≠ 125 → H.1 a = h.1 a := fun a h1 h2 => by rw [k2 a h2, k1 a h1]
    have k3r : ∀ a, a ≠ 0 → H.2 a = h.2 a := fun a ha => by rw [hFH.1]; exact k1r a ha
    refine ⟨nI 1, h3, H, ?_, ?_, ?_⟩
    · unfold fX8_restart
      rw [p_noStory hR hS hl]
      simp only [am_bind, Option.bind_some, if_neg ho]
      rw [if_pos (by decide), hR.r0_9, Option.bind_some, hR.r0_6, Option.bind_some, e1, Option.bind_some]
      simp only [f1, Option.bind_some]
    · unfold fX9_restart
      rw [k1 119 (by omega), m9', if_neg hne, hb]
      simp only [am_bind, Option.bind_some, hbe, g1]
    · have f : ∀ (A : List Nat), (∀ a ∈ A, 108 < a ∧ a ≠ 125) → ∀ a ∈ A, H.1 a = h.1 a := fun A hA a ha => k3 a (Or.inr (hA a ha).1) (hA a ha).2
      have e : ∀ j, H.1 119 j = h.1 119 j := fun j => by rw [k3 119 (by omega) (by decide)]
      refine inv_turn (ss' := (sb mm ow, 0, [(0, some 0, 0, 0, [])])) (s' := t) (t' := s) (u' := u) (v' := v) hw hx hm ho (f2.eq hFH.1) ⟨hqt, hq, fun z => hst z.symm, hu, hv, huv⟩ k3r (fun a ha => k3 a (by omega) (by omega)) (fun j _ => e j) (fun j _ => by rw [k3 0 (by omega) (by decide)]) (hx.2.2.1.eq (by rw [k3r 2 (by decide)]) (k3 2 (by omega) (by decide)) (k3 3 (by omega) (by decide))) (hx.2.2.2.2.2.2.1.er k3r (fun a ha => k3 a (by omega) (by omega))) (f3.eq' (by simp) (fun a ha => k2 a (by omega))) (hx.2.2.2.2.2.2.2.2.1.er k3r (fun a ha => k3 a (by omega) (by omega))) (by rw [k3 0 (by omega) (by decide)]; exact hx.2.2.2.2.2.2.2.2.2.2.2.1) (by rw [k3 0 (by omega) (by decide)]; exact hx.2.2.2.2.2.2.2.2.2.2.2.2) (m1.eq (fun j _ => e j) (f _ (by decide))) g2 (m7.eq (fun j _ => e j) (f _ (by decide))) (m8.eq (fun j _ => e j) (f _ (by decide))) (m9.eq (fun j _ => e j) (f _ (by decide))) hw.1.1 (WS.begin hw.2.2.2.2.2.1.1 hl).sb (hw.2.2.2.2.2.2.1.2 ho).2 ⟨hw.2.2.2.2.2.2.2.1.1, hw.2.2.2.2.2.2.2.1.2.2⟩ hw.2.2.2.2.2.2.2.2.1 hw.2.2.2.2.2.2.2.2.2.1
end BEGIN
