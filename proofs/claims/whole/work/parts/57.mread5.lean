/-! ===== the model reads a file, whole ===== -/
section MREAD5
variable {h : AH} {s t u v : Nat}
def OkM (h : AH) (R : Sn × Sg2) : Prop := h.1 126 1000 = nI R.1.2.1 ∧ ML h R.1.1 ∧ DL h R.1.2.2 ∧ SLs h R.2
theorem q_494 {bs hd ow : List Nat} (hF : MFix h s t u v bs hd ow) : ∃ r h1, fX9_readFile_494 GG 119 h = some (r, h1) ∧ KR h h1 ∧ r = nI 0 ∧ EW h1 (10, bs.length) := by
  obtain ⟨h3, e1, e2, e3⟩ := q_wrong (h := h) (c := 10) (p := bs.length)
  refine ⟨nI 0, h3, ?_, e2, rfl, e3⟩
  unfold fX9_readFile_494
  rw [hF.n28, e1, am_bs, if_pos (by decide)]
theorem q_98 {bs hd ow : List Nat} (hb : By bs) (bo : By ow) (hl : ow.length ≤ 1000) (hhd : hd.length = 10) (bh : By hd) (hbl : bs.length ≤ 2000) : ∀ (m z a : Nat) (S : Rd) (h : AH), MFix h s t u v bs hd ow → IR ow S → MRd h S → bs.length ≤ a + 8 * m → a ≤ 2001 → m < z → ∃ r h1, fX9_readFile_98 GG z 119 (b2 S.1) (b2 S.2.1) (b2 S.2.2.1) (nI a) h = some (r, h1) ∧ KR h h1 ∧ match rdAll bs hd ow (m + 1) a S with
    | .ok R => r = nI 1 ∧ OkM h1 R ∧ W2 h h1
    | .error p => r = nI 0 ∧ EW h1 p
  | m, 0, a, S, h, _, _, _, _, _, hz => by omega
  | m, z + 1, a, S, h, hF, hI, hM, hm, ha, hz => by
    have hwr : ∀ c p, ∃ r h1, (am_bind (fX9_wrong GG 119 (nI c) (nI p) h) fun r h => some (r, h)) = some (r, h1) ∧ KR h h1 ∧ r = nI 0 ∧ EW h1 (c, p) := fun c p => by
      obtain ⟨h3, e1, e2, e3⟩ := q_wrong (h := h) (c := c) (p := p)
      exact ⟨nI 0, h3, by rw [e1, am_bs], e2, rfl, e3⟩
    rw [fX9_readFile_98, rdAll, hF.n28]
    by_cases hend : bs.length ≤ a
    · rw [if_pos hend, if_pos (by rw [pb_le (by omega) (by omega)]; exact hend)]
      by_cases hall : S.1 = true ∧ S.2.1 = true ∧ S.2.2.1 = true
      · rw [if_pos hall, if_neg (by rw [b2_0, hall.1]; decide), if_neg (by rw [b2_0, hall.2.1]; decide), if_neg (by rw [b2_0, hall.2.2]; decide)]
        obtain ⟨A, M, D, ss, st⟩ := S
        obtain ⟨m1, m2, m3, m4⟩ := hM
        exact ⟨nI 1, h, rfl, KR.rf, rfl, ⟨m1 hall.1, m2 hall.2.1, m3 hall.2.2, m4⟩, W2.of rfl⟩
      · rw [if_neg hall]
        have Q := q_494 hF
        by_cases f1 : S.1 = false
        · rw [if_pos (by rw [b2_0]; exact f1)]
          exact Q
        · rw [if_neg (by rw [b2_0]; exact f1)]
          by_cases f2 : S.2.1 = false
          · rw [if_pos (by rw [b2_0]; exact f2)]
            exact Q
          · rw [if_neg (by rw [b2_0]; exact f2), if_pos (by
              rw [b2_0]
              cases h3 : S.2.2.1 with
              | false => rfl
              | true => exact absurd ⟨by simpa using f1, by simpa using f2, h3⟩ hall)]
            exact Q
    · rw [if_neg hend, if_neg (by rw [pb_le (by omega) (by omega)]; exact hend), pb_sub (by omega)]
      by_cases h8 : bs.length < a + 8
      · rw [if_pos h8, if_neg (by rw [pb_le (by omega) (by omega)]; omega)]
        exact hwr 1 bs.length
      · rw [if_neg h8, if_pos (by rw [pb_le (by omega) (by omega)]; omega), q_numberAt hF.R hF.T hb hbl (by omega), am_bs, lN_i, am_let_eq, pb_add, q_numberAt hF.R hF.T hb hbl (by omega), am_bs, hF.n28, pb_sub (by omega), pb_sub (by omega)]
        have hnm := nb4_lt hb a
        have hnn := nb4_lt hb (a + 4)
        have Q226 := fun K n (hn : a + 8 + n ≤ bs.length) => q_226 K (n := n) hF hb bo hl hhd bh hbl hn hnm hI hM
        generalize nbA bs 4 (a + 4) 0 = n at hnn ⊢
        rw [lrem2 (by omega), lN_add, nI_l (by omega)]
        by_cases h9 : bs.length < a + 8 + n + n % 2
        · rw [if_pos h9, if_neg (show ¬ lg_cmp (lN (n + n % 2)) (lN (bs.length - a - 8)) ≤ 0 by rw [cmpLe (by omega) (by omega)]; omega)]
          exact hwr 1 bs.length
        · rw [if_neg h9, if_pos (show lg_cmp (lN (n + n % 2)) (lN (bs.length - a - 8)) ≤ 0 by rw [cmpLe (by omega) (by omega)]; omega), pb_add, am_let_eq, lN_i, pb_add, am_let_eq]
          have gp := getD_lt hb (a + 8 + n)
          by_cases h10 : n % 2 = 1 ∧ bs.getD (a + 8 + n) 0 ≠ 0
          · rw [if_pos h10, if_pos (show lg_cmp (lN (n % 2)) (1 : Int64) = 0 by rw [show (1 : Int64) = lN 1 from rfl, cmp0 (by omega) (by omega)]; exact h10.1), hF.R.r119_0, Option.bind_some, ln_120, if_pos (pb_ok (by omega) (by decide)), pb_cl (by omega), hF.T _ (by omega), if_neg (by rw [pb_eq0 (by omega)]; exact h10.2)]
            exact hwr 4 (a + 8 + n)
          · rw [if_neg h10]
            have Q := Q226 (fX9_readFile_98 GG z) n (by omega)
            have pass : (if lg_cmp (lN (n % 2)) (1 : Int64) = 0 then (h.2 119 0).bind fun b209 => if am_ok (nI (a + 8 + n)) (am_len GG b209) then (if h.1 b209 (nI (a + 8 + n)).toNatClampNeg = 0 then fX9_readFile_226 GG (fX9_readFile_98 GG z) 119 (b2 S.1) (b2 S.2.1) (b2 S.2.2.1) (nI a) (nI (nbA bs 4 a 0)) (lN n) (nI (a + 8)) (nI (a + 8 + n)) h else am_bind (fX9_wrong GG 119 (nI 4) (nI (a + 8 + n)) h) fun r222 h222 => some (r222, h222)) else none else fX9_readFile_226 GG (fX9_readFile_98 GG z) 119 (b2 S.1) (b2 S.2.1) (b2 S.2.2.1) (nI a) (nI (nbA bs 4 a 0)) (lN n) (nI (a + 8)) (nI (a + 8 + n)) h) = fX9_readFile_226 GG (fX9_readFile_98 GG z) 119 (b2 S.1) (b2 S.2.1) (b2 S.2.2.1) (nI a) (nI (nbA bs 4 a 0)) (lN n) (nI (a + 8)) (nI (a + 8 + n)) h := by
              by_cases ho : n % 2 = 1
              · have h0 : bs.getD (a + 8 + n) 0 = 0 := Decidable.byContradiction (fun z => h10 ⟨ho, z⟩)
                rw [if_pos (show lg_cmp (lN (n % 2)) (1 : Int64) = 0 by rw [show (1 : Int64) = lN 1 from rfl, cmp0 (by omega) (by omega)]; exact ho), hF.R.r119_0, Option.bind_some, ln_120, if_pos (pb_ok (by omega) (by decide)), pb_cl (by omega), hF.T _ (by omega), if_pos (by rw [pb_eq0 (by omega)]; exact h0)]
              · rw [if_neg (show ¬ lg_cmp (lN (n % 2)) (1 : Int64) = 0 by rw [show (1 : Int64) = lN 1 from rfl, cmp0 (by omega) (by omega)]; exact ho)]
            rw [pass]
            cases hrd : rdC bs hd ow a n (nbA bs 4 a 0) S with
            | error p =>
              rw [hrd] at Q
              obtain ⟨h1, e1, e2, e3⟩ := Q
              exact ⟨nI 0, h1, e1, e2, rfl, e3⟩
            | ok S' =>
              rw [hrd] at Q
              obtain ⟨G, e1, e2, e4, e3⟩ := Q
              have hI' := rdC_inv hb bo hnm (by omega) hI hrd
              obtain ⟨m', rfl⟩ : ∃ m', m = m' + 1 := ⟨m - 1, by omega⟩
              obtain ⟨r, h2, d1, d2, d3⟩ := q_98 hb bo hl hhd bh hbl m' z (a + 8 + n + n % 2) S' G (hF.kr e2) hI' e3 (by omega) (by omega) (by omega)
              refine ⟨r, h2, e1.trans d1, e2.tr d2, ?_⟩
              simp only
              cases hra : rdAll bs hd ow (m' + 1) (a + 8 + n + n % 2) S' with
              | error p => rw [hra] at d3; exact d3
              | ok R => rw [hra] at d3; exact ⟨d3.1, d3.2.1, e4.tr d3.2.2⟩
theorem q_readFile {bs hd ow : List Nat} (hF : MFix h s t u v bs hd ow) (hb : By bs) (bo : By ow) (hl : ow.length ≤ 1000) (hhd : hd.length = 10) (bh : By hd) (hbl : bs.length ≤ 2000) : ∃ r h1, fX9_readFile GG 119 h = some (r, h1) ∧ KR h h1 ∧ match rdFile bs hd ow with
    | .ok R => r = nI 1 ∧ OkM h1 R ∧ W2 h h1
    | .error p => r = nI 0 ∧ EW h1 p := by
  have hwr : ∀ c p, ∃ r h1, (am_bind (fX9_wrong GG 119 (nI c) (nI p) h) fun r h => some (r, h)) = some (r, h1) ∧ KR h h1 ∧ r = nI 0 ∧ EW h1 (c, p) := fun c p => by
    obtain ⟨h3, e1, e2, e3⟩ := q_wrong (h := h) (c := c) (p := p)
    exact ⟨nI 0, h3, by rw [e1, am_bs], e2, rfl, e3⟩
  have l0 := nb4_lt hb 0
  have l4 := nb4_lt hb 4
  have l8 := nb4_lt hb 8
  unfold fX9_readFile rdFile
  rw [hF.n28]
  by_cases h12 : bs.length < 12
  · rw [if_pos h12, if_neg (by rw [pb_le (by omega) (by omega)]; omega)]
    exact hwr 1 bs.length
  · rw [if_neg h12, if_pos (by rw [pb_le (by omega) (by omega)]; omega), q_numberAt hF.R hF.T hb hbl (by omega), am_bs]
    by_cases c0 : nbA bs 4 0 0 = 1179603533
    · rw [if_neg (show ¬ (nbA bs 4 0 0 ≠ 1179603533) from fun z => z c0), if_pos (show lg_cmp (lN (nbA bs 4 0 0)) (1179603533 : Int64) = 0 by rw [show (1179603533 : Int64) = lN 1179603533 from rfl, cmp0 (by omega) (by decide)]; exact c0), q_numberAt hF.R hF.T hb hbl (by omega), am_bs, hF.n28, pb_sub (by omega), nI_l (by omega)]
      by_cases c4 : nbA bs 4 4 0 = bs.length - 8
      · rw [if_neg (show ¬ (nbA bs 4 4 0 ≠ bs.length - 8) from fun z => z c4), if_pos (show lg_cmp (lN (nbA bs 4 4 0)) (lN (bs.length - 8)) = 0 by rw [cmp0 (by omega) (by omega)]; exact c4), q_numberAt hF.R hF.T hb hbl (by omega), am_bs]
        by_cases c8 : nbA bs 4 8 0 = 1229347411
        · rw [if_neg (show ¬ (nbA bs 4 8 0 ≠ 1229347411) from fun z => z c8), if_pos (show lg_cmp (lN (nbA bs 4 8 0)) (1229347411 : Int64) = 0 by rw [show (1229347411 : Int64) = lN 1229347411 from rfl, cmp0 (by omega) (by decide)]; exact c8), am_let_eq]
          have K1 : KR h (am_setI h 119 19 (nI 0)) := ⟨Fr.set (by simp), fun j p q r => by rw [ps_s, ps_un p]⟩
          have hI3 : IR ow (false, false, false, (ow, 0, [(0, some 0, 0, 0, [])]), []) := ⟨WS.begin bo hl, fun _ => rfl, by simp, fun x hx => by simp at hx⟩
          obtain ⟨r, h2, d1, d2, d3⟩ := q_98 (s := s) (t := t) (u := u) (v := v) hb bo hl hhd bh hbl 249 am_fuel 12 (false, false, false, (ow, 0, [(0, some 0, 0, 0, [])]), []) (am_setI h 119 19 (nI 0)) (hF.kr K1) hI3 ⟨(fun z => by cases z), (fun z => by cases z), (fun z => by cases z), by rw [ps_s, ps_us]; rfl, fun i x hx => by simp at hx⟩ (by omega) (by omega) (by unfold am_fuel; omega)
          refine ⟨r, h2, d1, K1.tr d2, ?_⟩
          have W1 : W2 h (am_setI h 119 19 (nI 0)) := ⟨by rw [ps_s, ps_un (by decide)], by rw [ps_s, ps_un (by decide)]⟩
          cases hra : rdAll bs hd ow 250 12 (false, false, false, (ow, 0, [(0, some 0, 0, 0, [])]), []) with
          | error p => rw [hra] at d3; exact d3
          | ok R => rw [hra] at d3; exact ⟨d3.1, d3.2.1, W1.tr d3.2.2⟩
        · rw [if_pos (show nbA bs 4 8 0 ≠ 1229347411 from c8), if_neg (show ¬ lg_cmp (lN (nbA bs 4 8 0)) (1229347411 : Int64) = 0 by rw [show (1229347411 : Int64) = lN 1229347411 from rfl, cmp0 (by omega) (by decide)]; exact c8)]
          exact hwr 2 8
      · rw [if_pos (show nbA bs 4 4 0 ≠ bs.length - 8 from c4), if_neg (show ¬ lg_cmp (lN (nbA bs 4 4 0)) (lN (bs.length - 8)) = 0 by rw [cmp0 (by omega) (by omega)]; exact c4)]
        exact hwr 3 4
    · rw [if_pos (show nbA bs 4 0 0 ≠ 1179603533 from c0), if_neg (show ¬ lg_cmp (lN (nbA bs 4 0 0)) (1179603533 : Int64) = 0 by rw [show (1179603533 : Int64) = lN 1179603533 from rfl, cmp0 (by omega) (by decide)]; exact c0)]
      exact hwr 2 0
end MREAD5
