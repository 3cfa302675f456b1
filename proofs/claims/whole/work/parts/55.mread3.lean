/-! ===== the model reads frames, whole ===== -/
section MREAD3
variable {h : AH} {s t u v : Nat}
def rdT (bs : List Nat) (e a : Nat) (o : Option Nat) : Ex Fm := match o with
    | some k => .error (8, a + k)
    | none => if 40 < nbA bs 2 (a + 6) 0 then .error (9, a + 6) else if e < a + 8 + 2 * (bs.getD (a + 3) 0 % 16 + nbA bs 2 (a + 6) 0) then .error (8, e) else .ok (frOf bs a)
theorem rdF_T {bs : List Nat} {e a : Nat} {first : Bool} : rdF bs e a first = if e < a + 8 then .error (8, e) else rdT bs e a (if first then bad6 bs a 6 0 else badL bs a) := rfl
def OutD (K : K11) (F : Option (Int32 × AH)) (h : AH) (e o a : Nat) (r : Ex Fm) : Prop := match r with
  | .error p => ∃ h1, F = some (nI 0, h1) ∧ KR h h1 ∧ EW h1 p
  | .ok fm => ∃ G, F = K 119 (nI e) (nI (a + 8 + 2 * fm.2.2.2.2.length)) G ∧ Fr h G [126] ∧ G.1 126 1001 = h.1 126 1001 + nI 1 ∧ (∀ k, k ≠ 1001 → (k < o ∨ o + 60 ≤ k) → G.1 126 k = h.1 126 k) ∧ FrM (G.1 126) o fm
theorem OutD.bad {K : K11} {F : Option (Int32 × AH)} {e o a c p : Nat} (hF : F = am_bind (fX9_wrong GG 119 (nI c) (nI p) h) fun r h => some (r, h)) : OutD K F h e o a (.error (c, p)) := by
  obtain ⟨h3, e1, e2, e3⟩ := q_wrong (h := h) (c := c) (p := p)
  exact ⟨h3, by rw [hF, e1, am_bs], e2, e3⟩
theorem q_143 (K : K11) {bs : List Nat} {e a o : Nat} (hR : RX h s t u v) (hT : Arr (h.1 120) bs) (hb : By bs) (hbl : bs.length ≤ 2000) (ha : a + 8 ≤ e) (he : e ≤ bs.length) (ho : 1002 ≤ o) (ho2 : o + 60 ≤ 2202) : OutD K (fX9_readD_143 GG K 119 (nI e) (nI a) (nI o) h) h e o a (rdT bs e a (badL bs a)) := by
  have g3 := getD_lt hb (a + 3)
  have g4 := getD_lt hb (a + 4)
  have g5 := getD_lt hb (a + 5)
  have S : fX9_readD_198 GG K 119 (nI e) (nI a) (nI o) (nI (bs.getD (a + 3) 0)) h = fX9_readD_201 GG K am_fuel 119 (nI e) (nI a) (nI o) (nI (bs.getD (a + 3) 0)) (nI 0) h := rfl
  have start : fX9_readD_143 GG K 119 (nI e) (nI a) (nI o) h = if nI (bs.getD (a + 3) 0) ≤ nI 31 then (if nI (bs.getD (a + 3) 0) ≤ nI 15 then fX9_readD_201 GG K am_fuel 119 (nI e) (nI a) (nI o) (nI (bs.getD (a + 3) 0)) (nI 0) h else if nI (bs.getD (a + 4) 0) = 0 then fX9_readD_201 GG K am_fuel 119 (nI e) (nI a) (nI o) (nI (bs.getD (a + 3) 0)) (nI 0) h else am_bind (fX9_wrong GG 119 (nI 8) (nI (a + 4)) h) fun r h => some (r, h)) else am_bind (fX9_wrong GG 119 (nI 8) (nI (a + 3)) h) fun r h => some (r, h) := by
    unfold fX9_readD_143
    rw [hR.r119_0, Option.bind_some, ln_120, pb_add, if_pos (pb_ok (by omega) (by decide)), pb_cl (by omega), hT (a + 3) (by omega), am_let_eq, Option.bind_some, ln_120, pb_add, if_pos (pb_ok (by omega) (by decide)), pb_cl (by omega), hT (a + 4) (by omega), S]
  by_cases c0 : 31 < bs.getD (a + 3) 0
  · have hbL : badL bs a = some 3 := by unfold badL; rw [if_pos c0]
    rw [hbL]
    refine OutD.bad ?_
    rw [start, if_neg (show ¬ nI (bs.getD (a + 3) 0) ≤ nI 31 by rw [pb_le (by omega) (by omega)]; omega)]
  · by_cases c1 : 16 ≤ bs.getD (a + 3) 0 ∧ bs.getD (a + 4) 0 ≠ 0
    · have hbL : badL bs a = some 4 := by unfold badL; rw [if_neg c0, if_pos c1]
      rw [hbL]
      refine OutD.bad ?_
      rw [start, if_pos (show nI (bs.getD (a + 3) 0) ≤ nI 31 by rw [pb_le (by omega) (by omega)]; omega), if_neg (show ¬ nI (bs.getD (a + 3) 0) ≤ nI 15 by rw [pb_le (by omega) (by omega)]; omega), if_neg (show ¬ nI (bs.getD (a + 4) 0) = 0 by rw [pb_eq0 (by omega)]; exact c1.2)]
    · have st2 : fX9_readD_143 GG K 119 (nI e) (nI a) (nI o) h = fX9_readD_201 GG K am_fuel 119 (nI e) (nI a) (nI o) (nI (bs.getD (a + 3) 0)) (nI 0) h := by
        rw [start, if_pos (show nI (bs.getD (a + 3) 0) ≤ nI 31 by rw [pb_le (by omega) (by omega)]; omega)]
        by_cases c2 : bs.getD (a + 3) 0 ≤ 15
        · rw [if_pos (show nI (bs.getD (a + 3) 0) ≤ nI 15 by rw [pb_le (by omega) (by omega)]; omega)]
        · rw [if_neg (show ¬ nI (bs.getD (a + 3) 0) ≤ nI 15 by rw [pb_le (by omega) (by omega)]; omega), if_pos (show nI (bs.getD (a + 4) 0) = 0 by rw [pb_eq0 (by omega)]; omega)]
      have hbL : badL bs a = if arOf (bs.getD (a + 5) 0) = none then some 5 else none := by unfold badL; rw [if_neg c0, if_neg c1]
      obtain ⟨j, j1, j2, j3⟩ := q_201 K (e := e) (o := o) (fl := bs.getD (a + 3) 0) hR hT hb hbl (show a + 8 ≤ bs.length by omega) 7 0 am_fuel (by omega) (by unfold am_fuel; omega) (fun k hk => by omega)
      have Q := q_231 K (ar := j) hR hT hb hbl ha he ho ho2 j1
      rw [st2, j2]
      by_cases c3 : 2 ^ j - 1 = bs.getD (a + 5) 0
      · have har : arOf (bs.getD (a + 5) 0) = some j := by rw [← c3]; exact arOf_pow j1
        rw [hbL, if_neg (by rw [har]; exact Option.some_ne_none j)]
        rw [if_pos c3] at Q
        unfold rdT
        show OutD K _ h e o a (if 40 < nbA bs 2 (a + 6) 0 then .error (9, a + 6) else if e < a + 8 + 2 * (bs.getD (a + 3) 0 % 16 + nbA bs 2 (a + 6) 0) then .error (8, e) else .ok (frOf bs a))
        by_cases c4 : 40 < nbA bs 2 (a + 6) 0
        · rw [if_pos c4] at Q ⊢
          exact Q
        · rw [if_neg c4] at Q ⊢
          by_cases c5 : e < a + 8 + 2 * (bs.getD (a + 3) 0 % 16 + nbA bs 2 (a + 6) 0)
          · rw [if_pos c5] at Q ⊢
            exact Q
          · rw [if_neg c5] at Q ⊢
            obtain ⟨G, G1, G2, G3, G4, G5⟩ := q_334 K (e := e) hR hT hb hbl (show a + 8 + 2 * (bs.getD (a + 3) 0 % 16 + nbA bs 2 (a + 6) 0) ≤ bs.length by omega) ho ho2 (by omega) har
            refine ⟨G, ?_, G2, G3, G4, G5⟩
            rw [Q, G1]
            unfold frOf
            rw [words_len]
      · rw [if_neg c3] at Q
        have har : arOf (bs.getD (a + 5) 0) = none := by
          rcases j3 with j3 | ⟨j3, j4⟩
          · exact absurd j3 c3
          · exact arOf_none (fun k hk => by
              by_cases hk7 : k = 7
              · subst hk7; rw [← j3]; exact c3
              · exact j4 k (by omega))
        rw [hbL, if_pos har]
        exact Q
theorem q_102 (K : K11) {bs : List Nat} {e a o : Nat} (hR : RX h s t u v) (hT : Arr (h.1 120) bs) (hb : By bs) (hbl : bs.length ≤ 2000) (ha : a + 8 ≤ e) (he : e ≤ bs.length) (ho : 1002 ≤ o) (ho2 : o + 60 ≤ 2202) : ∀ (n i z : Nat), i + n = 6 → n < z → (∀ k, k < i → bs.getD (a + k) 0 = 0) → OutD K (fX9_readD_102 GG K z 119 (nI e) (nI a) (nI o) (nI 1) (nI i) h) h e o a (rdT bs e a (bad6 bs a n i))
  | n, i, 0, _, hz, _ => by omega
  | 0, i, z + 1, hi, _, hk => by
    have hbL : badL bs a = none := by
      unfold badL
      rw [hk 3 (by omega), hk 5 (by omega)]
      rfl
    have Q := q_143 K hR hT hb hbl ha he ho ho2
    rw [hbL] at Q
    rw [fX9_readD_102, if_neg (by decide), if_pos (by rw [pb_le (by omega) (by omega)]; omega)]
    exact Q
  | n + 1, i, z + 1, hi, hz, hk => by
    have g := getD_lt hb (a + i)
    have hstep : fX9_readD_102 GG K (z + 1) 119 (nI e) (nI a) (nI o) (nI 1) (nI i) h = if nI (bs.getD (a + i) 0) = 0 then fX9_readD_102 GG K z 119 (nI e) (nI a) (nI o) (nI 1) (nI (i + 1)) h else am_bind (fX9_wrong GG 119 (nI 8) (nI (a + i)) h) fun r h => some (r, h) := by
      rw [fX9_readD_102, if_neg (by decide), if_neg (by rw [pb_le (by omega) (by omega)]; omega), hR.r119_0, Option.bind_some, ln_120, pb_add, if_pos (pb_ok (by omega) (by decide)), pb_cl (by omega), hT (a + i) (by omega), pb_add]
    rw [hstep, bad6]
    by_cases c : bs.getD (a + i) 0 = 0
    · rw [if_pos c, if_pos (show nI (bs.getD (a + i) 0) = 0 by rw [pb_eq0 (by omega)]; exact c)]
      exact q_102 K hR hT hb hbl ha he ho ho2 n (i + 1) z (by omega) (by omega) (fun k hk' => by
        by_cases hki : k = i
        · subst hki; exact c
        · exact hk k (by omega))
    · rw [if_neg c, if_neg (show ¬ nI (bs.getD (a + i) 0) = 0 by rw [pb_eq0 (by omega)]; exact c)]
      exact OutD.bad rfl
theorem q_27 (K : K11) {bs : List Nat} {e a : Nat} {fs : List Fm} (hR : RX h s t u v) (hT : Arr (h.1 120) bs) (hD : DL h fs) (hb : By bs) (hbl : bs.length ≤ 2000) (ha : a ≤ e) (he : e ≤ bs.length) (hl : fs.length < 20) : OutD K (fX9_readD_27 GG K 119 (nI e) (nI a) h) h e (1002 + 60 * fs.length) a (rdF bs e a fs.isEmpty) := by
  have start : fX9_readD_27 GG K 119 (nI e) (nI a) h = if nI 8 ≤ nI (e - a) then (if nI fs.length = 0 then fX9_readD_97 GG K 119 (nI e) (nI a) (nI (1002 + 60 * fs.length)) (nI 1) h else fX9_readD_97 GG K 119 (nI e) (nI a) (nI (1002 + 60 * fs.length)) (nI 0) h) else am_bind (fX9_wrong GG 119 (nI 8) (nI e) h) fun r h => some (r, h) := by
    unfold fX9_readD_27
    rw [hR.r119_11, Option.bind_some, ln_126, if_pos (pb_ok (by omega) (by decide)), pb_cl (by omega), hD.1, if_neg (by rw [pb_eq (by omega) (by omega)]; omega), pb_sub ha, Option.bind_some, ln_126, if_pos (pb_ok (by omega) (by decide)), hD.1, pb_mul, pb_add, Nat.mul_comm fs.length 60, am_let_eq, Option.bind_some, ln_126, if_pos (pb_ok (by omega) (by decide)), hD.1]
  rw [start, rdF_T]
  by_cases c0 : e < a + 8
  · rw [if_pos c0, if_neg (show ¬ nI 8 ≤ nI (e - a) by rw [pb_le (by omega) (by omega)]; omega)]
    exact OutD.bad rfl
  · rw [if_neg c0, if_pos (show nI 8 ≤ nI (e - a) by rw [pb_le (by omega) (by omega)]; omega)]
    by_cases c1 : fs.length = 0
    · rw [if_pos (show nI fs.length = 0 by rw [pb_eq0 (by omega)]; exact c1), List.isEmpty_iff.mpr (List.length_eq_zero_iff.mp c1), if_pos rfl]
      exact q_102 K hR hT hb hbl (by omega) he (by omega) (by omega) 6 0 am_fuel rfl (by unfold am_fuel; omega) (fun k hk => by omega)
    · have hne : fs.isEmpty = false := by
        cases fs with
        | nil => simp at c1
        | cons => rfl
      rw [if_neg (show ¬ nI fs.length = 0 by rw [pb_eq0 (by omega)]; exact c1), hne, if_neg (by decide)]
      have : fX9_readD_97 GG K 119 (nI e) (nI a) (nI (1002 + 60 * fs.length)) (nI 0) h = fX9_readD_143 GG K 119 (nI e) (nI a) (nI (1002 + 60 * fs.length)) h := by
        unfold fX9_readD_97
        rw [show am_fuel = 99999 + 1 from rfl, fX9_readD_102, if_pos (by decide)]
      rw [this]
      exact q_143 K hR hT hb hbl (by omega) he (by omega) (by omega)
theorem q_readD_loop {bs : List Nat} {e : Nat} (hb : By bs) (hbl : bs.length ≤ 2000) (he : e ≤ bs.length) : ∀ (n z a : Nat) (h : AH) (fs : List Fm), RX h s t u v → Arr (h.1 120) bs → DL h fs → (∀ f ∈ fs, f.2.2.2.2.length ≤ 55) → n + fs.length = 20 → n < z → a ≤ e → ∃ r h1, fX9_readD_11 GG z 119 (nI e) (nI a) h = some (r, h1) ∧ KR h h1 ∧ match rdD bs e n a fs with
    | .ok fs' => r = nI 1 ∧ DL h1 fs' ∧ KD h h1
    | .error p => r = nI 0 ∧ EW h1 p
  | n, 0, a, h, fs, _, _, _, _, _, hz, _ => by omega
  | 0, z + 1, a, h, fs, hR, hT, hD, hW, hn, hz, ha => by
    rw [fX9_readD_11, rdD]
    by_cases c : e ≤ a
    · rw [if_pos c, if_neg (by rw [pb_ltI (by omega) (by omega)]; omega), hR.r119_11, Option.bind_some, ln_126, if_pos (pb_ok (by omega) (by decide)), pb_cl (by omega), hD.1, if_neg (by rw [pb_eq0 (by omega)]; omega)]
      exact ⟨nI 1, h, rfl, KR.rf, rfl, hD, KD.rf⟩
    · rw [if_neg c, if_pos (by rw [pb_ltI (by omega) (by omega)]; omega)]
      unfold fX9_readD_27
      rw [hR.r119_11, Option.bind_some, ln_126, if_pos (pb_ok (by omega) (by decide)), pb_cl (by omega), hD.1, if_pos (by rw [show fs.length = 20 by omega])]
      obtain ⟨h3, e1, e2, e3⟩ := q_wrong (h := h) (c := 9) (p := a)
      rw [e1, am_bs]
      exact ⟨_, h3, rfl, e2, rfl, e3⟩
  | n + 1, z + 1, a, h, fs, hR, hT, hD, hW, hn, hz, ha => by
    have Q := q_27 (fX9_readD_11 GG z) hR hT hD hb hbl ha he (by omega)
    rw [rdD]
    by_cases c : fs ≠ [] ∧ e ≤ a
    · have hl : fs.length ≠ 0 := fun z => c.1 (List.length_eq_zero_iff.mp z)
      rw [if_pos c, fX9_readD_11, if_neg (by rw [pb_ltI (by omega) (by omega)]; omega), hR.r119_11, Option.bind_some, ln_126, if_pos (pb_ok (by omega) (by decide)), pb_cl (by omega), hD.1, if_neg (by rw [pb_eq0 (by omega)]; omega)]
      exact ⟨nI 1, h, rfl, KR.rf, rfl, hD, KD.rf⟩
    · have start : fX9_readD_11 GG (z + 1) 119 (nI e) (nI a) h = fX9_readD_27 GG (fX9_readD_11 GG z) 119 (nI e) (nI a) h := by
        rw [fX9_readD_11]
        by_cases c2 : a < e
        · rw [if_pos (by rw [pb_ltI (by omega) (by omega)]; omega)]
        · have hl : fs = [] := Decidable.byContradiction (fun z => c ⟨z, by omega⟩)
          rw [if_neg (by rw [pb_ltI (by omega) (by omega)]; omega), hR.r119_11, Option.bind_some, ln_126, if_pos (pb_ok (by omega) (by decide)), pb_cl (by omega), hD.1, if_pos (by rw [hl]; rfl)]
      rw [if_neg c, start]
      cases hr : rdF bs e a fs.isEmpty with
      | error p =>
        rw [hr] at Q
        obtain ⟨h1, e1, e2, e3⟩ := Q
        exact ⟨_, h1, e1, e2, rfl, e3⟩
      | ok fm =>
        rw [hr] at Q
        obtain ⟨G, G1, G2, G3, G4, G5⟩ := Q
        have ok := rdF_ok hr
        have hlen : a + 8 + 2 * fm.2.2.2.2.length ≤ e := by
          rw [ok.2.2.2.2]
          unfold frOf
          rw [words_len]
          exact ok.2.2.2.1
        have KG : KD h G := ⟨⟨G2.mo (by simp), fun j _ _ _ => by rw [G2.2 119 (by decide)]⟩, G2.2 130 (by decide), by rw [G2.2 119 (by decide)], fun k hk => G4 k (by omega) (by omega)⟩
        have hDG : DL G (fs ++ [fm]) := by
          refine ⟨by rw [G3, hD.1, pb_add, List.length_append]; rfl, fun i f hi => ?_⟩
          by_cases hil : i < fs.length
          · rw [List.getElem?_append_left hil] at hi
            exact (hD.2 i f hi).eq (hW f (List.mem_of_getElem? hi)) (fun k h1 h2 => G4 k (by omega) (by omega))
          · rw [List.getElem?_append_right (by omega)] at hi
            have hi0 : i - fs.length = 0 := by
              have := (List.getElem?_eq_some_iff.mp hi).1
              simp at this
              omega
            rw [hi0] at hi
            cases hi
            rw [show i = fs.length by omega]
            exact G5
        obtain ⟨r, h1, e1, e2, e3⟩ := q_readD_loop hb hbl he n z (a + 8 + 2 * fm.2.2.2.2.length) G (fs ++ [fm]) (hR.eq G2.1) (by rw [G2.2 120 (by decide)]; exact hT) hDG (fun f hf => by
          rcases List.mem_append.mp hf with hf | hf
          · exact hW f hf
          · cases List.mem_singleton.mp hf
            rw [ok.2.2.2.2]
            unfold frOf
            rw [words_len]
            have := ok.2.2.1
            omega) (by simp; omega) (by omega) hlen
        refine ⟨r, h1, G1.trans e1, KG.1.tr e2, ?_⟩
        show match rdD bs e n (a + 8 + 2 * fm.2.2.2.2.length) (fs ++ [fm]) with | .ok fs' => r = nI 1 ∧ DL h1 fs' ∧ KD h h1 | .error p => r = nI 0 ∧ EW h1 p
        cases hrd : rdD bs e n (a + 8 + 2 * fm.2.2.2.2.length) (fs ++ [fm]) with
        | error p => rw [hrd] at e3; exact e3
        | ok m' => rw [hrd] at e3; exact ⟨e3.1, e3.2.1, KG.tr e3.2.2⟩
theorem q_readD {bs : List Nat} {e a : Nat} (hb : By bs) (hbl : bs.length ≤ 2000) (he : e ≤ bs.length) (hR : RX h s t u v) (hT : Arr (h.1 120) bs) (ha : a ≤ e) : ∃ r h1, fX9_readD GG 119 (nI a) (nI e) h = some (r, h1) ∧ KR h h1 ∧ match rdD bs e 20 a [] with
    | .ok fs' => r = nI 1 ∧ DL h1 fs' ∧ KD h h1
    | .error p => r = nI 0 ∧ EW h1 p := by
  have K1 : KD h (am_setI h 126 1001 (nI 0)) := ⟨⟨Fr.set (by simp), fun j _ _ _ => by rw [ps_n (by decide)]⟩, ps_n (by decide), by rw [ps_n (by decide)], fun k hk => by rw [ps_s, ps_un (by omega)]⟩
  obtain ⟨r, h1, e1, e2, e3⟩ := q_readD_loop (s := s) (t := t) (u := u) (v := v) hb hbl he 20 am_fuel a (am_setI h 126 1001 (nI 0)) [] (hR.eq rfl) (by rw [ps_n (by decide)]; exact hT) ⟨by rw [ps_s, ps_us]; rfl, fun i f hi => by simp at hi⟩ (fun f hf => by cases hf) rfl (by unfold am_fuel; omega) ha
  refine ⟨r, h1, ?_, K1.1.tr e2, ?_⟩
  · unfold fX9_readD
    rw [hR.r119_11, Option.bind_some, ln_126, if_pos (pb_ok (by omega) (by decide)), pb_cl (by omega), am_let_eq]
    exact e1
  · cases hrd : rdD bs e 20 a [] with
    | error p => rw [hrd] at e3; exact e3
    | ok m' => rw [hrd] at e3; exact ⟨e3.1, e3.2.1, K1.tr e3.2.2⟩
end MREAD3
