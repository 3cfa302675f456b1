/-! ===== the model reads frames ===== -/
section MREAD2
variable {h : AH} {s t u v : Nat}
abbrev K11 : Type := Nat → Int32 → Int32 → AH → Option (Int32 × AH)
theorem q_463 {H : AH} (K : K11) {bs : List Nat} {e a o w : Nat} (hR : RX H s t u v) (hT : Arr (H.1 120) bs) (hb : By bs) (hbl : bs.length ≤ 2000) (ha : a + 8 + 2 * w ≤ bs.length) (ho : 1002 ≤ o) (ho2 : o + 60 ≤ 2202) (hw : w ≤ 55) (M : AH) (hM : M = am_fill H 126 (o + 5) w (fun k => nI (nbA bs 2 (a + 8 + 2 * k) 0))) : fX9_readD_463 GG K am_fuel 119 (nI e) (nI a) (nI o) (nI w) (nI 0) H = K 119 (nI e) (nI (a + (8 + 2 * w))) (am_setI M 126 1001 (M.1 126 1001 + nI 1)) := by
  subst hM
  refine fill_loop0 (fun z k h => fX9_readD_463 GG K z 119 (nI e) (nI a) (nI o) (nI w) (nI k) h) (fun h => K 119 (nI e) (nI (a + (8 + 2 * w))) (am_setI h 126 1001 (h.1 126 1001 + nI 1))) (fun h => RX h s t u v ∧ h.1 120 = H.1 120) 126 (o + 5) w (fun k => nI (nbA bs 2 (a + 8 + 2 * k) 0)) ?_ (fun h j w hP => ⟨hP.1, by rw [ps_n (by decide)]; exact hP.2⟩) ?_ H ⟨hR, rfl⟩ (by omega)
  · intro z k h hP hk
    have g0 := getD_lt hb (a + 8 + 2 * k)
    have g1 := getD_lt hb (a + 9 + 2 * k)
    have hv : am_shl (H.1 120 (a + 8 + 2 * k)) (nI 8) ||| H.1 120 (a + 9 + 2 * k) = nI (nbA bs 2 (a + 8 + 2 * k) 0) := by
      rw [hT (a + 8 + 2 * k) (by omega), hT (a + 9 + 2 * k) (by omega), shl2v g0 g1, nb2_eq, show a + 8 + 2 * k + 1 = a + 9 + 2 * k by omega]
    simp (disch := omega) only [fX9_readD_463, pb_le, if_neg, hP.1.r119_11, hP.1.r119_0, hP.2, Option.bind_some, pb_mul, pb_add, ln_120, ln_126, pb_ok, if_true, pb_cl, am_let, if_false, hv]
  · intro z h hP
    simp (disch := omega) only [fX9_readD_463, pb_le, if_pos, hP.1.r119_11, Option.bind_some, pb_mul, pb_add, ln_126, pb_ok, if_true, pb_cl, am_let]
theorem q_334 {H : AH} (K : K11) {bs : List Nat} {e a o ar : Nat} (hR : RX H s t u v) (hT : Arr (H.1 120) bs) (hb : By bs) (hbl : bs.length ≤ 2000) (ha : a + 8 + 2 * (bs.getD (a + 3) 0 % 16 + nbA bs 2 (a + 6) 0) ≤ bs.length) (ho : 1002 ≤ o) (ho2 : o + 60 ≤ 2202) (hd : nbA bs 2 (a + 6) 0 ≤ 40) (har : arOf (bs.getD (a + 5) 0) = some ar) : ∃ G, fX9_readD_334 GG K am_fuel 119 (nI e) (nI a) (nI o) (nI (bs.getD (a + 3) 0)) (nI ar) (nI (nbA bs 2 (a + 6) 0)) (nI (bs.getD (a + 3) 0 % 16 + nbA bs 2 (a + 6) 0)) (nI 0) H = K 119 (nI e) (nI (a + 8 + 2 * (bs.getD (a + 3) 0 % 16 + nbA bs 2 (a + 6) 0))) G ∧ Fr H G [126] ∧ G.1 126 1001 = H.1 126 1001 + nI 1 ∧ (∀ k, k ≠ 1001 → (k < o ∨ o + 60 ≤ k) → G.1 126 k = H.1 126 k) ∧ FrM (G.1 126) o (frOf bs a) := by
  have g0 := getD_lt hb a
  have g1 := getD_lt hb (a + 1)
  have g2 := getD_lt hb (a + 2)
  have g3 := getD_lt hb (a + 3)
  have g4 := getD_lt hb (a + 4)
  have h15 := and15 ⟨bs.getD (a + 3) 0, g3⟩
  simp only at h15
  have A := fill_loop0 (fun z k h => fX9_readD_334 GG K z 119 (nI e) (nI a) (nI o) (nI (bs.getD (a + 3) 0)) (nI ar) (nI (nbA bs 2 (a + 6) 0)) (nI (bs.getD (a + 3) 0 % 16 + nbA bs 2 (a + 6) 0)) (nI k) h) (fun h => fX9_readD_334 GG K 1 119 (nI e) (nI a) (nI o) (nI (bs.getD (a + 3) 0)) (nI ar) (nI (nbA bs 2 (a + 6) 0)) (nI (bs.getD (a + 3) 0 % 16 + nbA bs 2 (a + 6) 0)) (nI 60) h) (fun h => RX h s t u v) 126 o 60 (fun _ => nI 0) (by
    intro z k h hP hk
    simp (disch := omega) only [fX9_readD_334, pb_le, if_neg, hP.r119_11, Option.bind_some, pb_add, ln_126, pb_ok, if_true, pb_cl, am_let, if_false]) (fun h j w hP => hP) (by
    intro z h hP
    rw [fX9_readD_334, fX9_readD_334, if_pos (by decide), if_pos (by decide)]) H hR (by decide)
  generalize hM : am_fill H 126 o 60 (fun _ => nI 0) = M at A
  have hRM : RX M s t u v := by rw [← hM]; exact hR.eq rfl
  have m120 : M.1 120 = H.1 120 := by rw [← hM, pf_n (by decide)]
  generalize hre : (if bs.getD (a + 3) 0 < 16 then some (bs.getD (a + 4) 0) else none) = re
  generalize hM1 : am_setI M 126 o (nI (nbA bs 3 a 0)) = M1
  generalize hM2 : am_setI M1 126 (o + 1) (rI re) = M2
  generalize hM3 : am_setI M2 126 (o + 2) (nI ar) = M3
  generalize hM4 : am_setI M3 126 (o + 3) (nI (bs.getD (a + 3) 0 % 16)) = M4
  generalize hM5 : am_setI M4 126 (o + 4) (nI (nbA bs 2 (a + 6) 0)) = M5
  have hR1 : RX M1 s t u v := by rw [← hM1]; exact hRM.eq rfl
  have hR2 : RX M2 s t u v := by rw [← hM2]; exact hR1.eq rfl
  have hR3 : RX M3 s t u v := by rw [← hM3]; exact hR2.eq rfl
  have hR4 : RX M4 s t u v := by rw [← hM4]; exact hR3.eq rfl
  have hR5 : RX M5 s t u v := by rw [← hM5]; exact hR4.eq rfl
  have m1120 : M1.1 120 = H.1 120 := by rw [← hM1, ps_n (by decide), m120]
  have m5120 : M5.1 120 = H.1 120 := by rw [← hM5, ps_n (by decide), ← hM4, ps_n (by decide), ← hM3, ps_n (by decide), ← hM2, ps_n (by decide), m1120]
  have B := q_463 (H := M5) K (e := e) (a := a) (o := o) (w := bs.getD (a + 3) 0 % 16 + nbA bs 2 (a + 6) 0) hR5 (by rw [m5120]; exact hT) hb hbl ha ho ho2 (by omega) _ rfl
  have c423 : fX9_readD_423 GG K 119 (nI e) (nI a) (nI o) (nI (bs.getD (a + 3) 0)) (nI ar) (nI (nbA bs 2 (a + 6) 0)) (nI (bs.getD (a + 3) 0 % 16 + nbA bs 2 (a + 6) 0)) 126 (nI (o + 1)) (rI re) M1 = fX9_readD_463 GG K am_fuel 119 (nI e) (nI a) (nI o) (nI (bs.getD (a + 3) 0 % 16 + nbA bs 2 (a + 6) 0)) (nI 0) M5 := by
    unfold fX9_readD_423
    rw [ln_126, if_pos (pb_ok (by omega) (by decide)), pb_cl (by omega), am_let_eq, hM2, hR2.r119_11, Option.bind_some, ln_126, pb_add, if_pos (pb_ok (by omega) (by decide)), pb_cl (by omega), am_let_eq, hM3, hR3.r119_11, Option.bind_some, ln_126, pb_add, if_pos (pb_ok (by omega) (by decide)), pb_cl (by omega), h15, am_let_eq, hM4, hR4.r119_11, Option.bind_some, ln_126, pb_add, if_pos (pb_ok (by omega) (by decide)), pb_cl (by omega), am_let_eq, hM5]
  generalize hM6 : am_fill M5 126 (o + 5) (bs.getD (a + 3) 0 % 16 + nbA bs 2 (a + 6) 0) (fun k => nI (nbA bs 2 (a + 8 + 2 * k) 0)) = M6 at B
  have lo : ∀ k, (k < o ∨ o + 60 ≤ k) → M6.1 126 k = H.1 126 k := fun k hk => by
    rw [← hM6, pf_out (by omega), ← hM5, ps_s, ps_un (by omega), ← hM4, ps_s, ps_un (by omega), ← hM3, ps_s, ps_un (by omega), ← hM2, ps_s, ps_un (by omega), ← hM1, ps_s, ps_un (by omega), ← hM, pf_out (by omega)]
  have hF : Fr H (am_setI M6 126 1001 (M6.1 126 1001 + nI 1)) [126] := by
    rw [← hM6, ← hM5, ← hM4, ← hM3, ← hM2, ← hM1, ← hM]
    exact (((((((Fr.fill (by simp)).tr (Fr.set (by simp))).tr (Fr.set (by simp))).tr (Fr.set (by simp))).tr (Fr.set (by simp))).tr (Fr.set (by simp))).tr (Fr.fill (by simp))).tr (Fr.set (by simp))
  refine ⟨am_setI M6 126 1001 (M6.1 126 1001 + nI 1), ?_, hF, ?_, ?_, ?_⟩
  · refine Eq.trans A ?_
    rw [fX9_readD_334, if_pos (by decide), hRM.r119_11, Option.bind_some, hRM.r119_0, Option.bind_some, ln_120, if_pos (pb_ok (by omega) (by decide)), Option.bind_some, ln_120, pb_add, if_pos (pb_ok (by omega) (by decide)), Option.bind_some, ln_120, pb_add, if_pos (pb_ok (by omega) (by decide)), ln_126, if_pos (pb_ok (by omega) (by decide)), pb_cl (by omega), pb_cl (by omega), pb_cl (by omega), pb_cl (by omega), m120, hT a (by omega), hT (a + 1) (by omega), hT (a + 2) (by omega), shl3v g0 g1 g2, ← nb3_eq, am_let_eq, hM1, hR1.r119_11, Option.bind_some]
    have B' : fX9_readD_463 GG K am_fuel 119 (nI e) (nI a) (nI o) (nI (bs.getD (a + 3) 0 % 16 + nbA bs 2 (a + 6) 0)) (nI 0) M5 = K 119 (nI e) (nI (a + 8 + 2 * (bs.getD (a + 3) 0 % 16 + nbA bs 2 (a + 6) 0))) (am_setI M6 126 1001 (M6.1 126 1001 + nI 1)) := by
      rw [B, show a + (8 + 2 * (bs.getD (a + 3) 0 % 16 + nbA bs 2 (a + 6) 0)) = a + 8 + 2 * (bs.getD (a + 3) 0 % 16 + nbA bs 2 (a + 6) 0) by omega]
    by_cases c : bs.getD (a + 3) 0 < 16
    · have hrI : rI re = nI (bs.getD (a + 4) 0) := by rw [← hre, if_pos c]; rfl
      rw [if_pos (by rw [pb_le (by omega) (by omega)]; omega), hR1.r119_0, Option.bind_some, ln_120, pb_add, if_pos (pb_ok (by omega) (by decide)), pb_cl (by omega), m1120, hT (a + 4) (by omega), pb_add, ← hrI, c423]
      exact B'
    · have hrI : rI re = (-2 : Int32) := by rw [← hre, if_neg c]; rfl
      rw [if_neg (by rw [pb_le (by omega) (by omega)]; omega), pb_add, ← hrI, c423]
      exact B'
  · rw [ps_s, ps_us, lo 1001 (by omega)]
  · intro k h1 h2
    rw [ps_s, ps_un h1, lo k h2]
  · unfold frOf
    rw [hre, har]
    refine ⟨?_, ?_, ?_, ?_, ?_, fun k hk => ?_⟩
    · rw [ps_s, ps_un (by omega), ← hM6, pf_out (by omega), ← hM5, ps_s, ps_un (by omega), ← hM4, ps_s, ps_un (by omega), ← hM3, ps_s, ps_un (by omega), ← hM2, ps_s, ps_un (by omega), ← hM1, ps_s, ps_us]
    · rw [ps_s, ps_un (by omega), ← hM6, pf_out (by omega), ← hM5, ps_s, ps_un (by omega), ← hM4, ps_s, ps_un (by omega), ← hM3, ps_s, ps_un (by omega), ← hM2, ps_s, ps_us]
    · rw [ps_s, ps_un (by omega), ← hM6, pf_out (by omega), ← hM5, ps_s, ps_un (by omega), ← hM4, ps_s, ps_un (by omega), ← hM3, ps_s, ps_us]
      rfl
    · rw [ps_s, ps_un (by omega), ← hM6, pf_out (by omega), ← hM5, ps_s, ps_un (by omega), ← hM4, ps_s, ps_us]
    · rw [ps_s, ps_un (by omega), ← hM6, pf_out (by omega), ← hM5, ps_s, ps_us, words_len]
      congr 1
      omega
    · rw [words_len] at hk
      rw [ps_s, ps_un (by omega), ← hM6, pf_in (by omega) (by omega), words_get hk, show o + 5 + k - (o + 5) = k by omega]
theorem q_201 (K : K11) {bs : List Nat} {e a o fl : Nat} (hR : RX h s t u v) (hT : Arr (h.1 120) bs) (hb : By bs) (hbl : bs.length ≤ 2000) (ha : a + 8 ≤ bs.length) : ∀ (n i z : Nat), i + n = 7 → n < z → (∀ k, k < i → 2 ^ k - 1 ≠ bs.getD (a + 5) 0) → ∃ j, j ≤ 7 ∧ fX9_readD_201 GG K z 119 (nI e) (nI a) (nI o) (nI fl) (nI i) h = fX9_readD_231 GG K 119 (nI e) (nI a) (nI o) (nI fl) (nI j) h ∧ (2 ^ j - 1 = bs.getD (a + 5) 0 ∨ (j = 7 ∧ ∀ k, k < 7 → 2 ^ k - 1 ≠ bs.getD (a + 5) 0))
  | n, i, 0, _, hz, _ => by omega
  | 0, i, z + 1, hi, _, hk => by
    refine ⟨i, by omega, ?_, Or.inr ⟨by omega, fun k hk' => hk k (by omega)⟩⟩
    rw [fX9_readD_201, if_pos (by rw [pb_le (by omega) (by omega)]; omega)]
  | n + 1, i, z + 1, hi, hz, hk => by
    have g5 := getD_lt hb (a + 5)
    have hp : 2 ^ i ≤ 2 ^ 7 := Nat.pow_le_pow_right (by decide) (by omega)
    have hstep : fX9_readD_201 GG K (z + 1) 119 (nI e) (nI a) (nI o) (nI fl) (nI i) h = if nI (2 ^ i - 1) = nI (bs.getD (a + 5) 0) then fX9_readD_231 GG K 119 (nI e) (nI a) (nI o) (nI fl) (nI i) h else fX9_readD_201 GG K z 119 (nI e) (nI a) (nI o) (nI fl) (nI (i + 1)) h := by
      rw [fX9_readD_201, if_neg (by rw [pb_le (by omega) (by omega)]; omega), hR.r119_0, Option.bind_some, ln_120, pb_add, if_pos (pb_ok (by omega) (by decide)), pb_cl (by omega), hT (a + 5) (by omega), shl1 (by omega), pb_add]
    by_cases c : 2 ^ i - 1 = bs.getD (a + 5) 0
    · exact ⟨i, by omega, by rw [hstep, if_pos (by rw [c])], Or.inl c⟩
    · obtain ⟨j, j1, j2, j3⟩ := q_201 K (e := e) (o := o) (fl := fl) hR hT hb hbl ha n (i + 1) z (by omega) (by omega) (fun k hk' => by
        by_cases hki : k = i
        · subst hki; exact c
        · exact hk k (by omega))
      refine ⟨j, j1, ?_, j3⟩
      rw [hstep, if_neg (by rw [pb_eq (by omega) (by omega)]; exact c)]
      exact j2
theorem arOf_none {m : Nat} (hm : ∀ k, k ≤ 7 → 2 ^ k - 1 ≠ m) : arOf m = none := by
  have h0 : ¬ m = 0 := fun z => hm 0 (by omega) z.symm
  have h1 : ¬ m = 1 := fun z => hm 1 (by omega) z.symm
  have h2 : ¬ m = 3 := fun z => hm 2 (by omega) z.symm
  have h3 : ¬ m = 7 := fun z => hm 3 (by omega) z.symm
  have h4 : ¬ m = 15 := fun z => hm 4 (by omega) z.symm
  have h5 : ¬ m = 31 := fun z => hm 5 (by omega) z.symm
  have h6 : ¬ m = 63 := fun z => hm 6 (by omega) z.symm
  have h7 : ¬ m = 127 := fun z => hm 7 (by omega) z.symm
  unfold arOf
  rw [if_neg h0, if_neg h1, if_neg h2, if_neg h3, if_neg h4, if_neg h5, if_neg h6, if_neg h7]
/-- what the model's frames change -/
def KD (h h1 : AH) : Prop := KR h h1 ∧ h1.1 130 = h.1 130 ∧ h1.1 119 = h.1 119 ∧ ∀ k, k < 1001 → h1.1 126 k = h.1 126 k
theorem KD.rf {h : AH} : KD h h := ⟨KR.rf, rfl, rfl, fun _ _ => rfl⟩
theorem KD.tr {h h1 h2 : AH} (a : KD h h1) (b : KD h1 h2) : KD h h2 := ⟨a.1.tr b.1, b.2.1.trans a.2.1, b.2.2.1.trans a.2.2.1, fun k hk => (b.2.2.2 k hk).trans (a.2.2.2 k hk)⟩
def DL (h : AH) (fs : List Fm) : Prop := h.1 126 1001 = nI fs.length ∧ ∀ (i : Nat) (fm : Fm), fs[i]? = some fm → FrM (h.1 126) (1002 + 60 * i) fm
/-- from the marks on -/
theorem q_231 (K : K11) {bs : List Nat} {e a o ar : Nat} (hR : RX h s t u v) (hT : Arr (h.1 120) bs) (hb : By bs) (hbl : bs.length ≤ 2000) (ha : a + 8 ≤ e) (he : e ≤ bs.length) (ho : 1002 ≤ o) (ho2 : o + 60 ≤ 2202) (har7 : ar ≤ 7) : if 2 ^ ar - 1 = bs.getD (a + 5) 0 then (if 40 < nbA bs 2 (a + 6) 0 then ∃ h1, fX9_readD_231 GG K 119 (nI e) (nI a) (nI o) (nI (bs.getD (a + 3) 0)) (nI ar) h = some (nI 0, h1) ∧ KR h h1 ∧ EW h1 (9, a + 6) else if e < a + 8 + 2 * (bs.getD (a + 3) 0 % 16 + nbA bs 2 (a + 6) 0) then ∃ h1, fX9_readD_231 GG K 119 (nI e) (nI a) (nI o) (nI (bs.getD (a + 3) 0)) (nI ar) h = some (nI 0, h1) ∧ KR h h1 ∧ EW h1 (8, e) else fX9_readD_231 GG K 119 (nI e) (nI a) (nI o) (nI (bs.getD (a + 3) 0)) (nI ar) h = fX9_readD_334 GG K am_fuel 119 (nI e) (nI a) (nI o) (nI (bs.getD (a + 3) 0)) (nI ar) (nI (nbA bs 2 (a + 6) 0)) (nI (bs.getD (a + 3) 0 % 16 + nbA bs 2 (a + 6) 0)) (nI 0) h) else ∃ h1, fX9_readD_231 GG K 119 (nI e) (nI a) (nI o) (nI (bs.getD (a + 3) 0)) (nI ar) h = some (nI 0, h1) ∧ KR h h1 ∧ EW h1 (8, a + 5) := by
  have g3 := getD_lt hb (a + 3)
  have g5 := getD_lt hb (a + 5)
  have g6 := getD_lt hb (a + 6)
  have g7 := getD_lt hb (a + 7)
  have h15 := and15 ⟨bs.getD (a + 3) 0, g3⟩
  simp only at h15
  have hp : 2 ^ ar ≤ 2 ^ 7 := Nat.pow_le_pow_right (by decide) har7
  have hd := nb2_lt hb (a + 6)
  have hdep : am_shl (nI (bs.getD (a + 6) 0)) (nI 8) ||| nI (bs.getD (a + 7) 0) = nI (nbA bs 2 (a + 6) 0) := by rw [shl2v g6 g7, nb2_eq]
  have start : fX9_readD_231 GG K 119 (nI e) (nI a) (nI o) (nI (bs.getD (a + 3) 0)) (nI ar) h = if nI (2 ^ ar - 1) = nI (bs.getD (a + 5) 0) then (if nI (nbA bs 2 (a + 6) 0) ≤ nI 40 then (if nI (2 * (bs.getD (a + 3) 0 % 16 + nbA bs 2 (a + 6) 0)) ≤ nI (e - a - 8) then fX9_readD_334 GG K am_fuel 119 (nI e) (nI a) (nI o) (nI (bs.getD (a + 3) 0)) (nI ar) (nI (nbA bs 2 (a + 6) 0)) (nI (bs.getD (a + 3) 0 % 16 + nbA bs 2 (a + 6) 0)) (nI 0) h else am_bind (fX9_wrong GG 119 (nI 8) (nI e) h) fun r327 h327 => some (r327, h327)) else am_bind (fX9_wrong GG 119 (nI 9) (nI (a + 6)) h) fun r296 h296 => some (r296, h296)) else am_bind (fX9_wrong GG 119 (nI 8) (nI (a + 5)) h) fun r254 h254 => some (r254, h254) := by
    unfold fX9_readD_231
    rw [hR.r119_0, Option.bind_some, ln_120, pb_add, if_pos (pb_ok (by omega) (by decide)), pb_cl (by omega), hT (a + 5) (by omega), shl1 har7, Option.bind_some, ln_120, pb_add, if_pos (pb_ok (by omega) (by decide)), Option.bind_some, ln_120, pb_add, if_pos (pb_ok (by omega) (by decide)), pb_cl (by omega), pb_cl (by omega), hT (a + 6) (by omega), hT (a + 7) (by omega), hdep, am_let_eq, h15, pb_add, am_let_eq, pb_mul, pb_sub (by omega), pb_sub (by omega)]
  rw [start]
  by_cases c0 : 2 ^ ar - 1 = bs.getD (a + 5) 0
  · rw [if_pos c0, if_pos (show nI (2 ^ ar - 1) = nI (bs.getD (a + 5) 0) by rw [c0])]
    by_cases c1 : 40 < nbA bs 2 (a + 6) 0
    · rw [if_pos c1, if_neg (show ¬ nI (nbA bs 2 (a + 6) 0) ≤ nI 40 by rw [pb_le (by omega) (by omega)]; omega)]
      obtain ⟨h3, e1, e2, e3⟩ := q_wrong (h := h) (c := 9) (p := a + 6)
      exact ⟨h3, by rw [e1, am_bs], e2, e3⟩
    · rw [if_neg c1, if_pos (show nI (nbA bs 2 (a + 6) 0) ≤ nI 40 by rw [pb_le (by omega) (by omega)]; omega)]
      by_cases c2 : e < a + 8 + 2 * (bs.getD (a + 3) 0 % 16 + nbA bs 2 (a + 6) 0)
      · rw [if_pos c2, if_neg (show ¬ nI (2 * (bs.getD (a + 3) 0 % 16 + nbA bs 2 (a + 6) 0)) ≤ nI (e - a - 8) by rw [pb_le (by omega) (by omega)]; omega)]
        obtain ⟨h3, e1, e2, e3⟩ := q_wrong (h := h) (c := 8) (p := e)
        exact ⟨h3, by rw [e1, am_bs], e2, e3⟩
      · rw [if_neg c2, if_pos (show nI (2 * (bs.getD (a + 3) 0 % 16 + nbA bs 2 (a + 6) 0)) ≤ nI (e - a - 8) by rw [pb_le (by omega) (by omega)]; omega)]
  · rw [if_neg c0, if_neg (show ¬ nI (2 ^ ar - 1) = nI (bs.getD (a + 5) 0) by rw [pb_eq (by omega) (by omega)]; exact c0)]
    obtain ⟨h3, e1, e2, e3⟩ := q_wrong (h := h) (c := 8) (p := a + 5)
    exact ⟨h3, by rw [e1, am_bs], e2, e3⟩
end MREAD2
