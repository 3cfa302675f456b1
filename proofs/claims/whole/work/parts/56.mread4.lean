/-! ===== the model reads a file ===== -/
section MREAD4
variable {h : AH} {s t u v : Nat}
/-- strangers as they are read -/
def SLs (h : AH) (st : Sg2) : Prop := h.1 119 19 = nI st.length ∧ ∀ (i : Nat) (x : Nat × List Nat), st[i]? = some x → h.1 130 (202 * i) = nI x.1 ∧ h.1 130 (202 * i + 1) = nI x.2.length ∧ ∀ k, k < x.2.length → h.1 130 (202 * i + 2 + k) = nI (x.2.getD k 0)
def MFix (h : AH) (s t u v : Nat) (bs hd ow : List Nat) : Prop := RX h s t u v ∧ Arr (h.1 120) bs ∧ h.1 119 28 = nI bs.length ∧ h.1 119 9 = nI ow.length ∧ Arr (h.1 123) hd ∧ Arr (h.1 124) ow
theorem MFix.R {bs hd ow : List Nat} (hF : MFix h s t u v bs hd ow) : RX h s t u v := hF.1
theorem MFix.T {bs hd ow : List Nat} (hF : MFix h s t u v bs hd ow) : Arr (h.1 120) bs := hF.2.1
theorem MFix.n28 {bs hd ow : List Nat} (hF : MFix h s t u v bs hd ow) : h.1 119 28 = nI bs.length := hF.2.2.1
theorem MFix.n9 {bs hd ow : List Nat} (hF : MFix h s t u v bs hd ow) : h.1 119 9 = nI ow.length := hF.2.2.2.1
theorem MFix.H {bs hd ow : List Nat} (hF : MFix h s t u v bs hd ow) : Arr (h.1 123) hd := hF.2.2.2.2.1
theorem MFix.O {bs hd ow : List Nat} (hF : MFix h s t u v bs hd ow) : Arr (h.1 124) ow := hF.2.2.2.2.2
theorem MFix.kr {h1 : AH} {bs hd ow : List Nat} (hF : MFix h s t u v bs hd ow) (k : KR h h1) : MFix h1 s t u v bs hd ow :=
  ⟨hF.R.eq k.1.1, by rw [k.c (by decide) (by decide) (by decide)]; exact hF.T, by rw [k.2 28 (by decide) (by decide) (by decide)]; exact hF.n28, by rw [k.2 9 (by decide) (by decide) (by decide)]; exact hF.n9, by rw [k.c (by decide) (by decide) (by decide)]; exact hF.H, by rw [k.c (by decide) (by decide) (by decide)]; exact hF.O⟩
def MRd (h : AH) : Rd → Prop
  | (A, M, D, ss, st) => (A = true → h.1 126 1000 = nI ss.2.1) ∧ (M = true → ML h ss.1) ∧ (D = true → DL h ss.2.2) ∧ SLs h st
theorem FrM.up {g g1 : Nat → Int32} {o : Nat} {fm : Fm} (hF : FrM g o fm) (he : ∀ k, o ≤ k → g1 k = g k) : FrM g1 o fm := by
  obtain ⟨bk, re, ar, nl, ws⟩ := fm
  obtain ⟨f1, f2, f3, f4, f5, f6⟩ := hF
  exact ⟨by rw [he _ (by omega)]; exact f1, by rw [he _ (by omega)]; exact f2, by rw [he _ (by omega)]; exact f3, by rw [he _ (by omega)]; exact f4, by rw [he _ (by omega)]; exact f5, fun k hk => by rw [he _ (by omega)]; exact f6 k hk⟩
theorem DL.up {h1 : AH} {fs : List Fm} (hD : DL h fs) (he : ∀ k, 1001 ≤ k → h1.1 126 k = h.1 126 k) : DL h1 fs :=
  ⟨by rw [he 1001 (by omega)]; exact hD.1, fun i fm hi => (hD.2 i fm hi).up (fun k hk => he k (by omega))⟩
theorem SLs.eq {h1 : AH} {st : Sg2} (hS : SLs h st) (h19 : h1.1 119 19 = h.1 119 19) (h130 : h1.1 130 = h.1 130) : SLs h1 st := by
  unfold SLs
  rw [h19, h130]
  exact hS
abbrev K98 : Type := Nat → Int32 → Int32 → Int32 → Int32 → AH → Option (Int32 × AH)
def W2 (h h1 : AH) : Prop := h1.1 119 20 = h.1 119 20 ∧ h1.1 119 21 = h.1 119 21
theorem W2.of {h h1 : AH} (k : h1.1 119 = h.1 119) : W2 h h1 := ⟨by rw [k], by rw [k]⟩
theorem W2.tr {h h1 h2 : AH} (a : W2 h h1) (b : W2 h1 h2) : W2 h h2 := ⟨b.1.trans a.1, b.2.trans a.2⟩
def OutR (K : K98) (F : Option (Int32 × AH)) (h : AH) (a n : Nat) (r : Ex Rd) : Prop := match r with
  | .error p => ∃ h1, F = some (nI 0, h1) ∧ KR h h1 ∧ EW h1 p
  | .ok S => ∃ G, F = K 119 (b2 S.1) (b2 S.2.1) (b2 S.2.2.1) (nI (a + 8 + n + n % 2)) G ∧ KR h G ∧ W2 h G ∧ MRd G S
theorem OutR.bad {K : K98} {F : Option (Int32 × AH)} {a n c p : Nat} (hF : F = am_bind (fX9_wrong GG 119 (nI c) (nI p) h) fun r h => some (r, h)) : OutR K F h a n (.error (c, p)) := by
  obtain ⟨h3, e1, e2, e3⟩ := q_wrong (h := h) (c := c) (p := p)
  exact ⟨h3, by rw [hF, e1, am_bs], e2, e3⟩
theorem lrem2 {n : Nat} (hn : n < 2 ^ 63) : am_lrem (lN n) (2 : Int64) = lN (n % 2) := pk_lRem hn (by decide) (by decide)
theorem q_467 (K : K98) {A M D : Int32} {n e : Nat} (hn : n < 4294967296) : fX9_readFile_467 GG K 119 A M D (lN n) (nI e) h = K 119 A M D (nI (e + n % 2)) h := by
  unfold fX9_readFile_467
  rw [lrem2 (by omega), lN_i, pb_add, am_let_eq]
theorem b2_t {b : Bool} (hb : b = true) : b2 b = nI 1 := by rw [hb]; rfl
theorem q_420 (K : K98) {bs : List Nat} {A M D : Int32} {n a o e : Nat} (hbl : bs.length ≤ 2000) (hn : n ≤ 200) (ha : a + n ≤ bs.length) (ho : o + 202 ≤ 1616) (H : AH) (hR : RX H s t u v) (M2 : AH) (hM : M2 = am_fill H 130 (o + 2) n (fun k => H.1 120 (a + k))) : fX9_readFile_420 GG K am_fuel 119 A M D (lN n) (nI a) (nI e) (nI o) (nI 0) H = K 119 A M D (nI (e + n % 2)) (am_setI M2 119 19 (M2.1 119 19 + nI 1)) := by
  subst hM
  refine fill_loop0 (fun z k h => fX9_readFile_420 GG K z 119 A M D (lN n) (nI a) (nI e) (nI o) (nI k) h) (fun h => K 119 A M D (nI (e + n % 2)) (am_setI h 119 19 (h.1 119 19 + nI 1))) (fun h => RX h s t u v ∧ h.1 120 = H.1 120) 130 (o + 2) n (fun k => H.1 120 (a + k)) ?_ (fun h j w hP => ⟨hP.1, by rw [ps_n (by decide)]; exact hP.2⟩) ?_ H ⟨hR, rfl⟩ (by omega)
  · intro z k h hP hk
    rw [fX9_readFile_420, nI_l (by omega), if_neg (by rw [cmpGe (by omega) (by omega)]; omega), hP.1.r119_18, Option.bind_some, hP.1.r119_0, Option.bind_some, ln_120, pb_add, if_pos (pb_ok (by omega) (by decide)), ln_130, pb_add, pb_add, if_pos (pb_ok (by omega) (by decide)), pb_cl (by omega), pb_cl (by omega), hP.2, am_let_eq, pb_add]
  · intro z h hP
    rw [fX9_readFile_420, nI_l (by omega), if_pos (by rw [cmpGe (by omega) (by omega)]; omega), am_let_eq, q_467 K (by omega)]
theorem KR.r0 {h1 : AH} {F : Option (Int32 × AH)} (hF : F = some (nI 0, h1)) (K2 : Int32 → AH → Option (Int32 × AH)) : am_bind F (fun r h => if r = 0 then some (nI 0, h) else K2 r h) = some (nI 0, h1) := by
  rw [hF, am_bs, if_pos (by decide)]
theorem KR.r1 {h1 : AH} {F : Option (Int32 × AH)} (hF : F = some (nI 1, h1)) (K2 : Int32 → AH → Option (Int32 × AH)) : am_bind F (fun r h => if r = 0 then some (nI 0, h) else K2 r h) = K2 (nI 1) h1 := by
  rw [hF, am_bs, if_neg (by decide)]
theorem q_226 (K : K98) {bs hd ow : List Nat} {a n name : Nat} {S : Rd} (hF : MFix h s t u v bs hd ow) (hb : By bs) (bo : By ow) (hl : ow.length ≤ 1000) (hhd : hd.length = 10) (bh : By hd) (hbl : bs.length ≤ 2000) (hn : a + 8 + n ≤ bs.length) (hnm : name < 4294967296) (hI : IR ow S) (hM : MRd h S) : OutR K (fX9_readFile_226 GG K 119 (b2 S.1) (b2 S.2.1) (b2 S.2.2.1) (nI a) (nI name) (lN n) (nI (a + 8)) (nI (a + 8 + n)) h) h a n (rdC bs hd ow a n name S) := by
  obtain ⟨A, M, D, ⟨mm, pc, fs⟩, st⟩ := S
  obtain ⟨⟨⟨w1, w2, w3, w4, w5⟩, hlen, hfst⟩, i2, i3, i4⟩ := id hI
  obtain ⟨m1, m2, m3, m4⟩ := id hM
  simp only at hlen
  unfold fX9_readFile_226
  rw [rdC]
  by_cases n1 : name = 1229351012
  · rw [if_pos n1, if_pos (by rw [n1])]
    by_cases cA : A = true
    · rw [if_pos cA, if_neg (by rw [b2_0]; simp [cA])]
      refine ⟨h, ?_, KR.rf, W2.of rfl, hM⟩
      unfold fX9_readFile_253
      rw [q_467 K (by omega), b2_t cA]
    · have cA' : A = false := by simpa using cA
      rw [if_neg cA, if_pos (by rw [b2_0]; exact cA'), lN_i]
      by_cases c13 : n = 13
      · rw [if_neg (fun z => z c13)]
        have Q := q_readA_loop hF.R hF.T hF.H hb hhd bh hbl (o := a + 8) (by omega) 10 0 am_fuel rfl (by unfold am_fuel; omega)
        have R1 : fX9_readA GG 119 (nI a) (nI (a + 8)) (nI n) h = fX9_readA_19 GG am_fuel 119 (nI (a + 8)) (nI 0) h := by
          unfold fX9_readA
          rw [if_pos (by rw [c13])]
        cases hh : headBad bs hd (a + 8) 10 0 with
        | some k =>
          rw [hh] at Q
          obtain ⟨h1, e1, e2, e3⟩ := Q
          exact ⟨h1, KR.r0 (R1.trans e1) _, e2, e3⟩
        | none =>
          rw [hh] at Q
          refine ⟨am_setI h 126 1000 (nI (nbA bs 3 (a + 8 + 10) 0)), (KR.r1 (R1.trans Q) _).trans ?_, ⟨Fr.set (by simp), fun j _ _ _ => by rw [ps_n (by decide)]⟩, W2.of (ps_n (by decide)), ?_⟩
          · unfold fX9_readFile_253
            rw [q_467 K (by omega)]
            rfl
          · refine ⟨fun _ => ?_, fun hM' k hk => ?_, fun hD => (m3 hD).up (fun k hk => ?_), m4.eq (by rw [ps_n (by decide)]) (ps_n (by decide))⟩
            · rw [ps_s, ps_us]
            · simp only at hk
              rw [ps_s, ps_un (by omega)]
              exact m2 hM' k hk
            · rw [ps_s, ps_un (by omega)]
      · rw [if_pos c13]
        have : fX9_readA GG 119 (nI a) (nI (a + 8)) (nI n) h = am_bind (fX9_wrong GG 119 (nI 6) (nI (a + 4)) h) fun r h => some (r, h) := by
          unfold fX9_readA
          rw [if_neg (by rw [pb_eq (by omega) (by omega)]; exact c13), pb_add]
        obtain ⟨h3, e1, e2, e3⟩ := q_wrong (h := h) (c := 6) (p := a + 4)
        refine ⟨h3, KR.r0 ?_ _, e2, e3⟩
        rw [this, e1, am_bs]
  · rw [if_neg n1, if_neg (by rw [nI_inj32 hnm (by decide)]; exact n1)]
    by_cases n2 : name = 1129145709 ∨ name = 1431135597
    · have pick : ∀ (X Y : Option (Int32 × AH)), (if nI name = nI 1129145709 then X else if nI name = nI 1431135597 then X else Y) = X := fun X Y => by
        by_cases q1 : name = 1129145709
        · rw [if_pos (by rw [q1])]
        · rw [if_neg (by rw [nI_inj32 hnm (by decide)]; exact q1), if_pos (by rw [n2.resolve_left q1])]
      rw [if_pos n2, pick]
      unfold fX9_readFile_272
      by_cases cM : M = true
      · rw [if_pos cM, if_neg (by rw [b2_0]; simp [cM])]
        refine ⟨h, ?_, KR.rf, W2.of rfl, hM⟩
        unfold fX9_readFile_325
        rw [q_467 K (by omega), b2_t cM]
      · have cM' : M = false := by simpa using cM
        rw [if_neg cM, if_pos (by rw [b2_0]; exact cM')]
        by_cases cA : A = false
        · rw [if_pos cA, if_pos (by rw [b2_0]; exact cA)]
          exact OutR.bad rfl
        · rw [if_neg cA, if_neg (by rw [b2_0]; exact cA)]
          unfold rdMem
          have upM : ∀ {G : AH} {m' : List Nat}, KM h G → ML G m' → MRd G (A, true, D, (m', pc, fs), st) := fun {G m'} k1 k2 =>
            ⟨fun hA => by rw [k1.2.2.2 1000 (by omega)]; exact m1 hA, fun _ => k2, fun hD => (m3 hD).up (fun k hk => k1.2.2.2 k (by omega)), m4.eq (by rw [k1.2.2.1]) k1.2.1⟩
          by_cases q1 : name = 1129145709
          · rw [if_pos q1, if_pos (by rw [q1])]
            obtain ⟨r, h1, e1, e2, e3⟩ := q_readB (e := a + 8 + n) (a := a + 8) hF.R hF.T hF.O hF.n9 hb bo hbl hn hl (by omega)
            cases hr : rdB bs (a + 8 + n) am_fuel (a + 8) 0 ow with
            | error p =>
              rw [hr] at e3
              rw [e3.1] at e1
              exact ⟨h1, KR.r0 e1 _, e2, e3.2⟩
            | ok m' =>
              rw [hr] at e3
              rw [e3.1] at e1
              refine ⟨h1, (KR.r1 e1 _).trans ?_, e2, W2.of e3.2.2.2.2.1, upM e3.2.2 e3.2.1⟩
              unfold fX9_readFile_325
              rw [q_467 K (by omega)]
              rfl
          · rw [if_neg q1, if_neg (by rw [nI_inj32 hnm (by decide)]; exact q1), lN_i]
            obtain ⟨r, h1, e1, e2, e3⟩ := q_readC (o := a + 8) (n := n) (a := a) hF.R hF.T hF.n9 hbl hn hl
            by_cases cl : n = ow.length
            · rw [if_pos cl] at e3 ⊢
              rw [e3.1] at e1
              refine ⟨h1, (KR.r1 e1 _).trans ?_, e2, W2.of e3.2.2.2.2.1, upM e3.2.2 e3.2.1⟩
              unfold fX9_readFile_325
              rw [q_467 K (by omega)]
              rfl
            · rw [if_neg cl] at e3 ⊢
              rw [e3.1] at e1
              exact ⟨h1, KR.r0 e1 _, e2, e3.2⟩
    · rw [if_neg n2, if_neg (by rw [nI_inj32 hnm (by decide)]; omega), if_neg (by rw [nI_inj32 hnm (by decide)]; omega)]
      by_cases n3 : name = 1400138611
      · rw [if_pos n3, if_pos (by rw [n3])]
        by_cases cD : D = true
        · rw [if_pos cD, if_neg (by rw [b2_0]; simp [cD])]
          refine ⟨h, ?_, KR.rf, W2.of rfl, hM⟩
          unfold fX9_readFile_354
          rw [q_467 K (by omega), b2_t cD]
        · have cD' : D = false := by simpa using cD
          rw [if_neg cD, if_pos (by rw [b2_0]; exact cD')]
          obtain ⟨r, h1, e1, e2, e3⟩ := q_readD (e := a + 8 + n) (a := a + 8) hb hbl hn hF.R hF.T (by omega)
          cases hr : rdD bs (a + 8 + n) 20 (a + 8) [] with
          | error p =>
            rw [hr] at e3
            rw [e3.1] at e1
            exact ⟨h1, KR.r0 e1 _, e2, e3.2⟩
          | ok fs' =>
            rw [hr] at e3
            rw [e3.1] at e1
            have k1 := e3.2.2
            refine ⟨h1, (KR.r1 e1 _).trans ?_, e2, W2.of k1.2.2.1, fun hA => ?_, fun hM' k hk => ?_, fun _ => e3.2.1, m4.eq (by rw [k1.2.2.1]) k1.2.1⟩
            · unfold fX9_readFile_354
              rw [q_467 K (by omega)]
              rfl
            · rw [k1.2.2.2 1000 (by omega)]
              exact m1 hA
            · simp only at hk
              rw [k1.2.2.2 k (by omega)]
              exact m2 hM' k hk
      · rw [if_neg n3, if_neg (by rw [nI_inj32 hnm (by decide)]; exact n3), m4.1]
        by_cases c8 : st.length = 8
        · rw [if_pos (Or.inl c8), if_pos (by rw [c8])]
          exact OutR.bad rfl
        · rw [if_neg (show ¬ nI st.length = nI 8 by rw [pb_eq (by omega) (by omega)]; exact c8)]
          by_cases c200 : 200 < n
          · rw [if_pos (Or.inr c200), if_neg (show ¬ lg_cmp (lN n) (200 : Int64) ≤ 0 by rw [show (200 : Int64) = lN 200 from rfl, cmpLe (by omega) (by omega)]; omega)]
            exact OutR.bad rfl
          · rw [if_neg (show ¬ (st.length = 8 ∨ 200 < n) by omega), if_pos (show lg_cmp (lN n) (200 : Int64) ≤ 0 by rw [show (200 : Int64) = lN 200 from rfl, cmpLe (by omega) (by omega)]; omega), pb_mul, am_let_eq, hF.R.r119_18, Option.bind_some, ln_130, if_pos (pb_ok (by omega) (by decide)), pb_cl (by omega), am_let_eq]
            generalize hh1 : am_setI h 130 (202 * st.length) (nI name) = h1
            have R1 : RX h1 s t u v := by rw [← hh1]; exact hF.R.eq rfl
            rw [R1.r119_18, Option.bind_some, pb_add, ln_130, if_pos (pb_ok (by omega) (by decide)), pb_cl (by omega), lN_i, am_let_eq]
            generalize hh2 : am_setI h1 130 (202 * st.length + 1) (nI n) = h2
            have R2 : RX h2 s t u v := by rw [← hh2]; exact R1.eq rfl
            have h2120 : h2.1 120 = h.1 120 := by rw [← hh2, ps_n (by decide), ← hh1, ps_n (by decide)]
            have Q := q_420 (s := s) (t := t) (u := u) (v := v) K (A := b2 A) (M := b2 M) (D := b2 D) (n := n) (a := a + 8) (o := 202 * st.length) (e := a + 8 + n) hbl (by omega) hn (by omega) h2 R2 _ rfl
            generalize hh3 : am_fill h2 130 (202 * st.length + 2) n (fun k => h2.1 120 (a + 8 + k)) = h3 at Q
            have h3119 : h3.1 119 = h.1 119 := by rw [← hh3, pf_n (by decide), ← hh2, ps_n (by decide), ← hh1, ps_n (by decide)]
            have h3126 : h3.1 126 = h.1 126 := by rw [← hh3, pf_n (by decide), ← hh2, ps_n (by decide), ← hh1, ps_n (by decide)]
            have hG126 : (am_setI h3 119 19 (h3.1 119 19 + nI 1)).1 126 = h.1 126 := by rw [ps_n (by decide), h3126]
            have hG130 : (am_setI h3 119 19 (h3.1 119 19 + nI 1)).1 130 = h3.1 130 := ps_n (by decide)
            refine ⟨_, Q, ⟨?_, fun j j1 j2 j3 => by rw [ps_s, ps_un j1, h3119]⟩, ⟨by rw [ps_s, ps_un (by decide), h3119], by rw [ps_s, ps_un (by decide), h3119]⟩, fun hA => by rw [hG126]; exact m1 hA, fun hM' k hk => by rw [hG126]; exact m2 hM' k hk, fun hD => (m3 hD).up (fun k _ => by rw [hG126]), ?_, fun i x hx => ?_⟩
            · rw [← hh3, ← hh2, ← hh1]
              exact (((Fr.set (by simp)).tr (Fr.set (by simp))).tr (Fr.fill (by simp))).tr (Fr.set (by simp))
            · rw [ps_s, ps_us, h3119, m4.1, pb_add, List.length_append]
              rfl
            · rw [hG130]
              have lo : ∀ k, k < 202 * st.length → h3.1 130 k = h.1 130 k := fun k hk => by
                rw [← hh3, pf_out (by omega), ← hh2, ps_s, ps_un (by omega), ← hh1, ps_s, ps_un (by omega)]
              by_cases hil : i < st.length
              · rw [List.getElem?_append_left hil] at hx
                obtain ⟨y1, y2, y3⟩ := m4.2 i x hx
                have hxl := (i4 x (List.mem_of_getElem? hx)).2.2
                exact ⟨by rw [lo _ (by omega)]; exact y1, by rw [lo _ (by omega)]; exact y2, fun k hk => by rw [lo _ (by omega)]; exact y3 k hk⟩
              · rw [List.getElem?_append_right (by omega)] at hx
                have hi0 : i - st.length = 0 := by
                  have := (List.getElem?_eq_some_iff.mp hx).1
                  simp at this
                  omega
                rw [hi0] at hx
                cases hx
                have hcl : ((bs.drop (a + 8)).take n).length = n := by simp; omega
                rw [show i = st.length by omega]
                simp only [hcl]
                refine ⟨?_, ?_, fun k hk => ?_⟩
                · rw [← hh3, pf_out (by omega), ← hh2, ps_s, ps_un (by omega), ← hh1, ps_s, ps_us]
                · rw [← hh3, pf_out (by omega), ← hh2, ps_s, ps_us]
                · rw [← hh3, pf_in (by omega) (by omega), getD_cut hk, h2120, show 202 * st.length + 2 + k - (202 * st.length + 2) = k by omega]
                  exact hF.T _ (by omega)
end MREAD4
