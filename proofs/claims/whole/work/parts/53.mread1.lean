/-! ===== the model reads: numbers, head, memory ===== -/
section MREAD1
variable {h : AH} {s t u v : Nat}
theorem cmp0 {a b : Nat} (ha : a < 2 ^ 63) (hb : b < 2 ^ 63) : (lg_cmp (lN a) (lN b) = 0) = (a = b) := by
  unfold lg_cmp
  apply propext
  have hl := pk_lLT hb ha
  have he := pk_lEQ ha hb
  by_cases h1 : b < a
  · rw [if_pos (hl.mpr h1)]
    exact ⟨fun z => absurd z (by decide), fun z => by omega⟩
  · rw [if_neg (fun z => h1 (hl.mp z))]
    by_cases h2 : a = b
    · rw [if_pos (he.mpr h2)]
      exact ⟨fun _ => h2, fun _ => rfl⟩
    · rw [if_neg (fun z => h2 (he.mp z))]
      exact ⟨fun z => absurd z (by decide), fun z => absurd z h2⟩
theorem cmpLe {a b : Nat} (ha : a < 2 ^ 63) (hb : b < 2 ^ 63) : (lg_cmp (lN a) (lN b) ≤ 0) = (a ≤ b) := by
  unfold lg_cmp
  apply propext
  have hl := pk_lLT hb ha
  have he := pk_lEQ ha hb
  by_cases h1 : b < a
  · rw [if_pos (hl.mpr h1)]
    exact ⟨fun z => absurd z (by decide), fun z => by omega⟩
  · rw [if_neg (fun z => h1 (hl.mp z))]
    refine ⟨fun _ => by omega, fun _ => ?_⟩
    split <;> decide
theorem cmpGe {a b : Nat} (ha : a < 2 ^ 63) (hb : b < 2 ^ 63) : (0 ≤ lg_cmp (lN a) (lN b)) = (b ≤ a) := by
  unfold lg_cmp
  apply propext
  have hl := pk_lLT hb ha
  have he := pk_lEQ ha hb
  by_cases h1 : b < a
  · rw [if_pos (hl.mpr h1)]
    exact ⟨fun _ => by omega, fun _ => by decide⟩
  · rw [if_neg (fun z => h1 (hl.mp z))]
    by_cases h2 : a = b
    · rw [if_pos (he.mpr h2)]
      exact ⟨fun _ => by omega, fun _ => by decide⟩
    · rw [if_neg (fun z => h2 (he.mp z))]
      exact ⟨fun z => absurd z (by decide), fun z => by omega⟩
theorem lN_or {a b : Nat} (ha : a < 2 ^ 64) (hb : b < 2 ^ 64) : lN a ||| lN b = lN (a ||| b) := by
  apply Int64.toBitVec_inj.mp
  rw [Int64.toBitVec_or]
  show BitVec.ofNat 64 a ||| BitVec.ofNat 64 b = BitVec.ofNat 64 (a ||| b)
  apply BitVec.eq_of_toNat_eq
  rw [BitVec.toNat_or, BitVec.toNat_ofNat, BitVec.toNat_ofNat, BitVec.toNat_ofNat, Nat.mod_eq_of_lt ha, Nat.mod_eq_of_lt hb, Nat.mod_eq_of_lt (Nat.or_lt_two_pow ha hb)]
theorem or_addk {a b k : Nat} (hb : b < 2 ^ k) : a * 2 ^ k ||| b = a * 2 ^ k + b := by
  have h1 : a * 2 ^ k = a <<< k := by rw [Nat.shiftLeft_eq]
  rw [h1]
  exact (Nat.shiftLeft_add_eq_or_of_lt hb a).symm
theorem shlN {n k : Nat} (hk : k = 8 ∨ k = 16) (hn : n < 256) : am_shl (nI n) (nI k) = nI (n * 2 ^ k) := by
  unfold am_shl
  rcases hk with rfl | rfl
  · exact pk_shlN _ 8 (by decide) (by omega)
  · exact pk_shlN _ 16 (by decide) (by omega)
theorem lshl24 : ∀ b : Fin 256, am_lshl (lN b.val) (nI 24) = lN (b.val * 2 ^ 24) := by decide +kernel
theorem or_nI {a b : Nat} (ha : a < 2 ^ 32) (hb : b < 2 ^ 32) : nI a ||| nI b = nI (a ||| b) := by
  apply uN_inj
  rw [uN_or, uN_nI ha, uN_nI hb, uN_nI (Nat.or_lt_two_pow ha hb)]
theorem shl2v {x y : Nat} (hx : x < 256) (hy : y < 256) : am_shl (nI x) (nI 8) ||| nI y = nI (x * 256 + y) := by
  rw [shlN (Or.inl rfl) hx, or_nI (by omega) (by omega), or_addk (by omega)]
theorem shl3v {x y z : Nat} (hx : x < 256) (hy : y < 256) (hz : z < 256) : am_shl (nI x) (nI 16) ||| am_shl (nI y) (nI 8) ||| nI z = nI ((x * 256 + y) * 256 + z) := by
  rw [shlN (Or.inr rfl) hx, shlN (Or.inl rfl) hy, or_nI (by omega) (by omega), or_addk (by omega), show x * 2 ^ 16 + y * 2 ^ 8 = (x * 256 + y) * 2 ^ 8 by omega, or_nI (by omega) (by omega), or_addk (by omega)]
theorem nb2_eq {bs : List Nat} {o : Nat} : nbA bs 2 o 0 = bs.getD o 0 * 256 + bs.getD (o + 1) 0 := by
  show (0 * 256 + bs.getD o 0) * 256 + bs.getD (o + 1) 0 = _
  omega
theorem nb3_eq {bs : List Nat} {o : Nat} : nbA bs 3 o 0 = (bs.getD o 0 * 256 + bs.getD (o + 1) 0) * 256 + bs.getD (o + 2) 0 := by
  show ((0 * 256 + bs.getD o 0) * 256 + bs.getD (o + 1) 0) * 256 + bs.getD (o + 2) 0 = _
  omega
theorem nb4_eq {bs : List Nat} {o : Nat} : nbA bs 4 o 0 = ((bs.getD o 0 * 256 + bs.getD (o + 1) 0) * 256 + bs.getD (o + 2) 0) * 2 ^ 8 + bs.getD (o + 3) 0 := by
  show (((0 * 256 + bs.getD o 0) * 256 + bs.getD (o + 1) 0) * 256 + bs.getD (o + 2) 0) * 256 + bs.getD (o + 3) 0 = _
  omega
theorem q_numberAt {bs : List Nat} (hR : RX h s t u v) (hA : Arr (h.1 120) bs) (hb : By bs) (hbl : bs.length ≤ 2000) {a : Nat} (ha : a + 4 ≤ bs.length) : fX9_numberAt GG 119 (nI a) h = some (lN (nbA bs 4 a 0), h) := by
  have g0 := getD_lt hb a
  have g1 := getD_lt hb (a + 1)
  have g2 := getD_lt hb (a + 2)
  have g3 := getD_lt hb (a + 3)
  have e24 := lshl24 ⟨bs.getD a 0, g0⟩
  simp only at e24
  unfold fX9_numberAt
  rw [hR.r119_0, Option.bind_some, ln_120, if_pos (pb_ok (by omega) (by decide)), Option.bind_some, ln_120, pb_add, if_pos (pb_ok (by omega) (by decide)), Option.bind_some, ln_120, pb_add, if_pos (pb_ok (by omega) (by decide)), Option.bind_some, ln_120, pb_add, if_pos (pb_ok (by omega) (by decide)), pb_cl (by omega), pb_cl (by omega), pb_cl (by omega), pb_cl (by omega), hA a (by omega), hA (a + 1) (by omega), hA (a + 2) (by omega), hA (a + 3) (by omega), nI_l (by omega), e24, shlN (Or.inr rfl) g1, shlN (Or.inl rfl) g2, nI_l (by omega), nI_l (by omega), nI_l (by omega), lN_or (by omega) (by omega), or_addk (by omega), show bs.getD a 0 * 2 ^ 24 + bs.getD (a + 1) 0 * 2 ^ 16 = (bs.getD a 0 * 256 + bs.getD (a + 1) 0) * 2 ^ 16 by omega, lN_or (by omega) (by omega), or_addk (by omega), show (bs.getD a 0 * 256 + bs.getD (a + 1) 0) * 2 ^ 16 + bs.getD (a + 2) 0 * 2 ^ 8 = ((bs.getD a 0 * 256 + bs.getD (a + 1) 0) * 256 + bs.getD (a + 2) 0) * 2 ^ 8 by omega, lN_or (by omega) (by omega), or_addk (by omega)]
  rw [nb4_eq]
/-- what the model's reading changes -/
def KR (h h1 : AH) : Prop := Fr h h1 [119, 126, 130] ∧ ∀ j, j ≠ 19 → j ≠ 20 → j ≠ 21 → h1.1 119 j = h.1 119 j
theorem KR.rf {h : AH} : KR h h := ⟨Fr.rf, fun _ _ _ _ => rfl⟩
theorem KR.tr {h h1 h2 : AH} (a : KR h h1) (b : KR h1 h2) : KR h h2 := ⟨a.1.tr b.1, fun j p q r => (b.2 j p q r).trans (a.2 j p q r)⟩
theorem KR.c {h h1 : AH} (a : KR h h1) {n : Nat} (hn : n ≠ 119) (hn2 : n ≠ 126) (hn3 : n ≠ 130) : h1.1 n = h.1 n := a.1.2 n (by simp [hn, hn2, hn3])
def EW (h : AH) (p : Nat × Nat) : Prop := h.1 119 20 = nI p.1 ∧ h.1 119 21 = nI p.2
theorem q_wrong {c p : Nat} : ∃ h1, fX9_wrong GG 119 (nI c) (nI p) h = some (nI 0, h1) ∧ KR h h1 ∧ EW h1 (c, p) :=
  ⟨am_setI (am_setI h 119 20 (nI c)) 119 21 (nI p), rfl, ⟨(Fr.set (by simp)).tr (Fr.set (by simp)), fun j p q r => by rw [ps_s, ps_un r, ps_s, ps_un q]⟩, by rw [ps_s, ps_un (by decide), ps_s, ps_us], by rw [ps_s, ps_us]⟩
theorem q_readA_loop {bs hd : List Nat} {o : Nat} (hR : RX h s t u v) (hA : Arr (h.1 120) bs) (hH : Arr (h.1 123) hd) (hb : By bs) (hl : hd.length = 10) (bh : By hd) (hbl : bs.length ≤ 2000) (ho : o + 13 ≤ bs.length) : ∀ (n i z : Nat), i + n = 10 → n < z → match headBad bs hd o n i with
    | some k => ∃ h1, fX9_readA_19 GG z 119 (nI o) (nI i) h = some (nI 0, h1) ∧ KR h h1 ∧ EW h1 (6, o + k)
    | none => fX9_readA_19 GG z 119 (nI o) (nI i) h = some (nI 1, am_setI h 126 1000 (nI (nbA bs 3 (o + 10) 0)))
  | n, i, 0, _, hz => by omega
  | 0, i, z + 1, hi, _ => by
    have g0 := getD_lt hb (o + 10)
    have g1 := getD_lt hb (o + 11)
    have g2 := getD_lt hb (o + 12)
    show fX9_readA_19 GG (z + 1) 119 (nI o) (nI i) h = _
    rw [fX9_readA_19, if_pos (by rw [pb_le (by omega) (by omega)]; omega), hR.r119_11, Option.bind_some, hR.r119_0, Option.bind_some, ln_120, pb_add, if_pos (pb_ok (by omega) (by decide)), Option.bind_some, ln_120, pb_add, if_pos (pb_ok (by omega) (by decide)), Option.bind_some, ln_120, pb_add, if_pos (pb_ok (by omega) (by decide)), ln_126, if_pos (pb_ok (by decide) (by decide)), pb_cl (by omega), pb_cl (by omega), pb_cl (by omega), pb_cl (by omega), hA (o + 10) (by omega), hA (o + 11) (by omega), hA (o + 12) (by omega), shl3v g0 g1 g2, am_let_eq, nb3_eq]
  | n + 1, i, z + 1, hi, hz => by
    have h1 := getD_lt hb (o + i)
    have h2 := getD_lt bh i
    have ih := q_readA_loop hR hA hH hb hl bh hbl ho n (i + 1) z (by omega) (by omega)
    have hstep : fX9_readA_19 GG (z + 1) 119 (nI o) (nI i) h = if nI (bs.getD (o + i) 0) = nI (hd.getD i 0) then fX9_readA_19 GG z 119 (nI o) (nI (i + 1)) h else am_bind (fX9_wrong GG 119 (nI 6) (nI (o + i)) h) fun r52 h52 => some (r52, h52) := by
      rw [fX9_readA_19, if_neg (by rw [pb_le (by omega) (by omega)]; omega), hR.r119_0, Option.bind_some, ln_120, pb_add, if_pos (pb_ok (by omega) (by decide)), hR.r119_7, Option.bind_some, ln_123, if_pos (pb_ok (by omega) (by decide)), pb_cl (by omega), pb_cl (by omega), hA (o + i) (by omega), hH i (by omega), pb_add]
    rw [headBad, hstep]
    by_cases c : bs.getD (o + i) 0 = hd.getD i 0
    · rw [if_pos c, if_pos (by rw [c])]
      exact ih
    · rw [if_neg c, if_neg (by rw [pb_eq (by omega) (by omega)]; exact c)]
      obtain ⟨h3, e1, e2, e3⟩ := q_wrong (h := h) (c := 6) (p := o + i)
      refine ⟨h3, ?_, e2, e3⟩
      rw [e1, am_bs]
/-- memory as it is read -/
def ML (h : AH) (mm : List Nat) : Prop := ∀ k, k < mm.length → h.1 126 k = nI (mm.getD k 0)
/-- what the model's runs change -/
def KM (h h1 : AH) : Prop := KR h h1 ∧ h1.1 130 = h.1 130 ∧ h1.1 119 = h.1 119 ∧ ∀ k, 1000 ≤ k → h1.1 126 k = h.1 126 k
theorem KM.rf {h : AH} : KM h h := ⟨KR.rf, rfl, rfl, fun _ _ => rfl⟩
theorem KM.tr {h h1 h2 : AH} (a : KM h h1) (b : KM h1 h2) : KM h h2 := ⟨a.1.tr b.1, b.2.1.trans a.2.1, b.2.2.1.trans a.2.2.1, fun k hk => (b.2.2.2 k hk).trans (a.2.2.2 k hk)⟩
theorem KM.set {k : Nat} {x : Int32} (hk : k < 1000) : KM h (am_setI h 126 k x) := ⟨⟨Fr.set (by simp), fun j _ _ _ => by rw [ps_n (by decide)]⟩, ps_n (by decide), by rw [ps_n (by decide)], fun j hj => by rw [ps_s, ps_un (by omega)]⟩
theorem q_readB44 {bs ow : List Nat} {e : Nat} (hb : By bs) (bo : By ow) (hbl : bs.length ≤ 2000) (he : e ≤ bs.length) (hol : ow.length ≤ 1000) : ∀ (z a i : Nat) (h : AH) (mm : List Nat), RX h s t u v → Arr (h.1 120) bs → Arr (h.1 124) ow → h.1 119 9 = nI ow.length → ML h mm → mm.length = ow.length → By mm → (∀ k, i ≤ k → mm.getD k 0 = ow.getD k 0) → i ≤ mm.length → a ≤ e → e - a < z → ∃ r h1, fX9_readB_44 GG z 119 (nI e) (nI i) (nI a) h = some (r, h1) ∧ KR h h1 ∧ match rdB bs e z a i mm with
    | .ok m' => r = nI 1 ∧ ML h1 m' ∧ KM h h1
    | .error p => r = nI 0 ∧ EW h1 p
  | 0, a, i, h, mm, _, _, _, _, _, _, _, _, _, _, hz => by omega
  | z + 1, a, i, h, mm, hR, hT, hO, h9, hL, hml, hbm, hk, hi, ha, hz => by
    have hba := getD_lt hb a
    rw [fX9_readB_44, rdB]
    by_cases c0 : e ≤ a
    · rw [if_pos c0, if_pos (by rw [pb_le (by omega) (by omega)]; exact c0)]
      exact ⟨nI 1, h, rfl, KR.rf, rfl, hL, KM.rf⟩
    · rw [if_neg c0, if_neg (by rw [pb_le (by omega) (by omega)]; exact c0), hR.r119_0, Option.bind_some, ln_120, if_pos (pb_ok (by omega) (by decide)), pb_cl (by omega), hT a (by omega)]
      by_cases c1 : bs.getD a 0 = 0
      · rw [if_pos (by rw [c1]; decide), if_pos c1, pb_add]
        have hba1 := getD_lt hb (a + 1)
        by_cases c2 : a + 1 < e
        · rw [if_pos c2, if_neg (by rw [pb_eq (by omega) (by omega)]; omega), Option.bind_some, ln_120, if_pos (pb_ok (by omega) (by decide)), pb_cl (by omega), hT (a + 1) (by omega), pb_add, am_let_eq, pb_add, h9, ← hml]
          by_cases c3 : i + (bs.getD (a + 1) 0 + 1) ≤ mm.length
          · rw [if_pos c3, if_pos (by rw [pb_le (by omega) (by omega)]; exact c3), am_let_eq, pb_add]
            exact q_readB44 hb bo hbl he hol z (a + 2) (i + (bs.getD (a + 1) 0 + 1)) h mm hR hT hO h9 hL hml hbm (fun k hk' => hk k (by omega)) c3 (by omega) (by omega)
          · rw [if_neg c3, if_neg (by rw [pb_le (by omega) (by omega)]; exact c3)]
            obtain ⟨h3, e1, e2, e3⟩ := q_wrong (h := h) (c := 7) (p := a)
            rw [e1, am_bs]
            exact ⟨_, h3, rfl, e2, rfl, e3⟩
        · rw [if_neg c2, if_pos (by rw [pb_eq (by omega) (by omega)]; omega)]
          obtain ⟨h3, e1, e2, e3⟩ := q_wrong (h := h) (c := 7) (p := e)
          rw [e1, am_bs]
          refine ⟨_, h3, rfl, e2, rfl, ?_⟩
          rw [show a + 1 = e by omega]
          exact e3
      · rw [if_neg (by rw [pb_eq0 (by omega)]; exact c1), if_neg c1, h9, ← hml]
        by_cases c3 : i + 1 ≤ mm.length
        · have hmi := getD_lt hbm i
          have hoi : ow.getD i 0 = mm.getD i 0 := (hk i (by omega)).symm
          have hxor := xor_lt hmi hba
          rw [if_pos c3, if_neg (by rw [pb_eq (by omega) (by omega)]; omega), hR.r119_11, Option.bind_some, hR.r119_8, Option.bind_some, ln_124, if_pos (pb_ok (by omega) (by decide)), Option.bind_some, ln_120, if_pos (pb_ok (by omega) (by decide)), ln_126, if_pos (pb_ok (by omega) (by decide)), pb_cl (by omega), hO i (by omega), hT a (by omega), hoi, xor_nI (by omega) (by omega), am_let_eq, pb_add, pb_add]
          have K1 := KM.set (h := h) (k := i) (x := nI (mm.getD i 0 ^^^ bs.getD a 0)) (by omega)
          obtain ⟨r, h1, e1, e2, e3⟩ := q_readB44 hb bo hbl he hol z (a + 1) (i + 1) (am_setI h 126 i (nI (mm.getD i 0 ^^^ bs.getD a 0))) (mm.set i (mm.getD i 0 ^^^ bs.getD a 0)) (hR.eq rfl) (by rw [ps_n (by decide)]; exact hT) (by rw [ps_n (by decide)]; exact hO) (by rw [ps_n (by decide)]; exact h9) (fun k hk' => by
            simp only [List.length_set] at hk'
            rw [ps_s]
            by_cases hki : k = i
            · subst hki
              rw [ps_us]
              simp [List.getD, hk']
            · rw [ps_un hki, hL k hk']
              simp only [List.getD_eq_getElem?_getD, List.getElem?_set_ne (fun z => hki z.symm)]) (by simpa using hml) (fun b hb' => by
            rcases List.mem_or_eq_of_mem_set hb' with hz | rfl
            · exact hbm b hz
            · exact hxor) (fun k hk' => by
            rw [List.getD_eq_getElem?_getD, List.getElem?_set_ne (by omega), ← List.getD_eq_getElem?_getD]
            exact hk k (by omega)) (by simpa using c3) (by omega) (by omega)
          refine ⟨r, h1, e1, K1.1.tr e2, ?_⟩
          cases hrd : rdB bs e z (a + 1) (i + 1) (mm.set i (mm.getD i 0 ^^^ bs.getD a 0)) with
          | error p => rw [hrd] at e3; exact e3
          | ok m' => rw [hrd] at e3; exact ⟨e3.1, e3.2.1, K1.tr e3.2.2⟩
        · rw [if_neg c3, if_pos (by rw [pb_eq (by omega) (by omega)]; omega)]
          obtain ⟨h3, e1, e2, e3⟩ := q_wrong (h := h) (c := 7) (p := a)
          rw [e1, am_bs]
          exact ⟨_, h3, rfl, e2, rfl, e3⟩
theorem q_readB {bs ow : List Nat} {e a : Nat} (hR : RX h s t u v) (hT : Arr (h.1 120) bs) (hO : Arr (h.1 124) ow) (h9 : h.1 119 9 = nI ow.length) (hb : By bs) (bo : By ow) (hbl : bs.length ≤ 2000) (he : e ≤ bs.length) (hol : ow.length ≤ 1000) (ha : a ≤ e) : ∃ r h1, fX9_readB GG 119 (nI a) (nI e) h = some (r, h1) ∧ KR h h1 ∧ match rdB bs e am_fuel a 0 ow with
    | .ok m' => r = nI 1 ∧ ML h1 m' ∧ KM h h1
    | .error p => r = nI 0 ∧ EW h1 p := by
  have A := fill_loop0 (fun z i h => fX9_readB_2 GG z 119 (nI a) (nI e) (nI i) h) (fun g => fX9_readB_44 GG am_fuel 119 (nI e) (nI 0) (nI a) g) (fun g => RX g s t u v ∧ g.1 119 9 = nI ow.length ∧ g.1 124 = h.1 124) 126 0 1000 (fun k => if k < ow.length then h.1 124 k else nI 0) (by
    intro z i g hP hi
    by_cases hlt : i < ow.length
    · rw [fX9_readB_2, if_neg (by rw [pb_le (by omega) (by omega)]; omega), hP.1.r119_11, Option.bind_some, hP.2.1, if_neg (by rw [pb_le (by omega) (by omega)]; omega), hP.1.r119_8, Option.bind_some, ln_124, if_pos (pb_ok (by omega) (by decide))]
      unfold fX9_readB_32
      rw [ln_126, if_pos (pb_ok (by omega) (by decide)), pb_cl (by omega), am_let_eq, hP.2.2, if_pos hlt, pb_add, Nat.zero_add]
    · rw [fX9_readB_2, if_neg (by rw [pb_le (by omega) (by omega)]; omega), hP.1.r119_11, Option.bind_some, hP.2.1, if_pos (by rw [pb_le (by omega) (by omega)]; omega)]
      unfold fX9_readB_32
      rw [ln_126, if_pos (pb_ok (by omega) (by decide)), pb_cl (by omega), am_let_eq, if_neg hlt, pb_add, Nat.zero_add]) (fun g j w hP => ⟨hP.1, by rw [ps_n (by decide)]; exact hP.2.1, by rw [ps_n (by decide)]; exact hP.2.2⟩) (by
    intro z g hP
    rw [fX9_readB_2, if_pos (by rw [pb_le (by omega) (by omega)]; omega)]) h ⟨hR, h9, rfl⟩ (by decide)
  generalize hG : am_fill h 126 0 1000 (fun k => if k < ow.length then h.1 124 k else nI 0) = G at A
  have KG : KM h G := by
    rw [← hG]
    exact ⟨⟨Fr.fill (by simp), fun j _ _ _ => by rw [pf_n (by decide)]⟩, pf_n (by decide), by rw [pf_n (by decide)], fun k hk => by rw [pf_out (by omega)]⟩
  have hLG : ML G ow := fun k hk => by rw [← hG, pf_in (by omega) (by omega), Nat.sub_zero, if_pos hk]; exact hO k hk
  obtain ⟨r, h1, e1, e2, e3⟩ := q_readB44 (s := s) (t := t) (u := u) (v := v) hb bo hbl he hol am_fuel a 0 G ow (hR.eq KG.1.1.1) (by rw [KG.1.c (by decide) (by decide) (by decide)]; exact hT) (by rw [KG.1.c (by decide) (by decide) (by decide)]; exact hO) (by rw [KG.1.2 9 (by decide) (by decide) (by decide)]; exact h9) hLG rfl bo (fun _ _ => rfl) (by omega) ha (by unfold am_fuel; omega)
  refine ⟨r, h1, A.trans e1, KG.1.tr e2, ?_⟩
  cases hrd : rdB bs e am_fuel a 0 ow with
  | error p => rw [hrd] at e3; exact e3
  | ok m' => rw [hrd] at e3; exact ⟨e3.1, e3.2.1, KG.tr e3.2.2⟩
theorem q_readC {bs ow : List Nat} {o n a : Nat} (hR : RX h s t u v) (hT : Arr (h.1 120) bs) (h9 : h.1 119 9 = nI ow.length) (hbl : bs.length ≤ 2000) (ho : o + n ≤ bs.length) (hol : ow.length ≤ 1000) : ∃ r h1, fX9_readC GG 119 (nI a) (nI o) (nI n) h = some (r, h1) ∧ KR h h1 ∧ (if n = ow.length then r = nI 1 ∧ ML h1 ((bs.drop o).take n) ∧ KM h h1 else r = nI 0 ∧ EW h1 (7, a + 4)) := by
  unfold fX9_readC
  rw [h9]
  by_cases hn : n = ow.length
  · rw [if_pos (by rw [hn])]
    simp only [if_pos hn]
    have A := fill_loop0 (fun z i h => fX9_readC_21 GG z 119 (nI o) (nI i) h) (fun g => some (nI 1, g)) (fun g => RX g s t u v ∧ g.1 119 9 = nI ow.length ∧ g.1 120 = h.1 120) 126 0 1000 (fun k => if k < ow.length then h.1 120 (o + k) else nI 0) (by
      intro z i g hP hi
      by_cases hlt : i < ow.length
      · rw [fX9_readC_21, if_neg (by rw [pb_le (by omega) (by omega)]; omega), hP.1.r119_11, Option.bind_some, hP.2.1, if_neg (by rw [pb_le (by omega) (by omega)]; omega), hP.1.r119_0, Option.bind_some, ln_120, pb_add, if_pos (pb_ok (by omega) (by decide))]
        unfold fX9_readC_57
        rw [ln_126, if_pos (pb_ok (by omega) (by decide)), pb_cl (by omega), pb_cl (by omega), am_let_eq, hP.2.2, if_pos hlt, pb_add, Nat.zero_add]
      · rw [fX9_readC_21, if_neg (by rw [pb_le (by omega) (by omega)]; omega), hP.1.r119_11, Option.bind_some, hP.2.1, if_pos (by rw [pb_le (by omega) (by omega)]; omega)]
        unfold fX9_readC_57
        rw [ln_126, if_pos (pb_ok (by omega) (by decide)), pb_cl (by omega), am_let_eq, if_neg hlt, pb_add, Nat.zero_add]) (fun g j w hP => ⟨hP.1, by rw [ps_n (by decide)]; exact hP.2.1, by rw [ps_n (by decide)]; exact hP.2.2⟩) (by
      intro z g hP
      rw [fX9_readC_21, if_pos (by rw [pb_le (by omega) (by omega)]; omega)]) h ⟨hR, h9, rfl⟩ (by decide)
    refine ⟨nI 1, _, A, ⟨Fr.fill (by simp), fun j _ _ _ => by rw [pf_n (by decide)]⟩, rfl, fun k hk => ?_, ⟨Fr.fill (by simp), fun j _ _ _ => by rw [pf_n (by decide)]⟩, pf_n (by decide), by rw [pf_n (by decide)], fun k hk => by rw [pf_out (by omega)]⟩
    simp at hk
    rw [pf_in (by omega) (by omega), Nat.sub_zero, if_pos (by omega), getD_cut (by omega)]
    exact hT _ (by omega)
  · rw [if_neg (by rw [pb_eq (by omega) (by omega)]; exact hn), pb_add]
    simp only [if_neg hn]
    obtain ⟨h3, e1, e2, e3⟩ := q_wrong (h := h) (c := 7) (p := a + 4)
    rw [e1, am_bs]
    exact ⟨_, h3, rfl, e2, rfl, e3⟩
end MREAD1
