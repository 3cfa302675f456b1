/-! ===== save ===== -/
section SAVE2
variable {h : AH} {s t u v : Nat}
theorem addC_len {S : St} {x : Nat × List Nat} : (addC S x).1.length = S.1.length + 8 + x.2.length + x.2.length % 2 := by
  simp only [addC, List.length_append, chk_len]
  omega
theorem addC_n {S : St} {x : Nat × List Nat} : (addC S x).2.length = S.2.length + 1 := by simp [addC]
def front : List Nat := be 1179603533 4 ++ (be 0 4 ++ be 1229347411 4)
def Good (S : St) : Prop := By S.1 ∧ S.1.length ≤ 8000 ∧ (∀ c ∈ S.2, c.1 < 4294967296 ∧ c.2.1 ≤ 8000 ∧ c.2.2 ≤ 8000) ∧ ∃ T, S.1 = be 1179603533 4 ++ (be 0 4 ++ T)
theorem Good.add {S : St} {x : Nat × List Nat} (hG : Good S) (hx : x.1 < 4294967296) (hb : By x.2) (hl : (addC S x).1.length ≤ 8000) : Good (addC S x) := by
  obtain ⟨g1, g2, g3, T, g4⟩ := hG
  have hl2 := hl
  rw [addC_len] at hl2
  refine ⟨g1.app (be0_by hb), hl, fun c hc => ?_, T ++ chk x.1 x.2, ?_⟩
  · rcases List.mem_append.mp hc with hz | hz
    · exact g3 c hz
    · simp at hz
      subst hz
      exact ⟨hx, by simp only; omega, by simp only; omega⟩
  · simp only [addC]
    rw [g4]
    simp
theorem foldC : ∀ (ms : List (Nat × List Nat)) (S : St), (∀ x ∈ ms, x.1 < 4294967296 ∧ By x.2 ∧ x.2.length ≤ 200) → Good S → S.1.length + 209 * ms.length ≤ 8000 → Good (ms.foldl addC S) ∧ (ms.foldl addC S).2.length = S.2.length + ms.length
  | [], S, _, hG, _ => ⟨hG, rfl⟩
  | x :: ms, S, hx, hG, hl => by
    have h1 := hx x List.mem_cons_self
    have h2 := addC_len (S := S) (x := x)
    simp only [List.length_cons] at hl
    have ih := foldC ms (addC S x) (fun y hy => hx y (List.mem_cons_of_mem _ hy)) (hG.add h1.1 h1.2.1 (by omega)) (by omega)
    refine ⟨ih.1, ?_⟩
    simp only [List.foldl_cons, List.length_cons]
    rw [ih.2, addC_n]
    omega
/-! the class's contents -/
theorem p_tellHead_loop {hd : List Nat} (hl : hd.length = 10) (bh : By hd) (f : Nat → Int32) (ha : Arr f hd) : ∀ (ms : List Nat) (i z : Nat) (h : AH) (bs : List Nat), RX h s t u v → h.1 15 = f → hd.drop i = ms → i ≤ hd.length → ms.length < z → Byt h 5 6 8000 bs → bs.length + ms.length ≤ 8000 → ∃ h1, fX5_tellHead_2 GG z 14 5 (nI i) h = some ((), h1) ∧ Byt h1 5 6 8000 (bs ++ ms) ∧ Fr h h1 [5, 6]
  | ms, i, 0, h, bs, _, _, _, _, hz, _, _ => by omega
  | [], i, z + 1, h, bs, hR, p1, d1, hi, _, hB, _ => by
    have : hd.length ≤ i := by simpa using List.drop_eq_nil_iff.mp d1
    refine ⟨h, ?_, by simpa using hB, Fr.rf⟩
    rw [fX5_tellHead_2, if_pos (by rw [pb_le (by omega) (by omega)]; omega)]
  | m :: ms, i, z + 1, h, bs, hR, p1, d1, hi, hz, hB, hN => by
    obtain ⟨g1, g2, g3⟩ := getD_drop d1
    have bm' : m < 256 := by rw [← g1]; exact getD_lt bh i
    simp only [List.length_cons] at hz hN
    obtain ⟨h1, e1, e2, e3⟩ := p_add hB ln_6 (by decide) (by decide) (by omega) (b := nI m) (v := m) (and255 bm')
    obtain ⟨h2, r1, r2, r3⟩ := p_tellHead_loop hl bh f ha ms (i + 1) z h1 _ (hR.eq e3.1) (by rw [e3.2 15 (by decide)]; exact p1) g2 (by omega) (by omega) e2 (by simp; omega)
    refine ⟨h2, ?_, by simpa using r2, e3.tr r3⟩
    refine Eq.trans ?_ r1
    rw [fX5_tellHead_2, if_neg (by rw [pb_le (by omega) (by omega)]; omega), hR.r14_0, Option.bind_some, ln_15, if_pos (pb_ok (by omega) (by decide)), pb_cl (by omega), p1, ha i g3, g1, e1, am_bs, pb_add]
theorem p_tellMemory_loop {x : Nat} (hx : SQ x) {mm : List Nat} (hl : mm.length ≤ 1000) (bm : By mm) (f g : Nat → Int32) (k1 : f 2 = nI mm.length) (k2 : ∀ i, i < mm.length → g i = nI (mm.getD i 0)) : ∀ (ms : List Nat) (i z : Nat) (h : AH) (bs : List Nat), RX h s t u v → h.1 x = f → h.1 (x + 1) = g → mm.drop i = ms → i ≤ mm.length → ms.length < z → Byt h 5 6 8000 bs → bs.length + ms.length ≤ 8000 → ∃ h1, fX4_tellMemory_2 GG z x 5 (nI i) h = some ((), h1) ∧ Byt h1 5 6 8000 (bs ++ ms) ∧ Fr h h1 [5, 6]
  | ms, i, 0, h, bs, _, _, _, _, _, hz, _, _ => by omega
  | [], i, z + 1, h, bs, hR, p1, p2, d1, hi, _, hB, _ => by
    have : mm.length ≤ i := by simpa using List.drop_eq_nil_iff.mp d1
    refine ⟨h, ?_, by simpa using hB, Fr.rf⟩
    rw [fX4_tellMemory_2, p1, k1, if_pos (by rw [pb_le (by omega) (by omega)]; omega)]
  | m :: ms, i, z + 1, h, bs, hR, p1, p2, d1, hi, hz, hB, hN => by
    have hx' : x = 23 ∨ x = 66 := hx
    obtain ⟨g1, g2, g3⟩ := getD_drop d1
    have bm' : m < 256 := by rw [← g1]; exact getD_lt bm i
    simp only [List.length_cons] at hz hN
    obtain ⟨h1, e1, e2, e3⟩ := p_add hB ln_6 (by decide) (by decide) (by omega) (b := nI m) (v := m) (and255 bm')
    obtain ⟨h2, r1, r2, r3⟩ := p_tellMemory_loop hx hl bm f g k1 k2 ms (i + 1) z h1 _ (hR.eq e3.1) (by rw [e3.2 x (by simp; omega)]; exact p1) (by rw [e3.2 (x + 1) (by simp; omega)]; exact p2) g2 (by omega) (by omega) e2 (by simp; omega)
    refine ⟨h2, ?_, by simpa using r2, e3.tr r3⟩
    refine Eq.trans ?_ r1
    have hb := p_byteAt (h := h) hx hR (mm := mm) (by rw [p1]; exact k1) hl (by rw [p2]; exact k2) (i := i) (by omega)
    rw [fX4_tellMemory_2, p1, k1, if_neg (by rw [pb_le (by omega) (by omega)]; omega), hb, am_bs, g1, e1, am_bs, pb_add]
theorem flat_cut {st : List (Nat × List Nat)} {i : Nat} {x : Nat × List Nat} {ms : List (Nat × List Nat)} (hd : st.drop i = x :: ms) : ((st.flatMap (fun y => y.2)).drop ((st.take i).flatMap (fun y => y.2)).length).take x.2.length = x.2 ∧ ((st.take (i + 1)).flatMap (fun y => y.2)).length = ((st.take i).flatMap (fun y => y.2)).length + x.2.length ∧ ((st.take i).flatMap (fun y => y.2)).length + x.2.length ≤ (st.flatMap (fun y => y.2)).length := by
  have e : st.flatMap (fun y => y.2) = (st.take i).flatMap (fun y => y.2) ++ (x.2 ++ ms.flatMap (fun y => y.2)) := by
    conv => lhs; rw [← List.take_append_drop i st, hd]
    simp
  refine ⟨?_, ?_, ?_⟩
  · rw [e, List.drop_left, List.take_left]
  · have hi : i < st.length := by
      rcases Nat.lt_or_ge i st.length with hh | hh
      · exact hh
      · rw [List.drop_eq_nil_of_le hh] at hd; cases hd
    have h1 := List.drop_eq_getElem_cons hi
    rw [hd] at h1
    injection h1 with h2 h3
    rw [List.take_succ_eq_append_getElem hi, ← h2]
    simp
  · rw [e]
    simp
theorem p_addStr {st : List (Nat × List Nat)} (hu : TQ u) (hst : ∀ x ∈ st, x.1 < 4294967296 ∧ By x.2 ∧ x.2.length ≤ 200) (hl8 : st.length ≤ 8) (h0 : AH) (hG : CG h0 u st) : ∀ (ms : List (Nat × List Nat)) (i z fr : Nat) (h : AH) (S : St), RX h s t u v → Fr h0 h [4, 5, 6, 7, 8, 9] → CO h S.1 S.2 → st.drop i = ms → fr = ((st.take i).flatMap (fun y => y.2)).length → i ≤ st.length → ms.length < z → S.2.length + ms.length ≤ 11 → S.1.length + 209 * ms.length ≤ 8000 → ∃ h1, fX7_addStrangers_4 GG z 4 u (nI fr) (nI i) h = some ((), h1) ∧ CO h1 (ms.foldl addC S).1 (ms.foldl addC S).2 ∧ Fr h h1 [4, 5, 6, 7, 8, 9]
  | ms, i, 0, fr, h, S, _, _, _, _, _, _, hz, _, _ => by omega
  | [], i, z + 1, fr, h, S, hR, hF, hC, d1, _, hi, _, _, _ => by
    have hu' : u = 109 ∨ u = 114 := hu
    have : st.length ≤ i := by simpa using List.drop_eq_nil_iff.mp d1
    refine ⟨h, ?_, hC, Fr.rf⟩
    rw [fX7_addStrangers_4, hF.2 u (by simp; omega), hG.2.1, if_pos (by rw [pb_le (by omega) (by omega)]; omega)]
  | x :: ms, i, z + 1, fr, h, S, hR, hF, hC, d1, hfr, hi, hz, hn, hl => by
    have hu' : u = 109 ∨ u = 114 := hu
    simp only [List.length_cons] at hz hn hl
    obtain ⟨q1, q2, q3⟩ := flat_cut d1
    have hi' : i < st.length := by
      rcases Nat.lt_or_ge i st.length with hh | hh
      · exact hh
      · rw [List.drop_eq_nil_of_le hh] at d1; cases d1
    have hd := List.drop_eq_getElem_cons hi'
    rw [d1] at hd
    injection hd with hd1 hd2
    have hget : st[i]? = some x := by rw [List.getElem?_eq_getElem hi', hd1]
    obtain ⟨x1, x2, x3⟩ := hst x (List.mem_of_getElem? hget)
    obtain ⟨n1, n2⟩ := hG.2.2 i x hget
    have hk : ∀ a, u ≤ a ∧ a ≤ u + 4 → h.1 a = h0.1 a := fun a ha => hF.2 a (by simp; omega)
    obtain ⟨h1, a1, a2, a3, a4, a5⟩ := p_open hR hC (name := x.1) (by omega) (by omega) x1
    have hR1 := hR.eq a5.1
    have hk1 : ∀ a, u ≤ a ∧ a ≤ u + 4 → h1.1 a = h0.1 a := fun a ha => by rw [a5.2 a (by simp; omega)]; exact hk a ha
    have hrow : Byt h1 (u + 1) (u + 2) 1600 (st.flatMap (fun y => y.2)) := hG.1.eq (by rw [a5.1, hF.1]) (hk1 _ (by omega)) (hk1 _ (by omega))
    obtain ⟨h2, b1, b2, b3⟩ := p_addPart (Γ := GG) a2.1 hrow ln_6 hu.l (by decide) (by decide) (by decide) (by omega) (o := fr) (n := x.2.length) (by omega) (by simp [be_len]; omega)
    have hR2 := hR1.eq b3.1
    rw [hfr, q1] at b2
    have hC2 := a2.by b2 b3
    obtain ⟨h3, c1, c2, c3⟩ := p_close (bs := S.1) (c := x.2) (name := x.1) hR2 hC2 (by simp) (by omega) (by omega) (by rw [b3.2 7 (by decide)]; exact a3) (by rw [b3.2 8 (by decide)]; exact a4)
    have hR3 := hR2.eq c3.1
    have FF : Fr h h3 [4, 5, 6, 7, 8, 9] := (a5.tr (b3.mo (by simp))).tr c3
    have hlen := addC_len (S := S) (x := x)
    have hk3 : ∀ a, u ≤ a ∧ a ≤ u + 4 → h3.1 a = h0.1 a := fun a ha => by rw [FF.2 a (by simp; omega)]; exact hk a ha
    obtain ⟨h4, r1, r2, r3⟩ := p_addStr hu hst hl8 h0 hG ms (i + 1) z (fr + x.2.length) h3 (addC S x) hR3 (hF.tr FF) c2 hd2.symm (by omega) (by omega) (by omega) (by rw [addC_n]; omega) (by omega)
    refine ⟨h4, ?_, r2, FF.tr r3⟩
    refine Eq.trans ?_ r1
    rw [fX7_addStrangers_4, hk u (by omega), hG.2.1, if_neg (by rw [pb_le (by omega) (by omega)]; omega), if_neg (by rw [pb_le (by omega) (by omega)]; omega), hu.r1 hR, Option.bind_some, hu.l3, if_pos (pb_ok (by omega) (by decide)), pb_cl (by omega), hk (u + 3) (by omega), n1, a1, am_bs, hR1.r4_0, Option.bind_some, hu.r0 hR1, Option.bind_some, hu.r2 hR1, Option.bind_some, hu.l4, if_pos (pb_ok (by omega) (by decide)), hk1 (u + 4) (by omega), n2, b1, am_bs, c1, am_bs, hu.r2 hR3, Option.bind_some, hu.l4, if_pos (pb_ok (by omega) (by decide)), hk3 (u + 4) (by omega), n2, am_let_eq, pb_add, pb_add]
/-! the model's contents -/
theorem q_save48 {hd : List Nat} (y : Int32) (hl : hd.length = 10) (bh : By hd) (g : Nat → Int32) (ha : Arr g hd) : ∀ (ms : List Nat) (i z : Nat) (h : AH) (bs : List Nat), RX h s t u v → h.1 123 = g → hd.drop i = ms → i ≤ hd.length → ms.length < z → Mk h bs → bs.length + ms.length ≤ 8000 → ∃ z' h1, fX9_save_48 GG z 119 y (nI i) h = fX9_save_48 GG (z' + 1) 119 y (nI 10) h1 ∧ Mk h1 (bs ++ ms) ∧ Kp h h1
  | ms, i, 0, h, bs, _, _, _, _, hz, _, _ => by omega
  | [], i, z + 1, h, bs, hR, p1, d1, hi, _, hM, _ => by
    have : hd.length ≤ i := by simpa using List.drop_eq_nil_iff.mp d1
    refine ⟨z, h, ?_, by simpa using hM, Kp.rf⟩
    rw [show i = 10 by omega]
  | m :: ms, i, z + 1, h, bs, hR, p1, d1, hi, hz, hM, hN => by
    obtain ⟨g1, g2, g3⟩ := getD_drop d1
    have bm' : m < 256 := by rw [← g1]; exact getD_lt bh i
    simp only [List.length_cons] at hz hN
    obtain ⟨h1, e1, e2, e3⟩ := q_number1 hR hM bm' (by omega)
    obtain ⟨z', h2, r1, r2, r3⟩ := q_save48 y hl bh g ha ms (i + 1) z h1 _ (hR.eq e3.1.1) (by rw [e3.c (by decide) (by decide)]; exact p1) g2 (by omega) (by omega) e2 (by simp; omega)
    refine ⟨z', h2, ?_, by simpa using r2, e3.tr r3⟩
    refine Eq.trans ?_ r1
    rw [fX9_save_48, if_neg (by rw [pb_le (by omega) (by omega)]; omega), hR.r119_7, Option.bind_some, ln_123, if_pos (pb_ok (by omega) (by decide)), pb_cl (by omega), p1, ha i g3, g1, e1, am_bs, pb_add]
theorem q_save109 {mm : List Nat} {pc : Nat} {fs : List Fm} (hm : mm.length ≤ 1000) (bm : By mm) (g : Nat → Int32) (hse : SeM g (mm, pc, fs)) : ∀ (ms : List Nat) (i z : Nat) (h : AH) (bs : List Nat), RX h s t u v → h.1 125 = g → h.1 119 9 = nI mm.length → mm.drop i = ms → i ≤ mm.length → ms.length < z → Mk h bs → bs.length + ms.length ≤ 8000 → ∃ h1, fX9_save_109 GG z 119 (nI i) h = fX9_save_145 GG 119 h1 ∧ Mk h1 (bs ++ ms) ∧ Kp h h1
  | ms, i, 0, h, bs, _, _, _, _, _, hz, _, _ => by omega
  | [], i, z + 1, h, bs, hR, p1, p2, d1, hi, _, hM, _ => by
    have : mm.length ≤ i := by simpa using List.drop_eq_nil_iff.mp d1
    refine ⟨h, ?_, by simpa using hM, Kp.rf⟩
    rw [fX9_save_109, p2, if_pos (by rw [pb_le (by omega) (by omega)]; omega)]
  | m :: ms, i, z + 1, h, bs, hR, p1, p2, d1, hi, hz, hM, hN => by
    obtain ⟨g1, g2, g3⟩ := getD_drop d1
    have bm' : m < 256 := by rw [← g1]; exact getD_lt bm i
    simp only [List.length_cons] at hz hN
    obtain ⟨h1, e1, e2, e3⟩ := q_number1 hR hM bm' (by omega)
    obtain ⟨h2, r1, r2, r3⟩ := q_save109 hm bm g hse ms (i + 1) z h1 _ (hR.eq e3.1.1) (by rw [e3.c (by decide) (by decide)]; exact p1) (by rw [e3.2 9 (by decide)]; exact p2) g2 (by omega) (by omega) e2 (by simp; omega)
    refine ⟨h2, ?_, by simpa using r2, e3.tr r3⟩
    refine Eq.trans ?_ r1
    rw [fX9_save_109, p2, if_neg (by rw [pb_le (by omega) (by omega)]; omega), hR.r119_10, Option.bind_some, ln_125, if_pos (pb_ok (by omega) (by decide)), pb_cl (by omega), p1, hse.1 i g3, g1, e1, am_bs, pb_add]
theorem q_save193 (K : Nat → Int32 → AH → Option (Int32 × AH)) {x : Nat × List Nat} {i : Nat} (hi8 : i < 8) (hx : x.2.length ≤ 200) (bx : By x.2) (g : Nat → Int32) (k1 : g (202 * i + 1) = nI x.2.length) (k2 : ∀ k, k < x.2.length → g (202 * i + 2 + k) = nI (x.2.getD k 0)) : ∀ (ms : List Nat) (k z : Nat) (h : AH) (bs : List Nat), RX h s t u v → h.1 129 = g → x.2.drop k = ms → k ≤ x.2.length → ms.length < z → Mk h bs → bs.length + ms.length ≤ 8000 → ∃ h1, fX9_save_193 GG K z 119 (nI i) (nI k) h = (am_bind (fX9_close GG 119 h1) fun r235 h235 => K 119 (nI (i + 1)) h235) ∧ Mk h1 (bs ++ ms) ∧ Kp h h1
  | ms, k, 0, h, bs, _, _, _, _, hz, _, _ => by omega
  | [], k, z + 1, h, bs, hR, p1, d1, hk, _, hM, _ => by
    have : x.2.length ≤ k := by simpa using List.drop_eq_nil_iff.mp d1
    refine ⟨h, ?_, by simpa using hM, Kp.rf⟩
    rw [fX9_save_193, hR.r119_16, Option.bind_some, ln_129, pb_mul, pb_add, if_pos (pb_ok (by omega) (by decide)), pb_cl (by omega), p1, k1, if_pos (by rw [pb_le (by omega) (by omega)]; omega), pb_add]
  | m :: ms, k, z + 1, h, bs, hR, p1, d1, hk, hz, hM, hN => by
    obtain ⟨g1, g2, g3⟩ := getD_drop d1
    have bm' : m < 256 := by rw [← g1]; exact getD_lt bx k
    simp only [List.length_cons] at hz hN
    obtain ⟨h1, e1, e2, e3⟩ := q_number1 hR hM bm' (by omega)
    obtain ⟨h2, r1, r2, r3⟩ := q_save193 K hi8 hx bx g k1 k2 ms (k + 1) z h1 _ (hR.eq e3.1.1) (by rw [e3.c (by decide) (by decide)]; exact p1) g2 (by omega) (by omega) e2 (by simp; omega)
    refine ⟨h2, ?_, by simpa using r2, e3.tr r3⟩
    refine Eq.trans ?_ r1
    rw [fX9_save_193, hR.r119_16, Option.bind_some, ln_129, pb_mul, pb_add, if_pos (pb_ok (by omega) (by decide)), pb_cl (by omega), p1, k1, if_neg (by rw [pb_le (by omega) (by omega)]; omega), Option.bind_some, ln_129, pb_add, pb_add, if_pos (pb_ok (by omega) (by decide)), pb_cl (by omega), p1, k2 k g3, g1, e1, am_bs, pb_add]
theorem q_save169 {st : List (Nat × List Nat)} (hst : ∀ x ∈ st, x.1 < 4294967296 ∧ By x.2 ∧ x.2.length ≤ 200) (hl8 : st.length ≤ 8) (g : Nat → Int32) (hG : ∀ (i : Nat) (x : Nat × List Nat), st[i]? = some x → g (202 * i) = nI x.1 ∧ g (202 * i + 1) = nI x.2.length ∧ ∀ k, k < x.2.length → g (202 * i + 2 + k) = nI (x.2.getD k 0)) : ∀ (ms : List (Nat × List Nat)) (i z : Nat) (h : AH) (S : St), RX h s t u v → h.1 129 = g → h.1 119 17 = nI st.length → Mk h S.1 → MC h S.2 → st.drop i = ms → i ≤ st.length → ms.length < z → S.2.length + ms.length ≤ 11 → S.1.length + 209 * ms.length ≤ 8000 → ∃ h1, fX9_save_169 GG z 119 (nI i) h = (am_bind (fX9_patch GG 119 (nI 4) ((h1.1 119 27) - (nI 8)) h1) fun r253 h253 => fX9_save_258 GG am_fuel 119 (nI 0) h253) ∧ Mk h1 (ms.foldl addC S).1 ∧ MC h1 (ms.foldl addC S).2 ∧ Ks h h1
  | ms, i, 0, h, S, _, _, _, _, _, _, _, hz, _, _ => by omega
  | [], i, z + 1, h, S, hR, p1, p2, hM, hC, d1, hi, _, _, _ => by
    have : st.length ≤ i := by simpa using List.drop_eq_nil_iff.mp d1
    refine ⟨h, ?_, hM, hC, Kp.rf.ks⟩
    rw [fX9_save_169, p2, if_pos (by rw [pb_le (by omega) (by omega)]; omega)]
  | x :: ms, i, z + 1, h, S, hR, p1, p2, hM, hC, d1, hi, hz, hn, hl => by
    simp only [List.length_cons] at hz hn hl
    have hi' : i < st.length := by
      rcases Nat.lt_or_ge i st.length with hh | hh
      · exact hh
      · rw [List.drop_eq_nil_of_le hh] at d1; cases d1
    have hd := List.drop_eq_getElem_cons hi'
    rw [d1] at hd
    injection hd with hd1 hd2
    have hget : st[i]? = some x := by rw [List.getElem?_eq_getElem hi', hd1]
    obtain ⟨x1, x2, x3⟩ := hst x (List.mem_of_getElem? hget)
    obtain ⟨n1, n2, n3⟩ := hG i x hget
    obtain ⟨h1, a1, a2, a3, a4, a5, a6⟩ := q_open hR hM hC (name := x.1) (by omega) (by omega) x1
    have hR1 := hR.eq a6.1.1
    obtain ⟨h2, b1, b2, b3⟩ := q_save193 (fX9_save_169 GG z) (s := s) (t := t) (u := u) (v := v) (i := i) (by omega) x3 x2 g n2 n3 x.2 0 am_fuel h1 _ hR1 (by rw [a6.c (by omega)]; exact p1) rfl (by omega) (by unfold am_fuel; omega) a2 (by simp [be_len]; omega)
    have hR2 := hR1.eq b3.1.1
    obtain ⟨h3, c1, c2, c3, c4⟩ := q_close (bs := S.1) (c := x.2) (name := x.1) hR2 b2 (b3.mc a3) (by simp) (by omega) (by omega) (by rw [b3.c (by decide) (by decide)]; exact a4) (by rw [b3.c (by decide) (by decide)]; exact a5)
    have hR3 := hR2.eq c4.1.1
    have KK := (a6.tr b3.ks).tr c4
    have hlen := addC_len (S := S) (x := x)
    obtain ⟨h4, r1, r2, r3, r4⟩ := q_save169 hst hl8 g hG ms (i + 1) z h3 (addC S x) hR3 (by rw [KK.c (by omega)]; exact p1) (by rw [KK.2 17 (by decide) (by decide)]; exact p2) c2 c3 hd2.symm (by omega) (by omega) (by rw [addC_n]; omega) (by omega)
    refine ⟨h4, ?_, r2, r3, KK.tr r4⟩
    refine Eq.trans ?_ r1
    rw [fX9_save_169, p2, if_neg (by rw [pb_le (by omega) (by omega)]; omega), hR.r119_16, Option.bind_some, ln_129, pb_mul, if_pos (pb_ok (by omega) (by decide)), pb_cl (by omega), p1, n1, a1, am_bs]
    refine Eq.trans b1 ?_
    rw [c1, am_bs]
theorem q_save258 {H : AH} {n : Nat} (hR : RX H s t u v) (h27 : H.1 119 27 = nI n) (hn : n ≤ 8000) : fX9_save_258 GG am_fuel 119 (nI 0) H = some (nI n, am_setI (am_fill H 121 0 n (H.1 134)) 119 3 (nI n)) := by
  refine fill_loop0 (fun k i h => fX9_save_258 GG k 119 (nI i) h) (fun h => some (nI n, am_setI h 119 3 (nI n))) (fun h => RX h s t u v ∧ h.1 119 27 = nI n ∧ h.1 134 = H.1 134) 121 0 n (H.1 134) ?_ (fun h j w hP => ⟨hP.1, by rw [ps_n (by decide)]; exact hP.2.1, by rw [ps_n (by decide)]; exact hP.2.2⟩) ?_ H ⟨hR, h27, rfl⟩ (by omega)
  · intro z i h hP hi
    simp (disch := omega) only [fX9_save_258, hP.2.1, pb_le, if_neg, hP.1.r119_2, hP.1.r119_26, hP.2.2, Option.bind_some, pb_add, ln_121, ln_134, pb_ok, if_true, pb_cl, am_let, if_false, Nat.zero_add]
  · intro z h hP
    simp (disch := omega) only [fX9_save_258, hP.2.1, pb_le, if_pos, am_let, ps_s, ps_us, if_true]
/-! the chunks of a session -/
def memC (x : Int32) (ow mm : List Nat) : Nat × List Nat := if x = 0 then (1129145709, encB mm ow 0) else (1431135597, mm)
def file3 (x : Int32) (hd ow mm : List Nat) (pc : Nat) (fs : List Fm) : St := addC (addC (addC (front, []) (1229351012, hd ++ be pc 3)) (memC x ow mm)) (1400138611, encD fs)
theorem p_save {hd ow mm : List Nat} {pc : Nat} {fs : List Fm} {st : List (Nat × List Nat)} {ou : List Nat} {ch : List (Nat × Nat × Nat)} (x : Int32) (hq : SQ s) (hu : TQ u) (hR : RX h s t u v) (hS : CS h hd ow) (hse : SeX h s (mm, pc, fs)) (hw : WSn (mm, pc, fs)) (hmo : mm.length = ow.length) (bo : By ow) (hhd : hd.length = 10) (bh : By hd) (ho : ow ≠ []) (hG : CG h u st) (hst : ∀ x ∈ st, x.1 < 4294967296 ∧ By x.2 ∧ x.2.length ≤ 200) (hl8 : st.length ≤ 8) (hO : CO h ou ch) : ∃ h1 T, fX8_save GG 0 x h = some (nI (st.foldl addC (file3 x hd ow mm pc fs)).1.length, h1) ∧ (st.foldl addC (file3 x hd ow mm pc fs)).1 = be 1179603533 4 ++ (be 0 4 ++ T) ∧ CO h1 (be 1179603533 4 ++ (be ((st.foldl addC (file3 x hd ow mm pc fs)).1.length - 8) 4 ++ T)) (st.foldl addC (file3 x hd ow mm pc fs)).2 ∧ Fr h h1 [4, 5, 6, 7, 8, 9] ∧ Good (st.foldl addC (file3 x hd ow mm pc fs)) := by
  have hs' : s = 23 ∨ s = 66 := hq
  have hu' : u = 109 ∨ u = 114 := hu
  obtain ⟨w1, w2, w3, w4, w5⟩ := hw
  have w3' : pc < 16777216 := w3
  have hD := encD_len fs w5
  have hB := encB_len mm ow 0
  have hDb := encD_by fs w5
  have hBb := encB_by mm ow 0 w2 bo
  have hl0 : ow.length ≤ 1000 := by omega
  -- front
  have s0 : ∃ h1, fX7_startFile GG 4 h = some ((), h1) ∧ CO h1 front [] ∧ Fr h h1 [4, 5, 6, 7, 8, 9] := by
    have hR0 : RX (am_setI h 4 4 (nI 0)) s t u v := hR.eq rfl
    obtain ⟨h1, a1, a2, a3⟩ := p_clear0 (h := am_setI h 4 4 (nI 0)) (N := 8000) hR0.r5_0
    have hR1 := hR0.eq a3.1
    obtain ⟨h2, b1, b2, b3⟩ := p_addNumber (Γ := GG) a2 ln_6 (by decide) (by decide) (nI 1179603533) (n := 4) (by decide) (by simp)
    rw [uN_nI (by decide)] at b2
    have hR2 := hR1.eq b3.1
    obtain ⟨h3, c1, c2, c3⟩ := p_addNumber (Γ := GG) b2 ln_6 (by decide) (by decide) (nI 0) (n := 4) (by decide) (by simp [be_len])
    rw [uN_nI (by decide)] at c2
    have hR3 := hR2.eq c3.1
    obtain ⟨h4, d1, d2, d3⟩ := p_addNumber (Γ := GG) c2 ln_6 (by decide) (by decide) (nI 1229347411) (n := 4) (by decide) (by simp [be_len])
    rw [uN_nI (by decide)] at d2
    refine ⟨h4, ?_, ⟨by simpa [front] using d2, ?_, by simp, fun i c hc => by simp at hc⟩, ?_⟩
    · unfold fX7_startFile
      rw [am_let_eq, hR0.r4_0, Option.bind_some, a1, am_bs, hR1.r4_0, Option.bind_some, b1, am_bs, hR2.r4_0, Option.bind_some, c1, am_bs, hR3.r4_0, Option.bind_some, d1, am_bs]
    · rw [d3.2 4 (by decide), c3.2 4 (by decide), b3.2 4 (by decide), a3.2 4 (by decide), ps_s, ps_us]
      rfl
    · exact ((((Fr.set (h := h) (a := 4) (by simp)).tr (a3.mo (by simp))).tr (b3.mo (by simp))).tr (c3.mo (by simp))).tr (d3.mo (by simp))
  obtain ⟨h1, a1, a2, a3⟩ := s0
  have hR1 := hR.eq a3.1
  have hfl : front.length = 12 := rfl
  have g0 : Good (front, []) := ⟨by
    intro b hb
    unfold front at hb
    rcases List.mem_append.mp hb with hz | hz
    · exact be_lt _ _ b hz
    · rcases List.mem_append.mp hz with hz | hz
      · exact be_lt _ _ b hz
      · exact be_lt _ _ b hz, by simp [hfl], fun c hc => by simp at hc, be 1229347411 4, rfl⟩
  -- the head
  obtain ⟨h2, b1, b2, b3, b4, b5⟩ := p_open hR1 a2 (name := 1229351012) (by simp) (by simp [hfl]) (by decide)
  have hR2 := hR1.eq b5.1
  have F2 := a3.tr b5
  have k2 : ∀ a, 9 < a → h2.1 a = h.1 a := fun a ha => F2.2 a (by simp; omega)
  obtain ⟨h3, c1, c2, c3⟩ := p_tellHead_loop (s := s) (t := t) (u := u) (v := v) hhd bh (h2.1 15) (by rw [k2 15 (by omega)]; exact hS.2.1) hd 0 am_fuel h2 _ hR2 rfl rfl (by omega) (by unfold am_fuel; omega) b2.1 (by simp [be_len, hfl]; omega)
  have hR3 := hR2.eq c3.1
  have F3 := F2.tr (c3.mo (S' := [4, 5, 6, 7, 8, 9]) (by simp))
  have k3 : ∀ a, 9 < a → h3.1 a = h.1 a := fun a ha => F3.2 a (by simp; omega)
  obtain ⟨h4, d1, d2, d3⟩ := p_addNumber (Γ := GG) c2 ln_6 (by decide) (by decide) (nI pc) (n := 3) (by decide) (by simp [be_len, hfl]; omega)
  rw [uN_nI (by omega)] at d2
  have hR4 := hR3.eq d3.1
  have C4 := b2.by d2 (c3.tr d3)
  obtain ⟨h5, e1, e2, e3⟩ := p_close (bs := front) (c := hd ++ be pc 3) (name := 1229351012) hR4 C4 (by simp) (by simp) (by simp [be_len, hfl]; omega) (by rw [(c3.tr d3).2 7 (by decide)]; exact b3) (by rw [(c3.tr d3).2 8 (by decide)]; exact b4)
  have hR5 := hR4.eq e3.1
  have F5 := (F3.tr (d3.mo (S' := [4, 5, 6, 7, 8, 9]) (by simp))).tr e3
  have k5 : ∀ a, 9 < a → h5.1 a = h.1 a := fun a ha => F5.2 a (by simp; omega)
  have l1 : (addC (front, []) (1229351012, hd ++ be pc 3)).1.length = 34 := by rw [addC_len]; simp [be_len, hfl, hhd]
  have g1 := g0.add (x := (1229351012, hd ++ be pc 3)) (by simp) (bh.app (be_lt _ _)) (by rw [l1]; decide)
  have n1 : (addC (front, []) (1229351012, hd ++ be pc 3)).2.length = 1 := rfl
  generalize hS1 : addC (front, []) (1229351012, hd ++ be pc 3) = S1 at *
  -- memory
  have hmc : (memC x ow mm).1 < 4294967296 ∧ By (memC x ow mm).2 ∧ (memC x ow mm).2.length ≤ 1500 := by
    unfold memC
    split
    · exact ⟨by show 1129145709 < 4294967296; decide, hBb, by simp only; omega⟩
    · exact ⟨by show 1431135597 < 4294967296; decide, w2, by simp only; omega⟩
  obtain ⟨h6, i1, i2, i3, i4, i5⟩ := p_open hR5 e2 (name := (memC x ow mm).1) (by omega) (by omega) hmc.1
  have hR6 := hR5.eq i5.1
  have F6 := F5.tr i5
  have k6 : ∀ a, 9 < a → h6.1 a = h.1 a := fun a ha => F6.2 a (by simp; omega)
  have hcont : ∃ h7, (if x = 0 then fX4_tellRuns GG s 14 5 h6 else fX4_tellMemory GG s 5 h6) = some ((), h7) ∧ Byt h7 5 6 8000 (S1.1 ++ (be (memC x ow mm).1 4 ++ be 0 4) ++ (memC x ow mm).2) ∧ Fr h6 h7 [5, 6] := by
    by_cases hx : x = 0
    · have hmcx : (memC x ow mm).2 = encB mm ow 0 := by unfold memC; rw [if_pos hx]
      rw [if_pos hx, hmcx]
      exact p_tellRuns hq ln_6 (by decide) (by decide) (fun a ha => by simp; omega) hR6 (hse.eq' w4 (fun a ha => k6 a (by omega))) (hS.eq (fun a ha => k6 a (by omega))) w1 hmo w2 bo i2.1 (by simp [be_len]; omega)
    · have hmcx : (memC x ow mm).2 = mm := by unfold memC; rw [if_neg hx]
      rw [if_neg hx, hmcx]
      unfold fX4_tellMemory
      exact p_tellMemory_loop (s := s) (t := t) (u := u) (v := v) hq w1 w2 (h6.1 s) (h6.1 (s + 1)) (by rw [k6 s (by omega)]; exact hse.1) (by rw [k6 (s + 1) (by omega)]; exact hse.2.2.2.1) mm 0 am_fuel h6 _ hR6 rfl rfl rfl (by omega) (by unfold am_fuel; omega) i2.1 (by simp [be_len]; omega)
  obtain ⟨h7, j1, j2, j3⟩ := hcont
  have hR7 := hR6.eq j3.1
  have C7 := i2.by j2 j3
  obtain ⟨h8, l1', l2, l3⟩ := p_close (bs := S1.1) (c := (memC x ow mm).2) (name := (memC x ow mm).1) hR7 C7 (by simp) (by omega) (by omega) (by rw [j3.2 7 (by decide)]; exact i3) (by rw [j3.2 8 (by decide)]; exact i4)
  have hR8 := hR7.eq l3.1
  have F8 := (F6.tr (j3.mo (S' := [4, 5, 6, 7, 8, 9]) (by simp))).tr l3
  have k8 : ∀ a, 9 < a → h8.1 a = h.1 a := fun a ha => F8.2 a (by simp; omega)
  have hl2 := addC_len (S := S1) (x := memC x ow mm)
  have g2 := g1.add (x := memC x ow mm) hmc.1 hmc.2.1 (by omega)
  have n2 := addC_n (S := S1) (x := memC x ow mm)
  have l2' : CO h8 (addC S1 (memC x ow mm)).1 (addC S1 (memC x ow mm)).2 := l2
  generalize hS2 : addC S1 (memC x ow mm) = S2 at *
  -- frames
  obtain ⟨h9, o1, o2, o3, o4, o5⟩ := p_open hR8 l2' (name := 1400138611) (by omega) (by omega) (by decide)
  have hR9 := hR8.eq o5.1
  have F9 := F8.tr o5
  have k9 : ∀ a, 9 < a → h9.1 a = h.1 a := fun a ha => F9.2 a (by simp; omega)
  obtain ⟨h10, p1, p2, p3⟩ := p_tellFrames hq ln_6 (by decide) (by decide) (fun a ha hb => by simp; omega) hR9 (hse.eq' w4 (fun a ha => k9 a (by omega))) w4 w5 o2.1 (by simp [be_len]; omega)
  have hR10 := hR9.eq p3.1
  have C10 := o2.by p2 p3
  obtain ⟨h11, q1, q2, q3⟩ := p_close (bs := S2.1) (c := encD fs) (name := 1400138611) hR10 C10 (by simp) (by omega) (by omega) (by rw [p3.2 7 (by decide)]; exact o3) (by rw [p3.2 8 (by decide)]; exact o4)
  have hR11 := hR10.eq q3.1
  have F11 := (F9.tr (p3.mo (S' := [4, 5, 6, 7, 8, 9]) (by simp))).tr q3
  have hl3 := addC_len (S := S2) (x := (1400138611, encD fs))
  simp only at hl3
  have g3 := g2.add (x := (1400138611, encD fs)) (by simp) hDb (by omega)
  have n3 := addC_n (S := S2) (x := (1400138611, encD fs))
  have hf3 : file3 x hd ow mm pc fs = addC S2 (1400138611, encD fs) := by unfold file3; rw [hS1, hS2]
  rw [hf3]
  have q2' : CO h11 (addC S2 (1400138611, encD fs)).1 (addC S2 (1400138611, encD fs)).2 := q2
  generalize hS3 : addC S2 (1400138611, encD fs) = S3 at *
  -- strangers
  obtain ⟨h12, r1, r2, r3⟩ := p_addStr (s := s) (t := t) (v := v) hu hst hl8 h hG st 0 am_fuel 0 h11 S3 hR11 F11 q2' rfl rfl (by omega) (by unfold am_fuel; omega) (by omega) (by omega)
  have hR12 := hR11.eq r3.1
  obtain ⟨gF, nF⟩ := foldC st S3 hst g3 (by omega)
  obtain ⟨T, hT⟩ := id gF.2.2.2
  generalize hS4 : st.foldl addC S3 = S4 at *
  have hB12 := r2.1
  rw [hT] at hB12
  have hlen4 : 8 ≤ S4.1.length := by rw [hT]; simp [be_len]; omega
  obtain ⟨h13, t1, t2, t3⟩ := p_setNumber (x := nI (S4.1.length - 8)) (o := 4) (by simp [be_len]) hB12 (be_len _ _) ln_6 (by decide) (by decide)
  have := gF.2.1
  rw [uN_nI (by omega)] at t2
  have hR13 := hR12.eq t3.1
  refine ⟨h13, T, ?_, hT, r2.by t2 (t3.mo (by simp)), (F11.tr r3).tr (t3.mo (by simp)), gF⟩
  have e12 : h12.1 5 1 = nI S4.1.length := r2.1.2.2.1
  have e13 : h13.1 5 1 = nI S4.1.length := by rw [t3.2 5 (by decide)]; exact e12
  have tail : fX8_save_110 GG 0 h7 = some (nI S4.1.length, h13) := by
    unfold fX8_save_110
    rw [hR7.r0_1, Option.bind_some, l1', am_bs, hR8.r0_1, Option.bind_some, o1, am_bs, hR9.r0_8, Option.bind_some, hR9.r0_3, Option.bind_some, p1, am_bs, hR10.r0_1, Option.bind_some, q1, am_bs, hR11.r0_1, Option.bind_some, hR11.r0_10, Option.bind_some]
    have r1' : fX7_addStrangers GG 4 u h11 = some ((), h12) := r1
    rw [r1', am_bs, hR12.r0_1, Option.bind_some]
    have t1' : fX7_endFile GG 4 h12 = some ((), h13) := by
      unfold fX7_endFile
      rw [hR12.r4_0, Option.bind_some, Option.bind_some, e12, pb_sub hlen4, t1, am_bs]
    rw [t1', am_bs, hR13.r0_3, Option.bind_some, e13]
  have hpc : h3.1 s 3 = nI pc := by rw [k3 s (by omega)]; exact hse.2.1
  unfold fX8_save
  rw [p_noStory hR hS hl0, am_bs, if_neg ho, if_pos (by decide), hR.r0_1, Option.bind_some, a1, am_bs, hR1.r0_1, Option.bind_some, b1, am_bs, hR2.r0_6, Option.bind_some, hR2.r0_3, Option.bind_some]
  have c1' : fX5_tellHead GG 14 5 h2 = some ((), h3) := c1
  rw [c1', am_bs, hR3.r0_3, Option.bind_some, hR3.r0_8, Option.bind_some, hpc, d1, am_bs, hR4.r0_1, Option.bind_some, e1, am_bs, hR5.r0_1, Option.bind_some]
  by_cases hx : x = 0
  · rw [if_pos hx] at j1
    have hm1 : (memC x ow mm).1 = 1129145709 := by unfold memC; rw [if_pos hx]
    rw [hm1] at i1
    rw [if_pos hx]
    unfold fX8_save_74
    rw [i1, am_bs, if_pos hx, hR6.r0_8, Option.bind_some, hR6.r0_6, Option.bind_some, hR6.r0_3, Option.bind_some, j1, am_bs]
    exact tail
  · rw [if_neg hx] at j1
    have hm1 : (memC x ow mm).1 = 1431135597 := by unfold memC; rw [if_neg hx]
    rw [hm1] at i1
    rw [if_neg hx]
    unfold fX8_save_74
    rw [i1, am_bs, if_neg hx, hR6.r0_8, Option.bind_some, hR6.r0_3, Option.bind_some, j1, am_bs]
    exact tail
end SAVE2
