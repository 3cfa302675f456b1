/-! ===== keep, bound ===== -/
section KEPT
variable {h : AH} {s t u v : Nat}
def tot (ow : List Nat) (kp : List Sn) : Nat := (kp.flatMap (encS ow)).length
/-- the eldest go until at most m are left, of at most n bytes -/
def dkp (ow : List Nat) (m n : Nat) : List Sn → List Sn
  | [] => []
  | s :: ks => if ks.length + 1 ≤ m ∧ tot ow (s :: ks) ≤ n then s :: ks else dkp ow m n ks
theorem tot_cons {ow : List Nat} {x : Sn} {ks : List Sn} : tot ow (x :: ks) = (encS ow x).length + tot ow ks := by simp [tot]
theorem tot_app {ow : List Nat} {x : Sn} {ks : List Sn} : tot ow (ks ++ [x]) = tot ow ks + (encS ow x).length := by simp [tot]
theorem dkp_tot {ow : List Nat} {m n : Nat} : ∀ kp : List Sn, tot ow (dkp ow m n kp) ≤ n ∧ (dkp ow m n kp).length ≤ m ∧ (dkp ow m n kp).length ≤ kp.length ∧ ∀ x ∈ dkp ow m n kp, x ∈ kp
  | [] => ⟨by simp [dkp, tot], by simp [dkp], by simp [dkp], fun x hx => by simp [dkp] at hx⟩
  | s :: ks => by
    have ih := dkp_tot (ow := ow) (m := m) (n := n) ks
    unfold dkp
    split
    · next hc => exact ⟨hc.2, by simpa using hc.1, by simp, fun x hx => hx⟩
    · exact ⟨ih.1, ih.2.1, by simp; omega, fun x hx => List.mem_cons_of_mem _ (ih.2.2.2 x hx)⟩
theorem dkp_app {ow : List Nat} {n : Nat} {x : Sn} (hx : (encS ow x).length ≤ n) : ∀ kp : List Sn, dkp ow 8 n (kp ++ [x]) = dkp ow 7 (n - (encS ow x).length) kp ++ [x]
  | [] => by simp [dkp, tot, hx]
  | s :: ks => by
    have ih := dkp_app hx ks
    have e := tot_app (ow := ow) (x := x) (ks := s :: ks)
    simp only [List.cons_append] at e ⊢
    unfold dkp
    by_cases hc : ks.length + 1 ≤ 7 ∧ tot ow (s :: ks) ≤ n - (encS ow x).length
    · rw [if_pos hc, if_pos ⟨by simp; omega, by omega⟩]
      rfl
    · rw [if_neg hc, if_neg (fun z => hc ⟨by have := z.1; simp at this; omega, by have := z.2; omega⟩)]
      exact ih
/-! the class -/
theorem p_dropLoop {n : Nat} (hn : n ≤ 7) : ∀ (m i z : Nat) (h : AH), RX h s t u v → h.1 17 4 = nI n → i + m = n → m < z → ∃ h1, fX2_dropEldest_32 GG z 17 (nI i) h = some ((), h1) ∧ Fr h h1 [20, 21, 22] ∧ (∀ j, h1.1 20 j = if i ≤ j ∧ j < n then h.1 20 (j + 1) else h.1 20 j) ∧ (∀ j, h1.1 21 j = if i ≤ j ∧ j < n then h.1 21 (j + 1) else h.1 21 j) ∧ (∀ j, h1.1 22 j = if i ≤ j ∧ j < n then h.1 22 (j + 1) else h.1 22 j)
  | m, i, 0, h, _, _, _, hz => by omega
  | 0, i, z + 1, h, hR, h4, hi, _ => by
    refine ⟨h, ?_, Fr.rf, fun j => by rw [if_neg (by omega)], fun j => by rw [if_neg (by omega)], fun j => by rw [if_neg (by omega)]⟩
    rw [fX2_dropEldest_32, h4, if_pos (by rw [pb_le (by omega) (by omega)]; omega)]
  | m + 1, i, z + 1, h, hR, h4, hi, hz => by
    generalize hh1 : am_setI h 20 i (h.1 20 (i + 1)) = h1
    generalize hh2 : am_setI h1 21 i (h1.1 21 (i + 1)) = h2
    generalize hh3 : am_setI h2 22 i (h2.1 22 (i + 1)) = h3
    have hR1 : RX h1 s t u v := by rw [← hh1]; exact hR.eq rfl
    have hR2 : RX h2 s t u v := by rw [← hh2]; exact hR1.eq rfl
    have hR3 : RX h3 s t u v := by rw [← hh3]; exact hR2.eq rfl
    have a21 : h1.1 21 = h.1 21 := by rw [← hh1, ps_n (by decide)]
    have a22 : h2.1 22 = h.1 22 := by rw [← hh2, ps_n (by decide), ← hh1, ps_n (by decide)]
    have b20 : h3.1 20 = upd (h.1 20) i (h.1 20 (i + 1)) := by rw [← hh3, ps_n (by decide), ← hh2, ps_n (by decide), ← hh1, ps_s]
    have b21 : h3.1 21 = upd (h.1 21) i (h.1 21 (i + 1)) := by rw [← hh3, ps_n (by decide), ← hh2, ps_s, a21]
    have b22 : h3.1 22 = upd (h.1 22) i (h.1 22 (i + 1)) := by rw [← hh3, ps_s, a22]
    have F3 : Fr h h3 [20, 21, 22] := by rw [← hh3, ← hh2, ← hh1]; exact ((Fr.set (by simp)).tr (Fr.set (by simp))).tr (Fr.set (by simp))
    obtain ⟨h4', e1, e2, e3, e4, e5⟩ := p_dropLoop hn m (i + 1) z h3 hR3 (by rw [F3.2 17 (by decide)]; exact h4) (by omega) (by omega)
    have fin : ∀ (f g g' : Nat → Int32), g = upd f i (f (i + 1)) → (∀ j, g' j = if i + 1 ≤ j ∧ j < n then g (j + 1) else g j) → ∀ j, g' j = if i ≤ j ∧ j < n then f (j + 1) else f j := by
      intro f g g' hg hg' j
      rw [hg' j, hg]
      by_cases hj : i + 1 ≤ j ∧ j < n
      · rw [if_pos hj, if_pos (by omega), ps_un (by omega)]
      · rw [if_neg hj]
        by_cases he : j = i
        · subst he
          rw [ps_us, if_pos (by omega)]
        · rw [ps_un he, if_neg (by omega)]
    refine ⟨h4', ?_, F3.tr e2, fin _ _ _ b20 e3, fin _ _ _ b21 e4, fin _ _ _ b22 e5⟩
    refine Eq.trans ?_ e1
    rw [fX2_dropEldest_32, h4, if_neg (by rw [pb_le (by omega) (by omega)]; omega), if_neg (by rw [pb_le (by omega) (by omega)]; omega), hR.r17_1, Option.bind_some, Option.bind_some, ln_20, pb_add, if_pos (pb_ok (by omega) (by decide)), if_pos (pb_ok (by omega) (by decide)), pb_cl (by omega), pb_cl (by omega), am_let_eq, hh1, hR1.r17_2, Option.bind_some, Option.bind_some, ln_21, if_pos (pb_ok (by omega) (by decide)), if_pos (pb_ok (by omega) (by decide)), am_let_eq, hh2, hR2.r17_3, Option.bind_some, Option.bind_some, ln_22, if_pos (pb_ok (by omega) (by decide)), if_pos (pb_ok (by omega) (by decide)), am_let_eq, hh3]
theorem p_dropEldest {ow : List Nat} {x : Sn} {ks : List Sn} {bd : Nat} (hR : RX h s t u v) (hC : CK h (x :: ks) ow bd) (hl : ks.length ≤ 7) : ∃ h1, fX2_dropEldest GG 17 h = some ((), h1) ∧ CK h1 ks ow bd ∧ Fr h h1 [17, 18, 19, 20, 21, 22] := by
  obtain ⟨c1, c2, c3, c4⟩ := hC
  have hsz := (c4 0 x rfl).2.1
  obtain ⟨h1, a1, a2, a3⟩ := p_dropFirst (Γ := GG) c1 ln_19 (by decide) (by decide) (n := (encS ow x).length) (by simp)
  have hlx : (encS ow x).length ≤ 10000 := by have := c1.2.1; simp at this; omega
  have k1 : ∀ a, a ≠ 18 → a ≠ 19 → h1.1 a = h.1 a := fun a p q => a3.2 a (by simp [p, q])
  have hR1 := hR.eq a3.1
  simp only [List.flatMap_cons, List.drop_left] at a2
  have h4 : (am_setI h1 17 4 (nI ks.length)).1 17 4 = nI ks.length := by rw [ps_s, ps_us]
  obtain ⟨h2, b1, b2, b3, b4, b5⟩ := p_dropLoop (s := s) (t := t) (u := u) (v := v) hl ks.length 0 am_fuel (am_setI h1 17 4 (nI ks.length)) (hR1.eq rfl) h4 (by omega) (by unfold am_fuel; omega)
  have hc : ∀ a, a = 20 ∨ a = 21 ∨ a = 22 → ∀ j, (am_setI h1 17 4 (nI ks.length)).1 a j = h.1 a j := fun a ha j => by rw [ps_n (by omega), k1 a (by omega) (by omega)]
  refine ⟨h2, ?_, ⟨?_, ?_, ?_, ?_⟩, ((a3.mo (by simp)).tr (Fr.set (by simp))).tr (b2.mo (by simp))⟩
  · unfold fX2_dropEldest
    rw [c2, if_neg (by simp only [List.length_cons]; rw [pb_le0 (by omega)]; omega), hR.r17_0, Option.bind_some, hR.r17_2, Option.bind_some, ln_21, if_pos (pb_ok (by decide) (by decide)), pb_cl (by decide), hsz, a1, am_bs, k1 17 (by decide) (by decide), c2, List.length_cons, pb_pred, am_let_eq]
    exact b1
  · exact a2.eq (by rw [b2.1]; rfl) (by rw [b2.2 18 (by decide), ps_n (by decide)]) (by rw [b2.2 19 (by decide), ps_n (by decide)])
  · rw [b2.2 17 (by decide)]; exact h4
  · rw [b2.2 17 (by decide), ps_s, ps_un (by decide), k1 17 (by decide) (by decide)]; exact c3
  · intro i y hy
    have hi := (List.getElem?_eq_some_iff.mp hy).1
    have := c4 (i + 1) y (by simpa using hy)
    rw [b3 i, b4 i, b5 i, if_pos (by omega), if_pos (by omega), if_pos (by omega), hc 20 (by omega), hc 21 (by omega), hc 22 (by omega)]
    exact this
theorem p_shrink_loop {ow : List Nat} {bd m n : Nat} (hm : m ≤ 8) (hn : n ≤ 10000) : ∀ (kp : List Sn) (i z : Nat) (h : AH), RX h s t u v → CK h kp ow bd → kp.length + i ≤ 8 → kp.length < z → ∃ h1, fX2_shrink_2 GG z 17 (nI m) (nI n) (nI i) h = some ((), h1) ∧ CK h1 (dkp ow m n kp) ow bd ∧ Fr h h1 [17, 18, 19, 20, 21, 22]
  | kp, i, 0, h, _, _, _, hz => by omega
  | [], i, z + 1, h, hR, hC, hi, _ => by
    refine ⟨h, ?_, hC, Fr.rf⟩
    rw [fX2_shrink_2]
    by_cases h8 : i = 8
    · rw [if_pos (by rw [pb_le (by omega) (by omega)]; omega)]
    · rw [if_neg (by rw [pb_le (by omega) (by simp at hi; omega)]; simp at hi; omega), hC.2.1, if_neg (by rw [pb_ltI (by omega) (by simp)]; simp), hR.r17_0, Option.bind_some, hC.1.2.2.1, if_pos (by rw [pb_le (by simp) (by omega)]; simp)]
  | x :: ks, i, z + 1, h, hR, hC, hi, hz => by
    simp only [List.length_cons] at hi hz
    have htot : tot ow (x :: ks) ≤ 10000 := hC.1.2.1
    obtain ⟨h1, e1, e2, e3⟩ := p_dropEldest hR hC (by omega)
    obtain ⟨h2, f1, f2, f3⟩ := p_shrink_loop hm hn ks (i + 1) z h1 (hR.eq e3.1) e2 (by omega) (by omega)
    have step : fX2_shrink_27 GG (fX2_shrink_2 GG z) 17 (nI m) (nI n) (nI i) h = some ((), h2) := by
      unfold fX2_shrink_27
      rw [e1, am_bs, pb_add]
      exact f1
    have hsz : h.1 18 1 = nI (tot ow (x :: ks)) := hC.1.2.2.1
    rw [fX2_shrink_2, if_neg (by rw [pb_le (by omega) (by omega)]; omega), hC.2.1, List.length_cons]
    unfold dkp
    by_cases c1 : ks.length + 1 ≤ m
    · rw [if_neg (by rw [pb_ltI (by omega) (by omega)]; omega), hR.r17_0, Option.bind_some, hsz]
      by_cases c2 : tot ow (x :: ks) ≤ n
      · refine ⟨h, ?_, ?_, Fr.rf⟩
        · rw [if_pos (by rw [pb_le (by omega) (by omega)]; omega)]
        · rw [if_pos ⟨c1, c2⟩]
          exact hC
      · refine ⟨h2, ?_, ?_, e3.tr f3⟩
        · rw [if_neg (by rw [pb_le (by omega) (by omega)]; omega)]
          exact step
        · rw [if_neg (fun z => c2 z.2)]
          exact f2
    · refine ⟨h2, ?_, ?_, e3.tr f3⟩
      · rw [if_pos (by rw [pb_ltI (by omega) (by omega)]; omega)]
        exact step
      · rw [if_neg (fun z => c1 z.1)]
        exact f2
theorem p_shrink {ow : List Nat} {bd m n : Nat} {kp : List Sn} (hm : m ≤ 8) (hn : n ≤ 10000) (hR : RX h s t u v) (hC : CK h kp ow bd) (hl : kp.length ≤ 8) : ∃ h1, fX2_shrink GG 17 (nI m) (nI n) h = some ((), h1) ∧ CK h1 (dkp ow m n kp) ow bd ∧ Fr h h1 [17, 18, 19, 20, 21, 22] := by
  unfold fX2_shrink
  exact p_shrink_loop hm hn kp 0 am_fuel h hR hC (by omega) (by unfold am_fuel; omega)
theorem p_kadd {ow : List Nat} {bd : Nat} {kp : List Sn} {x : Sn} (hR : RX h s t u v) (hC : CK h kp ow bd) (hl : kp.length ≤ 8) (hB : Byt h 12 13 3860 (encS ow x)) (hb : bd ≤ 10000) (hx : (encS ow x).length ≤ bd) {y : Int32} (hy : y = nI (encB x.1 ow 0).length) {p : Int32} (hp : p = nI x.2.1) : ∃ h1, fX2_add GG 17 12 y p h = some ((), h1) ∧ CK h1 (dkp ow 7 (bd - (encS ow x).length) kp ++ [x]) ow bd ∧ Fr h h1 [17, 18, 19, 20, 21, 22] := by
  obtain ⟨h1, a1, a2, a3⟩ := p_shrink (m := 7) (n := bd - (encS ow x).length) (by decide) (by omega) hR hC hl
  have hR1 := hR.eq a3.1
  have hd := dkp_tot (ow := ow) (m := 7) (n := bd - (encS ow x).length) kp
  generalize dkp ow 7 (bd - (encS ow x).length) kp = kq at *
  have hB1 : Byt h1 12 13 3860 (encS ow x) := hB.fr a3 (by decide) (by decide)
  obtain ⟨d1, d2, d3, d4⟩ := id a2
  obtain ⟨h2, b1, b2, b3⟩ := p_addPart (Γ := GG) d1 hB1 ln_19 ln_13 (by decide) (by decide) (by decide) (by decide) (o := 0) (n := (encS ow x).length) (by omega) (by have := hd.1; unfold tot at this; omega)
  simp only [List.drop_zero, List.take_length] at b2
  have hR2 := hR1.eq b3.1
  have k2 : ∀ a, a ≠ 18 → a ≠ 19 → h2.1 a = h1.1 a := fun a p q => b3.2 a (by simp [p, q])
  have e4 : h2.1 17 4 = nI kq.length := by rw [k2 17 (by decide) (by decide)]; exact d2
  generalize hh3 : am_setI h2 20 kq.length y = h3
  generalize hh4 : am_setI h3 21 kq.length (nI (encS ow x).length) = h4
  generalize hh5 : am_setI h4 22 kq.length p = h5
  have hR3 : RX h3 s t u v := by rw [← hh3]; exact hR2.eq rfl
  have hR4 : RX h4 s t u v := by rw [← hh4]; exact hR3.eq rfl
  have e43 : h3.1 17 4 = nI kq.length := by rw [← hh3, ps_n (by decide)]; exact e4
  have e44 : h4.1 17 4 = nI kq.length := by rw [← hh4, ps_n (by decide)]; exact e43
  have e45 : h5.1 17 4 = nI kq.length := by rw [← hh5, ps_n (by decide)]; exact e44
  have e12 : h3.1 12 1 = nI (encS ow x).length := by rw [← hh3, ps_n (by decide), k2 12 (by decide) (by decide)]; exact hB1.2.2.1
  have kk : ∀ a, a ≠ 17 → a ≠ 20 → a ≠ 21 → a ≠ 22 → (am_setI h5 17 4 (nI (kq.length + 1))).1 a = h2.1 a := fun a p1 p2 p3 p4 => by rw [ps_n p1, ← hh5, ps_n p4, ← hh4, ps_n p3, ← hh3, ps_n p2]
  have e20 : (am_setI h5 17 4 (nI (kq.length + 1))).1 20 = upd (h1.1 20) kq.length y := by rw [ps_n (by decide), ← hh5, ps_n (by decide), ← hh4, ps_n (by decide), ← hh3, ps_s, k2 20 (by decide) (by decide)]
  have e21 : (am_setI h5 17 4 (nI (kq.length + 1))).1 21 = upd (h1.1 21) kq.length (nI (encS ow x).length) := by rw [ps_n (by decide), ← hh5, ps_n (by decide), ← hh4, ps_s, ← hh3, ps_n (by decide), k2 21 (by decide) (by decide)]
  have e22 : (am_setI h5 17 4 (nI (kq.length + 1))).1 22 = upd (h1.1 22) kq.length p := by rw [ps_n (by decide), ← hh5, ps_s, ← hh4, ps_n (by decide), ← hh3, ps_n (by decide), k2 22 (by decide) (by decide)]
  have F5 : Fr h2 (am_setI h5 17 4 (nI (kq.length + 1))) [17, 18, 19, 20, 21, 22] := by
    rw [← hh5, ← hh4, ← hh3]
    exact (((Fr.set (by simp)).tr (Fr.set (by simp))).tr (Fr.set (by simp))).tr (Fr.set (by simp))
  refine ⟨am_setI h5 17 4 (nI (kq.length + 1)), ?_, ⟨?_, ?_, ?_, ?_⟩, (a3.tr (b3.mo (by simp))).tr F5⟩
  · have g5 : h.1 17 5 = nI bd := hC.2.2.1
    have hB12 : h.1 12 1 = nI (encS ow x).length := hB.2.2.1
    unfold fX2_add
    rw [g5, hB12, pb_sub hx, a1, am_bs, d2, if_neg (nI_pos (by omega)), if_neg (by rw [pb_le (by omega) (by omega)]; omega), hR1.r17_0, Option.bind_some, hB1.2.2.1, b1, am_bs, hR2.r17_1, Option.bind_some, e4, ln_20, if_pos (pb_ok (by omega) (by decide)), pb_cl (by omega), am_let_eq, hh3, hR3.r17_2, Option.bind_some, e43, ln_21, if_pos (pb_ok (by omega) (by decide)), pb_cl (by omega), e12, am_let_eq, hh4, hR4.r17_3, Option.bind_some, e44, ln_22, if_pos (pb_ok (by omega) (by decide)), pb_cl (by omega), am_let_eq, hh5, e45, pb_add, am_let_eq]
  · have : (kq ++ [x]).flatMap (encS ow) = kq.flatMap (encS ow) ++ encS ow x := by simp
    rw [this]
    exact b2.eq (by rw [F5.1]) (kk 18 (by decide) (by decide) (by decide) (by decide)) (kk 19 (by decide) (by decide) (by decide) (by decide))
  · rw [ps_s, ps_us]; simp
  · rw [ps_s, ps_un (by decide), ← hh5, ps_n (by decide), ← hh4, ps_n (by decide), ← hh3, ps_n (by decide), k2 17 (by decide) (by decide)]; exact d3
  · intro i y' hy'
    have hlt := (List.getElem?_eq_some_iff.mp hy').1
    simp at hlt
    rw [e20, e21, e22]
    by_cases he : i = kq.length
    · subst he
      simp at hy'
      subst hy'
      rw [ps_us, ps_us, ps_us]
      exact ⟨hy, rfl, hp⟩
    · rw [List.getElem?_append_left (by omega)] at hy'
      rw [ps_un he, ps_un he, ps_un he]
      exact d4 i y' hy'
/-! the model -/
theorem fill_loopR {ρ : Type} (F : Nat → Nat → AH → Option ρ) (E : AH → Option ρ) (P : AH → Prop) (d o n : Nat) (f : Nat → Int32) (hs : ∀ (z i : Nat) (h : AH), P h → i < n → F (z + 1) i h = F z (i + 1) (am_setI h d (o + i) (f i))) (hp : ∀ (h : AH) (j : Nat) (v : Int32), o ≤ j → j < o + n → P h → P (am_setI h d j v)) (he : ∀ (z : Nat) (h : AH), P h → F (z + 1) n h = E h) : ∀ (m i z : Nat) (h : AH), i + m = n → m < z → P h → F z i h = E (am_fill h d (o + i) m (fun k => f (i + k)))
  | m, i, 0, h, _, hz, _ => by omega
  | 0, i, z + 1, h, hi, _, hP => by
    rw [am_fill0, show i = n by omega]
    exact he z h hP
  | m + 1, i, z + 1, h, hi, hz, hP => by
    rw [hs z i h hP (by omega), fill_loopR F E P d o n f hs hp he m (i + 1) z _ (by omega) (by omega) (hp _ _ _ (by omega) (by omega) hP)]
    congr 1
    have := am_fillS (h := h) (d := d) (o := o + i) (m := m) (f := fun k => f (i + k))
    rw [← this]
    congr 1
    funext k
    congr 1
    omega
theorem fill_loopR0 {ρ : Type} (F : Nat → Nat → AH → Option ρ) (E : AH → Option ρ) (P : AH → Prop) (d o n : Nat) (f : Nat → Int32) (hs : ∀ (z i : Nat) (h : AH), P h → i < n → F (z + 1) i h = F z (i + 1) (am_setI h d (o + i) (f i))) (hp : ∀ (h : AH) (j : Nat) (v : Int32), o ≤ j → j < o + n → P h → P (am_setI h d j v)) (he : ∀ (z : Nat) (h : AH), P h → F (z + 1) n h = E h) (h : AH) (hP : P h) (hn : n < 100000) : F am_fuel 0 h = E (am_fill h d o n f) := by
  have := fill_loopR F E P d o n f hs hp he n 0 am_fuel h (by omega) (by unfold am_fuel; omega) hP
  rw [this]
  simp only [Nat.add_zero, Nat.zero_add]
theorem q_elder46 {H : AH} (k0 : Nat → AH → Option (Unit × AH)) (k22 : Nat → Int32 → AH → Option (Unit × AH)) (hR : RX H s t u v) {i : Nat} (hi : i ≤ 7) : fX9_eldestGo_46 GG k0 k22 am_fuel 119 (nI (i + 1)) (nI 0) H = k22 119 (nI (i + 2)) (am_fill H 127 (2202 * i) 2202 (fun k => H.1 127 (2202 * (i + 1) + k))) := by
  refine fill_loopR0 (fun z k h => fX9_eldestGo_46 GG k0 k22 z 119 (nI (i + 1)) (nI k) h) (fun h => k22 119 (nI (i + 2)) h) (fun h => RX h s t u v ∧ ∀ k, k < 2202 → h.1 127 (2202 * (i + 1) + k) = H.1 127 (2202 * (i + 1) + k)) 127 (2202 * i) 2202 (fun k => H.1 127 (2202 * (i + 1) + k)) ?_ ?_ ?_ H ⟨hR, fun _ _ => rfl⟩ (by decide)
  · intro z k h hP hk
    rw [fX9_eldestGo_46, if_neg (by rw [pb_le (by omega) (by omega)]; omega), hP.1.r119_12, Option.bind_some, Option.bind_some, ln_127, pb_mul, pb_add, if_pos (pb_ok (by omega) (by decide)), pb_pred, pb_mul, pb_add, if_pos (pb_ok (by omega) (by decide)), pb_cl (by omega), pb_cl (by omega), am_let_eq, hP.2 k hk, pb_add]
  · intro h j w h1 h2 hP
    refine ⟨hP.1, fun k hk => ?_⟩
    rw [ps_s, ps_un (by omega)]
    exact hP.2 k hk
  · intro z h hP
    rw [fX9_eldestGo_46, if_pos (by rw [pb_le (by omega) (by omega)]; omega), pb_add]
theorem q_elder22 (k0 : Nat → AH → Option (Unit × AH)) {n : Nat} (hn : n ≤ 9) : ∀ (m i z : Nat) (H : AH), RX H s t u v → H.1 119 14 = nI n → i + 1 + m = n → m < z → ∃ H1, fX9_eldestGo_22 GG k0 z 119 (nI (i + 1)) H = k0 119 (am_setI H1 119 14 (nI (n - 1))) ∧ Fr H H1 [127, 128] ∧ (∀ j, H1.1 128 j = if i ≤ j ∧ j + 1 < n then H.1 128 (j + 1) else H.1 128 j) ∧ (∀ j k, k < 2202 → H1.1 127 (2202 * j + k) = if i ≤ j ∧ j + 1 < n then H.1 127 (2202 * (j + 1) + k) else H.1 127 (2202 * j + k))
  | m, i, 0, H, _, _, _, hz => by omega
  | 0, i, z + 1, H, hR, h14, hi, _ => by
    refine ⟨H, ?_, Fr.rf, fun j => by rw [if_neg (by omega)], fun j k _ => by rw [if_neg (by omega)]⟩
    rw [fX9_eldestGo_22, h14, if_pos (by rw [pb_le (by omega) (by omega)]; omega), am_let_eq, pb_sub (by omega)]
  | m + 1, i, z + 1, H, hR, h14, hi, hz => by
    generalize hh1 : am_setI H 128 i (H.1 128 (i + 1)) = G1
    have hR1 : RX G1 s t u v := by rw [← hh1]; exact hR.eq rfl
    have e46 := q_elder46 k0 (fX9_eldestGo_22 GG k0 z) hR1 (i := i) (by omega)
    generalize hh2 : am_fill G1 127 (2202 * i) 2202 (fun k => G1.1 127 (2202 * (i + 1) + k)) = G2 at e46
    have hR2 : RX G2 s t u v := by rw [← hh2]; exact hR1.eq rfl
    have F2 : Fr H G2 [127, 128] := by rw [← hh2, ← hh1]; exact (Fr.set (by simp)).tr (Fr.fill (by simp))
    have w2 : G2.1 128 = upd (H.1 128) i (H.1 128 (i + 1)) := by rw [← hh2, pf_n (by decide), ← hh1, ps_s]
    have g127 : G1.1 127 = H.1 127 := by rw [← hh1, ps_n (by decide)]
    have r2 : ∀ j k, k < 2202 → G2.1 127 (2202 * j + k) = if j = i then H.1 127 (2202 * (i + 1) + k) else H.1 127 (2202 * j + k) := by
      intro j k hk
      rw [← hh2, pf_s, g127]
      by_cases he : j = i
      · subst he
        rw [if_pos (by omega), if_pos rfl, show 2202 * j + k - 2202 * j = k by omega]
      · rw [if_neg (by omega), if_neg he]
    obtain ⟨H1, e1, e2, e3, e4⟩ := q_elder22 k0 hn m (i + 1) z G2 hR2 (by rw [F2.2 119 (by decide)]; exact h14) (by omega) (by omega)
    refine ⟨H1, ?_, F2.tr e2, fun j => ?_, fun j k hk => ?_⟩
    · refine Eq.trans ?_ e1
      rw [fX9_eldestGo_22, h14, if_neg (by rw [pb_le (by omega) (by omega)]; omega), hR.r119_13, Option.bind_some, Option.bind_some, ln_128, if_pos (pb_ok (by omega) (by decide)), pb_pred, if_pos (pb_ok (by omega) (by decide)), pb_cl (by omega), pb_cl (by omega), am_let_eq, hh1]
      exact e46
    · rw [e3 j, w2]
      by_cases hj : i + 1 ≤ j ∧ j + 1 < n
      · rw [if_pos hj, if_pos (by omega), ps_un (by omega)]
      · rw [if_neg hj]
        by_cases he : j = i
        · subst he
          rw [ps_us, if_pos (by omega)]
        · rw [ps_un he, if_neg (by omega)]
    · rw [e4 j k hk]
      by_cases hj : i + 1 ≤ j ∧ j + 1 < n
      · rw [if_pos hj, if_pos (by omega), r2 (j + 1) k hk, if_neg (by omega)]
      · rw [if_neg hj, r2 j k hk]
        by_cases he : j = i
        · subst he
          rw [if_pos rfl, if_pos (by omega)]
        · rw [if_neg he, if_neg (by omega)]
theorem SeM.on {g g1 : Nat → Int32} {x : Sn} (hs : SeM g x) (hw : WSn x) (he : ∀ k, k < 2202 → g1 k = g k) : SeM g1 x := by
  obtain ⟨mm, pc, fs⟩ := x
  obtain ⟨c1, c2, c3, c4⟩ := hs
  obtain ⟨w1, w2, w3, w4, w5⟩ := hw
  refine ⟨fun i hi => by rw [he i (by omega)]; exact c1 i hi, by rw [he _ (by omega)]; exact c2, by rw [he _ (by omega)]; exact c3, fun i fm hi => ?_⟩
  have hlt := (List.getElem?_eq_some_iff.mp hi).1
  exact (c4 i fm hi).eq (w5 fm (List.mem_of_getElem? hi)).len (fun k h1 h2 => he k (by omega))
theorem q_eldestGo_loop {ow : List Nat} {bd : Nat} (hb : bd ≤ 10000) : ∀ (L : List Sn) (z : Nat) (H : AH), RX H s t u v → MK H L ow bd → (∀ x ∈ L, WSn x) → L.length ≤ 9 → L.length < z → ∃ H1, fX9_eldestGo_0 GG z 119 H = some ((), H1) ∧ MK H1 (dkp ow 8 bd L) ow bd ∧ Fr H H1 [119, 127, 128] ∧ ∀ j, j ≠ 14 → H1.1 119 j = H.1 119 j
  | L, 0, H, _, _, _, _, hz => by omega
  | [], z + 1, H, hR, hK, hw, hl, _ => by
    refine ⟨H, ?_, hK, Fr.rf, fun _ _ => rfl⟩
    have hs := q_sum hR (ws := []) hK.1 (by simp) (fun i w hw => by simp at hw)
    rw [fX9_eldestGo_0, hK.1, if_neg (by rw [pb_ltI (by omega) (by simp)]; simp), hs, am_bs, hK.2.1, if_pos (by rw [pb_le (by simp) (by omega)]; simp)]
  | x :: L, z + 1, H, hR, hK, hw, hl, hz => by
    simp only [List.length_cons] at hl hz
    obtain ⟨H1, e1, e2, e3, e4⟩ := q_elder22 (s := s) (t := t) (u := u) (v := v) (fX9_eldestGo_0 GG z) (n := L.length + 1) (by omega) L.length 0 am_fuel H hR hK.1 (by omega) (by unfold am_fuel; omega)
    have hR1 : RX (am_setI H1 119 14 (nI L.length)) s t u v := hR.eq e2.1
    have hK1 : MK (am_setI H1 119 14 (nI L.length)) L ow bd := by
      refine ⟨by rw [ps_s, ps_us], by rw [ps_s, ps_un (by decide), e2.2 119 (by decide)]; exact hK.2.1, fun i y hy => ?_⟩
      have hi := (List.getElem?_eq_some_iff.mp hy).1
      obtain ⟨a1, a2⟩ := hK.2.2 (i + 1) y (by simpa using hy)
      refine ⟨a1.on (hw y (List.mem_cons_of_mem _ (List.mem_of_getElem? hy))) (fun k hk => ?_), ?_⟩
      · rw [ps_n (by decide), e4 i k hk, if_pos (by omega)]
      · rw [ps_n (by decide), e3 i, if_pos (by omega)]
        exact a2
    obtain ⟨H2, f1, f2, f3, f4⟩ := q_eldestGo_loop hb L z (am_setI H1 119 14 (nI L.length)) hR1 hK1 (fun y hy => hw y (List.mem_cons_of_mem _ hy)) (by omega) (by omega)
    have FF : Fr H H2 [119, 127, 128] := ((e2.mo (by simp)).tr (Fr.set (by simp))).tr f3
    have FJ : ∀ j, j ≠ 14 → H2.1 119 j = H.1 119 j := fun j hj => by rw [f4 j hj, ps_s, ps_un hj, e2.2 119 (by decide)]
    have step : fX9_eldestGo_20 GG (fX9_eldestGo_0 GG z) 119 H = some ((), H2) := by
      unfold fX9_eldestGo_20
      exact e1.trans f1
    have hs := q_sum hR (ws := (x :: L).map (fun s => (encS ow s).length)) (by rw [hK.1]; simp) (by simp; omega) hK.wt
    have htot : ((x :: L).map (fun s => (encS ow s).length)).sum = tot ow (x :: L) := by unfold tot; rw [List.length_flatMap]
    rw [htot] at hs
    have hlt : tot ow (x :: L) < 2 ^ 31 := by
      have : ∀ l : List Sn, (∀ y ∈ l, WSn y) → tot ow l ≤ 3860 * l.length := by
        intro l
        induction l with
        | nil => intro _; simp [tot]
        | cons y l ih =>
          intro hy
          have h1 := ih (fun z hz => hy z (List.mem_cons_of_mem _ hz))
          have h2 := encS_len (ow := ow) (hy y List.mem_cons_self)
          rw [tot_cons]
          simp only [List.length_cons]
          omega
      have := this (x :: L) hw
      simp only [List.length_cons] at this
      omega
    rw [fX9_eldestGo_0, hK.1, List.length_cons]
    unfold dkp
    by_cases c1 : L.length + 1 ≤ 8
    · rw [if_neg (by rw [pb_ltI (by omega) (by omega)]; omega), hs, am_bs, hK.2.1]
      by_cases c2 : tot ow (x :: L) ≤ bd
      · refine ⟨H, ?_, ?_, Fr.rf, fun _ _ => rfl⟩
        · rw [if_pos (by rw [pb_le hlt (by omega)]; omega)]
        · rw [if_pos ⟨c1, c2⟩]
          exact hK
      · refine ⟨H2, ?_, ?_, FF, FJ⟩
        · rw [if_neg (by rw [pb_le hlt (by omega)]; omega)]
          exact step
        · rw [if_neg (fun z => c2 z.2)]
          exact f2
    · refine ⟨H2, ?_, ?_, FF, FJ⟩
      · rw [if_pos (by rw [pb_ltI (by omega) (by omega)]; omega)]
        exact step
      · rw [if_neg (fun z => c1 z.1)]
        exact f2
theorem q_eldestGo {ow : List Nat} {bd : Nat} {L : List Sn} {H : AH} (hb : bd ≤ 10000) (hR : RX H s t u v) (hK : MK H L ow bd) (hw : ∀ x ∈ L, WSn x) (hl : L.length ≤ 9) : ∃ H1, fX9_eldestGo GG 119 H = some ((), H1) ∧ MK H1 (dkp ow 8 bd L) ow bd ∧ Fr H H1 [119, 127, 128] ∧ ∀ j, j ≠ 14 → H1.1 119 j = H.1 119 j := by
  unfold fX9_eldestGo
  exact q_eldestGo_loop hb L am_fuel H hR hK hw hl (by unfold am_fuel; omega)
/-- the kept ones alone have changed -/
theorem inv_kept {h h2 : AH} {s t u v : Nat} {tp ou : List Nat} {dk : Option (List Nat)} {ct : Option Nat} {hd ow : List Nat} {ss : Sn} {kp kp' : List Sn} {bd bd' : Nat} {st : List (Nat × List Nat)} {cd : Nat} {pl : Option Nat} {ch : List (Nat × Nat × Nat)} (hw : WF (tp, ou, dk, ct, hd, ow, ss, kp, bd, st, cd, pl, ch)) (hx : CX h s t u v (tp, ou, dk, ct, hd, ow, ss, kp, bd, st, cd, pl, ch)) (hm : MX h s t u v (tp, ou, dk, ct, hd, ow, ss, kp, bd, st, cd, pl, ch)) (e2 : h2.2 = h.2) (k : ∀ a, (a < 12 ∨ (14 ≤ a ∧ a ≤ 16) ∨ (23 ≤ a ∧ a ≤ 118) ∨ (120 ≤ a ∧ a ≤ 126) ∨ (129 ≤ a ∧ a ≤ 133)) → h2.1 a = h.1 a) (kj : ∀ j, j ≠ 27 → j ≠ 14 → j ≠ 15 → h2.1 119 j = h.1 119 j) (c6' : CK h2 kp' ow bd') (m7' : MK h2 kp' ow bd') (w0 : ow = [] → kp' = []) (w3' : ow ≠ [] → ∀ s ∈ kp', WS ow s) (w4' : kp'.length ≤ 8 ∧ bd' ≤ 10000 ∧ (kp'.flatMap (encS ow)).length ≤ bd') : Inv h2 := by
  have hfr := hw.fr.1
  have hs' : s = 23 ∨ s = 66 := hx.2.1.1
  have hu' : u = 109 ∨ u = 114 := hx.2.1.2.2.2.1
  obtain ⟨c0, c1, c2, c3, c4, c5, c6, c7, c8, c9⟩ := id hx
  obtain ⟨m0, m1, m2, m3, m4, m5, m6, m7, m8, m9, m10⟩ := id hm
  refine ⟨s, t, u, v, (tp, ou, dk, ct, hd, ow, ss, kp', bd', st, cd, pl, ch), ?_, ?_, ?_⟩
  · obtain ⟨w1, w2, w3, w4, w5, w6, w7, w8, w9, w10, w11⟩ := hw
    exact ⟨w1, w2, w3, w4, w5, w6, ⟨fun h => ⟨(w7.1 h).1, w0 h, (w7.1 h).2.2⟩, fun h => ⟨(w7.2 h).1, w3' h⟩⟩, w4', w9, w10, w11⟩
  · exact ⟨c0.eq e2, c1, c2.eq (by rw [e2]) (k 2 (by omega)) (k 3 (by omega)), c3.eq e2 (fun a ha => k a (by omega)), c4.eq e2 (fun a ha => k a (by omega)), c5.eq (fun a ha => k a (by omega)), c6', c7.eq' hfr (fun a ha => k a (by omega)), c8.eq' e2 (fun a ha => k a (by omega)), by rw [k 0 (by omega)]; exact c9⟩
  · have f : ∀ (A : List Nat), (∀ a ∈ A, (120 ≤ a ∧ a ≤ 126) ∨ (129 ≤ a ∧ a ≤ 133)) → ∀ a ∈ A, h2.1 a = h.1 a := fun A hA a ha => k a (by have := hA a ha; omega)
    have e : ∀ (J : List Nat), (∀ j ∈ J, j ≠ 27 ∧ j ≠ 14 ∧ j ≠ 15) → ∀ j ∈ J, h2.1 119 j = h.1 119 j := fun J hJ j hj => kj j (hJ j hj).1 (hJ j hj).2.1 (hJ j hj).2.2
    exact ⟨m0.eq e2, m1.eq (e _ (by decide)) (f _ (by decide)), m2.eq (e _ (by decide)) (f _ (by decide)), m3.eq (e _ (by decide)) (f _ (by decide)), m4.eq (e _ (by decide)) (f _ (by decide)), m5.eq (e _ (by decide)) (f _ (by decide)), m6.eq (e _ (by decide)) (f _ (by decide)), m7', m8.eq (e _ (by decide)) (f _ (by decide)), m9.eq (e _ (by decide)) (f _ (by decide)), m10.eq (e _ (by decide)) (f _ (by decide))⟩
theorem dkp_88 {ow : List Nat} {n : Nat} : ∀ kp : List Sn, kp.length ≤ 8 → dkp ow 8 n kp = dkp ow 8 n kp := fun _ _ => rfl
theorem st_bound (hI : Inv h) (x : Int32) : ∃ r h1 h2, fX8_bound GG 0 x h = some (r, h1) ∧ fX9_bound GG 119 x h1 = some (r, h2) ∧ Inv h2 := by
  obtain ⟨s, t, u, v, ⟨tp, ou, dk, ct, hd, ow, ss, kp, bd, st, cd, pl, ch⟩, hw, hx, hm⟩ := id hI
  have hR := hx.1
  obtain ⟨c0, c1, c2, c3, c4, c5, c6, c7, c8, c9⟩ := id hx
  obtain ⟨m0, m1, m2, m3, m4, m5, m6, m7, m8, m9, m10⟩ := id hm
  have hk8 := hw.2.2.2.2.2.2.2.1.1
  by_cases hin : 0 ≤ x ∧ x ≤ nI 10000
  · obtain ⟨n, hn, rfl⟩ := in_nI (by decide) hin
    have hC0 : CK (am_setI h 17 5 (nI n)) kp ow n := by
      refine ⟨c6.1.eq rfl (ps_n (by decide)) (ps_n (by decide)), by rw [ps_s, ps_un (by decide)]; exact c6.2.1, by rw [ps_s, ps_us], fun i y hy => ?_⟩
      rw [ps_n (by decide), ps_n (by decide), ps_n (by decide)]
      exact c6.2.2.2 i y hy
    have hR0 : RX (am_setI h 17 5 (nI n)) s t u v := hR.eq rfl
    obtain ⟨h1, a1, a2, a3⟩ := p_shrink (m := 8) (n := n) (by decide) hn hR0 hC0 hk8
    have F1 : Fr h h1 [17, 18, 19, 20, 21, 22] := (Fr.set (by simp)).tr a3
    have k1 : ∀ a, (a < 17 ∨ 22 < a) → h1.1 a = h.1 a := fun a ha => F1.2 a (by simp; omega)
    have hR1 := hR.eq F1.1
    have hKm : MK (am_setI h1 119 15 (nI n)) kp ow n := by
      refine ⟨by rw [ps_s, ps_un (by decide), k1 119 (by omega)]; exact m7.1, by rw [ps_s, ps_us], fun i y hy => ?_⟩
      rw [ps_n (by decide), ps_n (by decide), k1 127 (by omega), k1 128 (by omega)]
      exact m7.2.2 i y hy
    have hWn : ∀ y ∈ kp, WSn y := by
      intro y hy
      by_cases ho : ow = []
      · rw [(hw.2.2.2.2.2.2.1.1 ho).2.1] at hy
        simp at hy
      · exact ((hw.2.2.2.2.2.2.1.2 ho).2 y hy).1
    obtain ⟨h2, b1, b2, b3, b4⟩ := q_eldestGo (H := am_setI h1 119 15 (nI n)) (s := s) (t := t) (u := u) (v := v) hn (hR1.eq rfl) hKm hWn (by omega)
    have hd := dkp_tot (ow := ow) (m := 8) (n := n) kp
    have k2 : ∀ a, a ≠ 119 → a ≠ 127 → a ≠ 128 → h2.1 a = h1.1 a := fun a p q r => by rw [b3.2 a (by simp [p, q, r]), ps_n p]
    refine ⟨nI bd, h1, h2, ?_, ?_, ?_⟩
    · unfold fX8_bound
      rw [p_within _ (by decide), if_pos hin, am_bs, if_neg (by decide), hR.r0_7, Option.bind_some, c6.2.2.1, am_let_eq, Option.bind_some, am_let_eq, hR0.r0_7, Option.bind_some, a1, am_bs]
    · unfold fX9_bound
      rw [q_outside _ (by decide), if_pos hin, am_bs, if_pos (by decide), k1 119 (by omega), m7.2.1, am_let_eq, am_let_eq, b1, am_bs]
    · refine inv_kept (kp' := dkp ow 8 n kp) (bd' := n) hw hx hm (b3.1.trans F1.1) (fun a ha => by rw [k2 a (by omega) (by omega) (by omega), k1 a (by omega)]) (fun j p q r => by rw [b4 j q, ps_s, ps_un r, k1 119 (by omega)]) (a2.eq b3.1 (fun a ha => k2 a (by omega) (by omega) (by omega))) b2 (fun ho => by rw [(hw.2.2.2.2.2.2.1.1 ho).2.1]; rfl) (fun ho y hy => (hw.2.2.2.2.2.2.1.2 ho).2 y (hd.2.2.2 y hy)) ⟨hd.2.1, hn, hd.1⟩
  · refine ⟨-1, h, h, ?_, ?_, hI⟩
    · unfold fX8_bound
      rw [p_within _ (by decide), if_neg hin, am_bs, if_pos (by decide)]
    · unfold fX9_bound
      rw [q_outside _ (by decide), if_neg hin, am_bs, if_neg (by decide)]
theorem q_keep42 {H : AH} (hR : RX H s t u v) {n : Nat} (hn : n ≤ 8) (h14 : H.1 119 14 = nI n) (M : AH) (hM : M = am_setI (am_fill H 127 (2202 * n) 2202 (H.1 125)) 119 14 (nI (n + 1))) : fX9_keep_42 GG am_fuel 119 (nI 0) H = am_bind (fX9_eldestGo GG 119 M) fun r87 h87 => some (h87.1 119 14, h87) := by
  subst hM
  refine fill_loop0 (fun z k h => fX9_keep_42 GG z 119 (nI k) h) (fun h => am_bind (fX9_eldestGo GG 119 (am_setI h 119 14 (nI (n + 1)))) fun r87 h87 => some (h87.1 119 14, h87)) (fun h => RX h s t u v ∧ h.1 119 14 = nI n ∧ h.1 125 = H.1 125) 127 (2202 * n) 2202 (H.1 125) ?_ (fun h j w hP => ⟨hP.1, by rw [ps_n (by decide)]; exact hP.2.1, by rw [ps_n (by decide)]; exact hP.2.2⟩) ?_ H ⟨hR, h14, rfl⟩ (by decide)
  · intro z k h hP hk
    rw [fX9_keep_42, if_neg (by rw [pb_le (by omega) (by omega)]; omega), hP.1.r119_12, Option.bind_some, hP.1.r119_10, Option.bind_some, ln_125, if_pos (pb_ok (by omega) (by decide)), hP.2.1, pb_mul, pb_add, ln_127, if_pos (pb_ok (by omega) (by decide)), pb_cl (by omega), pb_cl (by omega), am_let_eq, hP.2.2, pb_add]
  · intro z h hP
    rw [fX9_keep_42, if_pos (by rw [pb_le (by omega) (by omega)]; omega), hP.2.1, pb_add, am_let_eq]
theorem st_keep (hI : Inv h) : ∃ r h1 h2, fX8_keep GG 0 h = some (r, h1) ∧ fX9_keep GG 119 h1 = some (r, h2) ∧ Inv h2 := by
  obtain ⟨s, t, u, v, ⟨tp, ou, dk, ct, hd, ow, ⟨mm, pc, fs⟩, kp, bd, st, cd, pl, ch⟩, hw, hx, hm⟩ := id hI
  have hR := hx.1
  obtain ⟨c0, c1, c2, c3, c4, c5, c6, c7, c8, c9⟩ := id hx
  obtain ⟨m0, m1, m2, m3, m4, m5, m6, m7, m8, m9, m10⟩ := id hm
  have hl : ow.length ≤ 1000 := hw.2.2.2.2.2.1.2
  by_cases ho : ow = []
  · refine ⟨-4, h, h, ?_, ?_, hI⟩
    · unfold fX8_keep
      rw [p_noStory hR c5 hl, am_bs, if_pos ho, if_neg (by decide)]
    · unfold fX9_keep
      rw [m5.1, ho, if_pos (by rfl)]
  · have hp := len_pos ho
    have hne : ¬ nI ow.length = 0 := by rw [pb_eq0 (by omega)]; omega
    have hs' : s = 23 ∨ s = 66 := c1.1
    obtain ⟨hwn, hmo⟩ := hw.wsn
    have hwE := encS_len (ow := ow) hwn
    have sm := m6 ho
    obtain ⟨hk8, hb, hkt⟩ := hw.2.2.2.2.2.2.2.1
    obtain ⟨h1, a1, a2, a3⟩ := p_weighNow c1.1 hR c5 c7 hwn hmo hw.2.2.2.2.2.1.1
    have hR1 := hR.eq a3.1
    have k1 : ∀ a, a ≠ 12 → a ≠ 13 → h1.1 a = h.1 a := fun a x y => a3.2 a (by simp [x, y])
    have hC1 : CK h1 kp ow bd := c6.eq a3.1 (fun a ha => k1 a (by omega) (by omega))
    by_cases hfit : (encS ow (mm, pc, fs)).length ≤ bd
    · obtain ⟨h2, b1, b2, b3⟩ := p_kadd (x := (mm, pc, fs)) hR1 hC1 hk8 a2 hb hfit (y := nI (encB mm ow 0).length) rfl (p := nI pc) rfl
      have hR2 := hR1.eq b3.1
      have k2 : ∀ a, (a < 12 ∨ (14 ≤ a ∧ a ≤ 16) ∨ 22 < a) → h2.1 a = h.1 a := fun a ha => by rw [b3.2 a (by simp; omega), k1 a (by omega) (by omega)]
      have e2r : h2.2 = h.2 := b3.1.trans a3.1
      -- the model
      obtain ⟨g1, q1, q2⟩ := q_weightOf (h := h2) hR2 (mm := mm) (pc := pc) (fs := fs) (by rw [k2 125 (by omega)]; exact sm) (m5.eq (fun j _ => by rw [k2 119 (by omega)]) (fun a ha => k2 a (by simp at ha; omega))) hwn hmo hw.2.2.2.2.2.1.1
      have hRg := hR2.eq q2.1.1
      have kg : ∀ a, a ≠ 119 → a ≠ 134 → g1.1 a = h2.1 a := fun a p q => q2.c p q
      have g14 : g1.1 119 14 = nI kp.length := by rw [q2.2 14 (by decide), k2 119 (by omega)]; exact m7.1
      have g15 : g1.1 119 15 = nI bd := by rw [q2.2 15 (by decide), k2 119 (by omega)]; exact m7.2.1
      generalize hG2 : am_setI g1 128 kp.length (nI (encS ow (mm, pc, fs)).length) = g2
      have hRg2 : RX g2 s t u v := by rw [← hG2]; exact hRg.eq rfl
      have g214 : g2.1 119 14 = nI kp.length := by rw [← hG2, ps_n (by decide)]; exact g14
      have e42 := q_keep42 hRg2 hk8 g214 _ rfl
      generalize hG3 : am_setI (am_fill g2 127 (2202 * kp.length) 2202 (g2.1 125)) 119 14 (nI (kp.length + 1)) = g3 at e42
      have g2125 : g2.1 125 = h.1 125 := by rw [← hG2, ps_n (by decide), kg 125 (by decide) (by decide), k2 125 (by omega)]
      have F3 : Fr g1 g3 [119, 127, 128] := by
        rw [← hG3, ← hG2]
        exact ((Fr.set (by simp)).tr (Fr.fill (by simp))).tr (Fr.set (by simp))
      have hRg3 := hRg.eq F3.1
      have g3j : ∀ j, j ≠ 14 → g3.1 119 j = g1.1 119 j := fun j hj => by rw [← hG3, ps_s, ps_un hj, pf_n (by decide), ← hG2, ps_n (by decide)]
      have hK3 : MK g3 (kp ++ [(mm, pc, fs)]) ow bd := by
        refine ⟨by rw [← hG3, ps_s, ps_us]; simp, by rw [g3j 15 (by decide)]; exact g15, fun i y hy => ?_⟩
        have hlt := (List.getElem?_eq_some_iff.mp hy).1
        simp at hlt
        by_cases he : i = kp.length
        · subst he
          simp at hy
          subst hy
          refine ⟨sm.on hwn (fun k hk => ?_), ?_⟩
          · rw [← hG3, ps_n (by decide), pf_in (by omega) (by omega), g2125, show 2202 * kp.length + k - 2202 * kp.length = k by omega]
          · rw [← hG3, ps_n (by decide), pf_n (by decide), ← hG2, ps_s, ps_us]
        · rw [List.getElem?_append_left (by omega)] at hy
          obtain ⟨d1, d2⟩ := m7.2.2 i y hy
          refine ⟨d1.on ((hw.2.2.2.2.2.2.1.2 ho).2 y (List.mem_of_getElem? hy)).1 (fun k hk => ?_), ?_⟩
          · rw [← hG3, ps_n (by decide), pf_out (by omega), ← hG2, ps_n (by decide), kg 127 (by decide) (by decide), k2 127 (by omega)]
          · rw [← hG3, ps_n (by decide), pf_n (by decide), ← hG2, ps_s, ps_un he, kg 128 (by decide) (by decide), k2 128 (by omega)]
            exact d2
      have hWn : ∀ y ∈ kp ++ [(mm, pc, fs)], WSn y := by
        intro y hy
        rcases List.mem_append.mp hy with hz | hz
        · exact ((hw.2.2.2.2.2.2.1.2 ho).2 y hz).1
        · simp at hz
          subst hz
          exact hwn
      obtain ⟨g4, r1, r2, r3, r4⟩ := q_eldestGo hb hRg3 hK3 hWn (by simp; omega)
      rw [dkp_app hfit] at r2
      have hdk := dkp_tot (ow := ow) (m := 7) (n := bd - (encS ow (mm, pc, fs)).length) kp
      have k4 : ∀ a, a ≠ 119 → a ≠ 127 → a ≠ 128 → a ≠ 134 → g4.1 a = h2.1 a := fun a p q r w => by rw [r3.2 a (by simp [p, q, r]), F3.2 a (by simp [p, q, r]), kg a p w]
      refine ⟨nI (dkp ow 7 (bd - (encS ow (mm, pc, fs)).length) kp ++ [(mm, pc, fs)]).length, h2, g4, ?_, ?_, ?_⟩
      · unfold fX8_keep
        have x1 : h1.1 12 1 = nI (encS ow (mm, pc, fs)).length := a2.2.2.1
        have x2 : h1.1 17 5 = nI bd := hC1.2.2.1
        have x3 : h1.1 s 3 = nI pc := by rw [k1 s (by omega) (by omega)]; exact c7.2.1
        rw [p_noStory hR c5 hl, am_bs, if_neg ho, if_pos (by decide), a1, am_bs, hR1.r0_5, Option.bind_some, hR1.r0_7, Option.bind_some, x1, x2, if_pos (by rw [pb_le (by omega) (by omega)]; exact hfit), Option.bind_some, Option.bind_some, hR1.r0_8, Option.bind_some, x3, b1, am_bs, hR2.r0_7, Option.bind_some, b2.2.1]
      · unfold fX9_keep
        rw [k2 119 (by omega), m5.1, if_neg hne, hR2.r119_10, Option.bind_some, q1, am_bs, g15, if_pos (by rw [pb_le (by omega) (by omega)]; exact hfit), hRg.r119_13, Option.bind_some, g14, ln_128, if_pos (pb_ok (by omega) (by decide)), pb_cl (by omega), am_let_eq, hG2, e42, r1, am_bs, r2.1]
      · refine inv_kept (kp' := dkp ow 7 (bd - (encS ow (mm, pc, fs)).length) kp ++ [(mm, pc, fs)]) (bd' := bd) hw hx hm ((r3.1.trans F3.1).trans (q2.1.1.trans e2r)) (fun a ha => by rw [k4 a (by omega) (by omega) (by omega) (by omega), k2 a (by omega)]) (fun j p q r => by rw [r4 j q, g3j j q, q2.2 j p, k2 119 (by omega)]) (b2.eq ((r3.1.trans F3.1).trans q2.1.1) (fun a ha => k4 a (by omega) (by omega) (by omega) (by omega))) r2 (fun h => absurd h ho) (fun _ y hy => ?_) ⟨by simp; omega, hb, ?_⟩
        · rcases List.mem_append.mp hy with hz | hz
          · exact (hw.2.2.2.2.2.2.1.2 ho).2 y (hdk.2.2.2 y hz)
          · simp at hz
            subst hz
            exact (hw.2.2.2.2.2.2.1.2 ho).1
        · have := tot_app (ow := ow) (x := (mm, pc, fs)) (ks := dkp ow 7 (bd - (encS ow (mm, pc, fs)).length) kp)
          unfold tot at this hdk
          rw [this]
          have := hdk.1
          omega
    · obtain ⟨g1, q1, q2⟩ := q_weightOf (h := h1) hR1 (mm := mm) (pc := pc) (fs := fs) (by rw [k1 125 (by omega) (by omega)]; exact sm) (m5.eq (fun j _ => by rw [k1 119 (by omega) (by omega)]) (fun a ha => k1 a (by simp at ha; omega) (by simp at ha; omega))) hwn hmo hw.2.2.2.2.2.1.1
      refine ⟨-3, h1, g1, ?_, ?_, inv_scr hw hx hm (q2.1.1.trans a3.1) (fun a x1 x2 x3 x4 => by rw [q2.c x3 x4, k1 a x1 x2]) (fun j hj => by rw [q2.2 j hj, k1 119 (by decide) (by decide)])⟩
      · unfold fX8_keep
        have x1 : h1.1 12 1 = nI (encS ow (mm, pc, fs)).length := a2.2.2.1
        have x2 : h1.1 17 5 = nI bd := hC1.2.2.1
        rw [p_noStory hR c5 hl, am_bs, if_neg ho, if_pos (by decide), a1, am_bs, hR1.r0_5, Option.bind_some, hR1.r0_7, Option.bind_some, x1, x2, if_neg (by rw [pb_le (by omega) (by omega)]; exact hfit)]
      · unfold fX9_keep
        rw [k1 119 (by omega) (by omega), m5.1, if_neg hne, hR1.r119_10, Option.bind_some, q1, am_bs, q2.2 15 (by decide), k1 119 (by omega) (by omega), m7.2.1, if_neg (by rw [pb_le (by omega) (by omega)]; exact hfit)]
end KEPT
