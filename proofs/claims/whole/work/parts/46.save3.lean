section SAVE3
variable {h : AH} {s t u v : Nat}
theorem MC.zero {h : AH} : MC (am_setI h 119 25 (nI 0)) [] := ⟨by rw [ps_s, ps_us]; rfl, fun i c hc => by simp at hc⟩
theorem q_save {hd ow mm : List Nat} {pc : Nat} {fs : List Fm} {st : List (Nat × List Nat)} {T : List Nat} (x : Int32) (hR : RX h s t u v) (hS : MS h hd ow) (hse : SeM (h.1 125) (mm, pc, fs)) (hw : WSn (mm, pc, fs)) (hmo : mm.length = ow.length) (bo : By ow) (hhd : hd.length = 10) (bh : By hd) (ho : ow ≠ []) (hG : MG h st) (hst : ∀ x ∈ st, x.1 < 4294967296 ∧ By x.2 ∧ x.2.length ≤ 200) (hl8 : st.length ≤ 8) (hT : (st.foldl addC (file3 x hd ow mm pc fs)).1 = be 1179603533 4 ++ (be 0 4 ++ T)) : ∃ h1, fX9_save GG 119 x h = some (nI (st.foldl addC (file3 x hd ow mm pc fs)).1.length, h1) ∧ MO h1 (be 1179603533 4 ++ (be ((st.foldl addC (file3 x hd ow mm pc fs)).1.length - 8) 4 ++ T)) ∧ MC h1 (st.foldl addC (file3 x hd ow mm pc fs)).2 ∧ Fr h h1 [119, 121, 131, 132, 133, 134] ∧ ∀ j, j ≠ 27 → j ≠ 25 → j ≠ 3 → h1.1 119 j = h.1 119 j := by
  obtain ⟨w1, w2, w3, w4, w5⟩ := hw
  have w3' : pc < 16777216 := w3
  have hD := encD_len fs w5
  have hB := encB_len mm ow 0
  have hp := len_pos ho
  have hfl : front.length = 12 := rfl
  have hne : ¬ nI ow.length = 0 := by rw [pb_eq0 (by omega)]; omega
  generalize hh0 : am_setI (am_setI h 119 27 (nI 0)) 119 25 (nI 0) = h0
  have K0 : Ks h h0 := by
    rw [← hh0]
    exact ⟨(Fr.set (by simp)).tr (Fr.set (by simp)), fun j p q => by rw [ps_s, ps_un q, ps_s, ps_un p]⟩
  have hR0 := hR.eq K0.1.1
  have M0 : Mk h0 [] := ⟨by rw [← hh0, ps_s, ps_un (by decide), ps_s, ps_us]; rfl, by simp, fun i hi => by simp at hi⟩
  have C0 : MC h0 [] := by rw [← hh0]; exact MC.zero
  obtain ⟨h1, a1, a2, a3⟩ := q_numberN hR0 M0 (d := 1179603533) (n := 4) (by decide) (by decide) (by simp)
  have hR1 := hR0.eq a3.1.1
  obtain ⟨h2, b1, b2, b3⟩ := q_numberN hR1 a2 (d := 0) (n := 4) (by decide) (by decide) (by simp [be_len])
  have hR2 := hR1.eq b3.1.1
  obtain ⟨h3, c1, c2, c3⟩ := q_numberN hR2 b2 (d := 1229347411) (n := 4) (by decide) (by decide) (by simp [be_len])
  have hR3 := hR2.eq c3.1.1
  have K3' := (a3.tr b3).tr c3
  have K3 := K0.tr K3'.ks
  have M3 : Mk h3 front := by simpa [front] using c2
  have C3 := K3'.mc C0
  -- the head
  obtain ⟨h4, d1, d2, d3, d4, d5, d6⟩ := q_open hR3 M3 C3 (name := 1229351012) (by simp) (by simp [hfl]) (by decide)
  have hR4 := hR3.eq d6.1.1
  have K4 := K3.tr d6
  obtain ⟨z1, h5, e1, e2, e3⟩ := q_save48 (s := s) (t := t) (u := u) (v := v) x hhd bh (h4.1 123) (by rw [K4.c (by omega)]; exact hS.2.1) hd 0 am_fuel h4 _ hR4 rfl rfl (by omega) (by unfold am_fuel; omega) d2 (by simp [be_len, hfl]; omega)
  have hR5 := hR4.eq e3.1.1
  have K5 := K4.tr e3.ks
  obtain ⟨h6, f1, f2, f3⟩ := q_numberN hR5 e2 (d := pc) (n := 3) (by omega) (by decide) (by simp [be_len, hfl]; omega)
  have hR6 := hR5.eq f3.1.1
  have K6 := K5.tr f3.ks
  have Kc := e3.tr f3
  obtain ⟨h7, g1, g2, g3, g4⟩ := q_close (bs := front) (c := hd ++ be pc 3) (name := 1229351012) hR6 f2 (Kc.mc d3) (by simp) (by simp) (by simp [be_len, hfl]; omega) (by rw [Kc.c (by decide) (by decide)]; exact d4) (by rw [Kc.c (by decide) (by decide)]; exact d5)
  have hR7 := hR6.eq g4.1.1
  have K7 := K6.tr g4
  have l1 : (addC (front, []) (1229351012, hd ++ be pc 3)).1.length = 34 := by rw [addC_len]; simp [be_len, hfl, hhd]
  have n1 : (addC (front, []) (1229351012, hd ++ be pc 3)).2.length = 1 := rfl
  generalize hS1 : addC (front, []) (1229351012, hd ++ be pc 3) = S1 at *
  -- memory
  have hmc : (memC x ow mm).1 < 4294967296 ∧ (memC x ow mm).2.length ≤ 1500 := by
    unfold memC
    split
    · exact ⟨by show 1129145709 < 4294967296; decide, by simp only; omega⟩
    · exact ⟨by show 1431135597 < 4294967296; decide, by simp only; omega⟩
  obtain ⟨h8, i1, i2, i3, i4, i5, i6⟩ := q_open hR7 g2 g3 (name := (memC x ow mm).1) (by omega) (by omega) hmc.1
  have hR8 := hR7.eq i6.1.1
  have K8 := K7.tr i6
  have se8 : SeM (h8.1 125) (mm, pc, fs) := by rw [K8.c (by omega)]; exact hse
  have ms8 : MS h8 hd ow := hS.eq (fun j hj => K8.2 j (by simp at hj; omega) (by simp at hj; omega)) (fun a ha => K8.c (by simp at ha; omega))
  have hcont : ∃ h9, (if x = 0 then (h8.2 119 10).bind fun b139 => am_bind (fX9_makeB GG 119 b139 h8) fun r142 h142 => fX9_save_145 GG 119 h142 else fX9_save_109 GG am_fuel 119 (nI 0) h8) = fX9_save_145 GG 119 h9 ∧ Mk h9 (S1.1 ++ (be (memC x ow mm).1 4 ++ be 0 4) ++ (memC x ow mm).2) ∧ Kp h8 h9 := by
    by_cases hx : x = 0
    · have hmcx : (memC x ow mm).2 = encB mm ow 0 := by unfold memC; rw [if_pos hx]
      obtain ⟨h9, p1, p2, p3⟩ := q_makeB hR8 se8 ms8 w1 hmo w2 bo i2 (by simp [be_len]; omega)
      refine ⟨h9, ?_, by rw [hmcx]; exact p2, p3⟩
      rw [if_pos hx, hR8.r119_10, Option.bind_some, p1, am_bs]
    · have hmcx : (memC x ow mm).2 = mm := by unfold memC; rw [if_neg hx]
      obtain ⟨h9, p1, p2, p3⟩ := q_save109 (s := s) (t := t) (u := u) (v := v) w1 w2 (h8.1 125) se8 mm 0 am_fuel h8 _ hR8 rfl (by rw [ms8.1, hmo]) rfl (by omega) (by unfold am_fuel; omega) i2 (by simp [be_len]; omega)
      refine ⟨h9, ?_, by rw [hmcx]; exact p2, p3⟩
      rw [if_neg hx]
      exact p1
  obtain ⟨h9, j1, j2, j3⟩ := hcont
  have hR9 := hR8.eq j3.1.1
  have K9 := K8.tr j3.ks
  obtain ⟨h10, k1, k2, k3, k4⟩ := q_close (bs := S1.1) (c := (memC x ow mm).2) (name := (memC x ow mm).1) hR9 j2 (j3.mc i3) (by simp) (by omega) (by omega) (by rw [j3.c (by decide) (by decide)]; exact i4) (by rw [j3.c (by decide) (by decide)]; exact i5)
  have hR10 := hR9.eq k4.1.1
  have K10 := K9.tr k4
  have hl2 := addC_len (S := S1) (x := memC x ow mm)
  have n2 := addC_n (S := S1) (x := memC x ow mm)
  have k2' : Mk h10 (addC S1 (memC x ow mm)).1 := k2
  have k3' : MC h10 (addC S1 (memC x ow mm)).2 := k3
  generalize hS2 : addC S1 (memC x ow mm) = S2 at *
  -- frames
  obtain ⟨h11, o1, o2, o3, o4, o5, o6⟩ := q_open hR10 k2' k3' (name := 1400138611) (by omega) (by omega) (by decide)
  have hR11 := hR10.eq o6.1.1
  have K11 := K10.tr o6
  obtain ⟨h12, p1, p2, p3⟩ := q_makeD w4 w5 hR11 (mm := mm) (pc := pc) (by rw [K11.c (by omega)]; exact hse) o2 (by simp [be_len]; omega)
  have hR12 := hR11.eq p3.1.1
  obtain ⟨h13, q1, q2, q3, q4⟩ := q_close (bs := S2.1) (c := encD fs) (name := 1400138611) hR12 p2 (p3.mc o3) (by simp) (by omega) (by omega) (by rw [p3.c (by decide) (by decide)]; exact o4) (by rw [p3.c (by decide) (by decide)]; exact o5)
  have hR13 := hR12.eq q4.1.1
  have K13 := (K11.tr p3.ks).tr q4
  have hl3 := addC_len (S := S2) (x := (1400138611, encD fs))
  simp only at hl3
  have n3 := addC_n (S := S2) (x := (1400138611, encD fs))
  have hf3 : file3 x hd ow mm pc fs = addC S2 (1400138611, encD fs) := by unfold file3; rw [hS1, hS2]
  rw [hf3] at hT ⊢
  have q2' : Mk h13 (addC S2 (1400138611, encD fs)).1 := q2
  have q3' : MC h13 (addC S2 (1400138611, encD fs)).2 := q3
  generalize hS3 : addC S2 (1400138611, encD fs) = S3 at *
  -- strangers
  obtain ⟨h14, r1, r2, r3, r4⟩ := q_save169 (s := s) (t := t) (u := u) (v := v) hst hl8 (h13.1 129) (by rw [K13.c (by omega)]; exact hG.2) st 0 am_fuel h13 S3 hR13 rfl (by rw [K13.2 17 (by decide) (by decide)]; exact hG.1) q2' q3' rfl (by omega) (by unfold am_fuel; omega) (by omega) (by omega)
  have hR14 := hR13.eq r4.1.1
  have K14 := K13.tr r4
  generalize hS4 : st.foldl addC S3 = S4 at *
  have hlen4 : 8 ≤ S4.1.length := by rw [hT]; simp [be_len]; omega
  have hle := r2.2.1
  have t1 := q_patch hR14 (x := nI (S4.1.length - 8)) (o := 4) (by decide)
  generalize hh15 : am_fill h14 134 4 4 (bq (nI (S4.1.length - 8))) = h15 at t1
  have hR15 : RX h15 s t u v := by rw [← hh15]; exact hR14.eq rfl
  have e15 : h15.1 119 = h14.1 119 := by rw [← hh15, pf_n (by decide)]
  have A15 : Arr (h15.1 134) (be 1179603533 4 ++ (be (S4.1.length - 8) 4 ++ T)) := by
    have h0 := r2.2.2
    rw [hT] at h0
    have := Arr.patch (g1 := h15.1 134) (x := nI (S4.1.length - 8)) h0 (be_len _ _) (fun j => by
      rw [← hh15, pf_s]
      simp [be_len])
    rw [uN_nI (by omega)] at this
    exact this
  have t2 := q_save258 hR15 (n := S4.1.length) (by rw [e15]; exact r2.1) hle
  have hLen : (be 1179603533 4 ++ (be (S4.1.length - 8) 4 ++ T)).length = S4.1.length := by
    rw [hT]
    simp [be_len]
  refine ⟨am_setI (am_fill h15 121 0 S4.1.length (h15.1 134)) 119 3 (nI S4.1.length), ?_, ⟨?_, ?_⟩, ⟨?_, ?_⟩, ?_, ?_⟩
  · have tail : fX9_save_145 GG 119 h9 = some (nI S4.1.length, am_setI (am_fill h15 121 0 S4.1.length (h15.1 134)) 119 3 (nI S4.1.length)) := by
      unfold fX9_save_145
      rw [k1, am_bs, o1, am_bs, hR11.r119_10, Option.bind_some, p1, am_bs, q1, am_bs]
      refine Eq.trans r1 ?_
      rw [r2.1, pb_sub hlen4, t1, am_bs]
      exact t2
    have hpc : h5.1 125 1000 = nI pc := by rw [K5.c (by omega)]; exact hse.2.1
    unfold fX9_save
    rw [hS.1, if_neg hne, am_let_eq, am_let_eq, hh0, a1, am_bs, b1, am_bs, c1, am_bs, d1, am_bs]
    refine Eq.trans e1 ?_
    rw [fX9_save_48, if_pos (by decide), hR5.r119_10, Option.bind_some, ln_125, if_pos (pb_ok (by decide) (by decide)), pb_cl (by decide), hpc, f1, am_bs, g1, am_bs]
    by_cases hx : x = 0
    · have hm1 : (memC x ow mm).1 = 1129145709 := by unfold memC; rw [if_pos hx]
      rw [hm1] at i1
      rw [if_pos hx]
      unfold fX9_save_100
      rw [i1, am_bs, j1]
      exact tail
    · have hm1 : (memC x ow mm).1 = 1431135597 := by unfold memC; rw [if_neg hx]
      rw [hm1] at i1
      rw [if_neg hx]
      unfold fX9_save_100
      rw [i1, am_bs, j1]
      exact tail
  · rw [ps_s, ps_us, hLen]
  · rw [ps_n (by decide)]
    have := Arr.cp (h := h15) (c := 121) A15
    rw [hLen] at this
    exact this
  · rw [ps_s, ps_un (by decide), pf_n (by decide), e15]
    exact r3.1
  · intro i c hc
    rw [ps_n (by decide), pf_n (by decide), ps_n (by decide), pf_n (by decide), ps_n (by decide), pf_n (by decide), ← hh15, pf_n (by decide), pf_n (by decide), pf_n (by decide)]
    exact r3.2 i c hc
  · have F14 := K14.1.mo (S' := [119, 121, 131, 132, 133, 134]) (by simp)
    have F15 : Fr h14 h15 [119, 121, 131, 132, 133, 134] := by rw [← hh15]; exact Fr.fill (by simp)
    exact ((F14.tr F15).tr (Fr.fill (by simp))).tr (Fr.set (by simp))
  · intro j p q r
    rw [ps_s, ps_un r, pf_n (by decide), e15, K14.2 j p q]
theorem st_save (hI : Inv h) (x : Int32) : ∃ r h1 h2, fX8_save GG 0 x h = some (r, h1) ∧ fX9_save GG 119 x h1 = some (r, h2) ∧ Inv h2 := by
  obtain ⟨s, t, u, v, ⟨tp, ou, dk, ct, hd, ow, ⟨mm, pc, fs⟩, kp, bd, st, cd, pl, ch⟩, hw, hx, hm⟩ := id hI
  have hR := hx.1
  obtain ⟨c0, c1, c2, c3, c4, c5, c6, c7, c8, c9⟩ := id hx
  obtain ⟨m0, m1, m2, m3, m4, m5, m6, m7, m8, m9, m10⟩ := id hm
  have hl : ow.length ≤ 1000 := hw.2.2.2.2.2.1.2
  by_cases ho : ow = []
  · refine ⟨-4, h, h, ?_, ?_, hI⟩
    · unfold fX8_save
      rw [p_noStory hR c5 hl, am_bs, if_pos ho, if_neg (by decide)]
    · unfold fX9_save
      rw [m5.1, ho, if_pos (by rfl)]
  · have hs' : s = 23 ∨ s = 66 := c1.1
    have hu' : u = 109 ∨ u = 114 := c1.2.2.2.1
    obtain ⟨hwn, hmo⟩ := hw.wsn
    have hhd := hw.2.2.2.2.1.2.2 ho
    have bh := hw.2.2.2.2.1.1
    have bo := hw.2.2.2.2.2.1.1
    obtain ⟨hl8, hst⟩ := hw.2.2.2.2.2.2.2.2.1
    obtain ⟨h1, T, a1, a2, a3, a4, a5⟩ := p_save (h := h) x c1.1 c1.2.2.2.1 hR c5 c7 hwn hmo bo hhd bh ho c8 hst hl8 c3
    have hR1 := hR.eq a4.1
    have k1 : ∀ a, (a < 4 ∨ 9 < a) → h1.1 a = h.1 a := fun a ha => a4.2 a (by simp; omega)
    have e1 : ∀ j, h1.1 119 j = h.1 119 j := fun j => by rw [k1 119 (by omega)]
    obtain ⟨h2, b1, b2, b3, b4, b5⟩ := q_save (h := h1) x hR1 (m5.eq (fun j _ => e1 j) (fun a ha => k1 a (by simp at ha; omega))) (by rw [k1 125 (by omega)]; exact m6 ho) hwn hmo bo hhd bh ho (m8.eq (fun j _ => e1 j) (fun a ha => k1 a (by simp at ha; omega))) hst hl8 a2
    have k2 : ∀ a, a ≠ 119 → a ≠ 121 → (a < 131 ∨ 134 < a) → h2.1 a = h1.1 a := fun a p q r => b4.2 a (by simp; omega)
    refine ⟨_, h1, h2, a1, b1, ?_⟩
    obtain ⟨G1, G2, G3, G4⟩ := a5
    have f : ∀ (A : List Nat), (∀ a ∈ A, a = 120 ∨ a = 122) → ∀ a ∈ A, h2.1 a = h.1 a := fun A hA a ha => by have := hA a ha; rw [k2 a (by omega) (by omega) (by omega), k1 a (by omega)]
    have e : ∀ (J : List Nat), (∀ j ∈ J, j ≠ 27 ∧ j ≠ 25 ∧ j ≠ 3) → ∀ j ∈ J, h2.1 119 j = h.1 119 j := fun J hJ j hj => by rw [b5 j (hJ j hj).1 (hJ j hj).2.1 (hJ j hj).2.2, e1 j]
    have kc : ∀ a, a < 119 → h2.1 a = h1.1 a := fun a ha => k2 a (by omega) (by omega) (by omega)
    have hby : By (be 1179603533 4 ++ (be ((st.foldl addC (file3 x hd ow mm pc fs)).1.length - 8) 4 ++ T)) := by
      have hT : By T := fun b hb => G1 b (by rw [a2]; simp [hb])
      exact By.app (be_lt _ _) (By.app (be_lt _ _) hT)
    refine inv_io hw hx hm (b4.1.trans a4.1) (fun a ha => by rw [k2 a (by omega) (by omega) (by omega), k1 a (by omega)]) (fun j hj => by rw [b5 j (by omega) (by omega) (by omega), e1 j]) (c2.eq (by rw [b4.1, a4.1]) (by rw [kc 2 (by decide), k1 2 (by omega)]) (by rw [kc 3 (by decide), k1 3 (by omega)])) (a3.eq b4.1 (fun a ha => kc a (by omega))) (c4.eq (b4.1.trans a4.1) (fun a ha => by rw [kc a (by omega), k1 a (by omega)])) (by rw [kc 0 (by decide), k1 0 (by omega)]; exact c9) (m1.eq (e _ (by decide)) (f _ (by decide))) b2 (m3.eq (e _ (by decide)) (f _ (by decide))) (m4.eq (e _ (by decide)) (fun a ha => by simp at ha)) (m9.eq (e _ (by decide)) (fun a ha => by simp at ha)) b3 hw.1.1 hby (fun d hd => (hw.2.2.1 d hd).1) hw.2.2.2.1 hw.2.2.2.2.2.2.2.2.2.1 G3
end SAVE3
