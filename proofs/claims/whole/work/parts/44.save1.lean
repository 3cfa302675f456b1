/-! ===== chunks ===== -/
section SAVE1
variable {h : AH} {s t u v : Nat}
def pad (c : List Nat) : List Nat := if c.length % 2 = 1 then [0] else []
def chk (name : Nat) (c : List Nat) : List Nat := be name 4 ++ (be c.length 4 ++ (c ++ pad c))
theorem chk_len {name : Nat} {c : List Nat} : (chk name c).length = 8 + c.length + c.length % 2 := by
  unfold chk pad
  split
  · simp [be_len]; omega
  · simp [be_len]; omega
theorem be0_by {c : List Nat} (hc : By c) {name : Nat} : By (chk name c) := by
  unfold chk pad
  refine By.app (be_lt _ _) (By.app (be_lt _ _) (By.app hc ?_))
  split
  · intro b hb; simp at hb; omega
  · intro b hb; simp at hb
abbrev St : Type := List Nat × List (Nat × Nat × Nat)
/-- a chunk more -/
def addC (S : St) (x : Nat × List Nat) : St := (S.1 ++ chk x.1 x.2, S.2 ++ [(x.1, S.1.length + 8, x.2.length)])
theorem Arr.patch {g g1 : Nat → Int32} {A B C : List Nat} {x : Int32} (ha : Arr g (A ++ (B ++ C))) (hB : B.length = 4) (hg : ∀ j, g1 j = if A.length ≤ j ∧ j < A.length + 4 then bq x (j - A.length) else g j) : Arr g1 (A ++ (be (uN x) 4 ++ C)) := by
  intro i hi
  simp only [List.length_append, be_len] at hi
  rw [hg i, getD_app]
  by_cases h1 : i < A.length
  · rw [if_neg (by omega), if_pos h1, ha i (by simp; omega), getD_app, if_pos h1]
  · rw [if_neg h1, getD_app, be_len]
    by_cases h2 : i < A.length + 4
    · rw [if_pos (by omega), if_pos (by omega)]
      rfl
    · rw [if_neg (by omega), if_neg (by omega), ha i (by simp; omega), getD_app, if_neg h1, getD_app, hB, if_neg (by omega)]
theorem p_setNumber {q c N : Nat} {A B C : List Nat} {x : Int32} {o : Nat} (ho : o = A.length) (hB : Byt h q c N (A ++ (B ++ C))) (hl : B.length = 4) (hN : am_len GG c = N) (hN2 : N < 2 ^ 31) (hqc : q ≠ c) : ∃ h1, fX0_setNumber GG q (nI o) x h = some ((), h1) ∧ Byt h1 q c N (A ++ (be (uN x) 4 ++ C)) ∧ Fr h h1 [c] := by
  subst ho
  obtain ⟨b1, b2, b3, b4⟩ := hB
  have hlen : A.length + 4 ≤ (A ++ (B ++ C)).length := by simp; omega
  refine ⟨am_fill h c A.length 4 (bq x), ?_, ⟨b1, ?_, ?_, ?_⟩, Fr.fill (by simp)⟩
  · unfold fX0_setNumber
    rw [if_neg (nI_pos (by omega)), b3, pb_sub (by omega), if_neg (by rw [pb_ltI (by omega) (by omega)]; omega)]
    refine fill_loop0 (fun z i h => fX0_setNumber_16 GG z q (nI A.length) x (nI i) h) (fun h => some ((), h)) (fun h => h.2 q 0 = some c) c A.length 4 _ ?_ (fun h j w hP => hP) ?_ h b1 (by decide)
    · intro z i h hP hi
      simp (disch := omega) only [fX0_setNumber_16, pb_le, if_neg, hP, Option.bind_some, pb_add, hN, pb_ok, if_true, pb_cl, am_let, nI8, bt_u, bq, be4, if_false]
    · intro z h hP
      simp (disch := omega) only [fX0_setNumber_16, pb_le, if_pos, if_true, if_false]
  · simp [be_len] at b2 ⊢; omega
  · rw [pf_n hqc, b3]; simp [be_len, hl]
  · exact Arr.patch b4 hl (fun j => pf_s)
theorem CO.by {h1 : AH} {bs bs' : List Nat} {ch : List (Nat × Nat × Nat)} (hC : CO h bs ch) (hB : Byt h1 5 6 8000 bs') (hF : Fr h h1 [5, 6]) : CO h1 bs' ch := by
  refine ⟨hB, by rw [hF.2 4 (by decide)]; exact hC.2.1, hC.2.2.1, fun i c hc => ?_⟩
  rw [hF.2 7 (by decide), hF.2 8 (by decide), hF.2 9 (by decide)]
  exact hC.2.2.2 i c hc
theorem p_open {bs : List Nat} {ch : List (Nat × Nat × Nat)} {name : Nat} (hR : RX h s t u v) (hC : CO h bs ch) (hn : ch.length < 11) (hl : bs.length + 8 ≤ 8000) (hname : name < 4294967296) : ∃ h1, fX7_openChunk GG 4 (nI name) h = some ((), h1) ∧ CO h1 (bs ++ (be name 4 ++ be 0 4)) ch ∧ h1.1 7 ch.length = nI name ∧ h1.1 8 ch.length = nI (bs.length + 8) ∧ Fr h h1 [4, 5, 6, 7, 8, 9] := by
  obtain ⟨c1, c2, c3, c4⟩ := hC
  obtain ⟨h1, a1, a2, a3⟩ := p_addNumber (Γ := GG) c1 ln_6 (by decide) (by decide) (nI name) (n := 4) (by decide) (by omega)
  rw [uN_nI (by omega)] at a2
  have hR1 := hR.eq a3.1
  obtain ⟨h2, b1, b2, b3⟩ := p_addNumber (Γ := GG) a2 ln_6 (by decide) (by decide) (nI 0) (n := 4) (by decide) (by simp [be_len]; omega)
  rw [uN_nI (by omega)] at b2
  have hR2 := hR1.eq b3.1
  have k2 : ∀ a, a ≠ 5 → a ≠ 6 → h2.1 a = h.1 a := fun a p q => by rw [b3.2 a (by simp [p, q]), a3.2 a (by simp [p, q])]
  have e4 : h2.1 4 4 = nI ch.length := by rw [k2 4 (by decide) (by decide)]; exact c2
  have e5 : h2.1 5 1 = nI (bs.length + 8) := by rw [b2.2.2.1]; simp [be_len]
  generalize hh3 : am_setI h2 7 ch.length (nI name) = h3
  have hR3 : RX h3 s t u v := by rw [← hh3]; exact hR2.eq rfl
  have e43 : h3.1 4 4 = nI ch.length := by rw [← hh3, ps_n (by decide)]; exact e4
  have e53 : h3.1 5 1 = nI (bs.length + 8) := by rw [← hh3, ps_n (by decide)]; exact e5
  have F : Fr h (am_setI h3 8 ch.length (nI (bs.length + 8))) [4, 5, 6, 7, 8, 9] := by
    rw [← hh3]
    exact (((a3.mo (by simp)).tr (b3.mo (by simp))).tr (Fr.set (by simp))).tr (Fr.set (by simp))
  refine ⟨am_setI h3 8 ch.length (nI (bs.length + 8)), ?_, ⟨?_, ?_, c3, ?_⟩, ?_, ?_, F⟩
  · unfold fX7_openChunk
    rw [hR.r4_0, Option.bind_some, a1, am_bs, hR1.r4_0, Option.bind_some, b1, am_bs, e4, if_neg (nI_pos (by omega)), hR2.r4_1, Option.bind_some, ln_7, if_neg (by rw [pb_le (by omega) (by omega)]; omega), Option.bind_some, ln_7, if_pos (pb_ok (by omega) (by decide)), pb_cl (by omega), am_let_eq, hh3, hR3.r4_2, Option.bind_some, hR3.r4_0, Option.bind_some, e43, ln_8, if_pos (pb_ok (by omega) (by decide)), pb_cl (by omega), e53, am_let_eq]
  · rw [← hh3]
    have := b2.eq (h1 := am_setI (am_setI h2 7 ch.length (nI name)) 8 ch.length (nI (bs.length + 8))) rfl (by rw [ps_n (by decide), ps_n (by decide)]) (by rw [ps_n (by decide), ps_n (by decide)])
    simpa using this
  · rw [ps_n (by decide)]; exact e43
  · intro i c hc
    have hi := (List.getElem?_eq_some_iff.mp hc).1
    rw [ps_n (by decide), ps_s, ps_un (by omega), ps_n (by decide), ← hh3, ps_s, ps_un (by omega), ps_n (by decide), ps_n (by decide), k2 7 (by decide) (by decide), k2 8 (by decide) (by decide), k2 9 (by decide) (by decide)]
    exact c4 i c hc
  · rw [ps_n (by decide), ← hh3, ps_s, ps_us]
  · rw [ps_s, ps_us]
theorem and1 {n : Nat} (hn : n < 2 ^ 31) : (nI n &&& nI 1 = nI 1) = (n % 2 = 1) := by
  have := pk_and (nI n) (m := nI 1) 1 (by decide)
  rw [this]
  have e : (nI n).toBitVec.toNat = n := uN_nI (by omega)
  rw [e, pb_eq (by omega) (by decide)]
theorem irem2 {n : Nat} (hn : n < 2 ^ 31) : (am_irem (nI n) (nI 2) = nI 1) = (n % 2 = 1) := by
  unfold am_irem
  rw [pk_rem hn (by decide) (by decide), pb_eq (by omega) (by decide)]
theorem p_close {bs c L : List Nat} {ch : List (Nat × Nat × Nat)} {name : Nat} (hR : RX h s t u v) (hC : CO h L ch) (hL : L = bs ++ (be name 4 ++ (be 0 4 ++ c))) (hn : ch.length < 11) (hl : bs.length + 9 + c.length ≤ 8000) (h7 : h.1 7 ch.length = nI name) (h8 : h.1 8 ch.length = nI (bs.length + 8)) : ∃ h1, fX7_closeChunk GG 4 h = some ((), h1) ∧ CO h1 (addC (bs, ch) (name, c)).1 (addC (bs, ch) (name, c)).2 ∧ Fr h h1 [4, 5, 6, 7, 8, 9] := by
  subst hL
  obtain ⟨c1, c2, c3, c4⟩ := hC
  have hsz : h.1 5 1 = nI (bs.length + 8 + c.length) := by rw [c1.2.2.1]; simp [be_len]; congr 1; omega
  generalize hh1 : am_setI h 9 ch.length (nI c.length) = h1
  have hR1 : RX h1 s t u v := by rw [← hh1]; exact hR.eq rfl
  have e4 : h1.1 4 4 = nI ch.length := by rw [← hh1, ps_n (by decide)]; exact c2
  have e8 : h1.1 8 ch.length = nI (bs.length + 8) := by rw [← hh1, ps_n (by decide)]; exact h8
  have hB1 : Byt h1 5 6 8000 ((bs ++ be name 4) ++ (be 0 4 ++ c)) := by
    have := c1.eq (h1 := h1) (by rw [← hh1]; rfl) (by rw [← hh1, ps_n (by decide)]) (by rw [← hh1, ps_n (by decide)])
    simpa using this
  obtain ⟨h2, a1, a2, a3⟩ := p_setNumber (x := nI c.length) (o := bs.length + 4) (by simp [be_len]) hB1 (be_len _ _) ln_6 (by decide) (by decide)
  rw [uN_nI (by omega)] at a2
  have hR2 := hR1.eq a3.1
  have k2 : ∀ a, a ≠ 6 → a ≠ 9 → h2.1 a = h.1 a := fun a p q => by rw [a3.2 a (by simp [p]), ← hh1, ps_n q]
  have k29 : h2.1 9 = upd (h.1 9) ch.length (nI c.length) := by rw [a3.2 9 (by decide), ← hh1, ps_s]
  -- the pad
  obtain ⟨h3, b1, b2, b3⟩ : ∃ h3, (if (nI c.length &&& nI 1) = nI 1 then (h2.2 4 0).bind fun b74 => am_bind (fX0_add GG b74 (nI 0) h2) fun r78 h78 => fX7_closeChunk_81 GG 4 h78 else fX7_closeChunk_81 GG 4 h2) = fX7_closeChunk_81 GG 4 h3 ∧ Byt h3 5 6 8000 (bs ++ chk name c) ∧ Fr h2 h3 [5, 6] := by
    by_cases hp : c.length % 2 = 1
    · obtain ⟨h3, d1, d2, d3⟩ := p_add a2 ln_6 (by decide) (by decide) (by simp [be_len]; omega) (b := nI 0) (v := 0) (and255 (by decide))
      refine ⟨h3, ?_, ?_, d3⟩
      · rw [if_pos (by rw [and1 (by omega)]; exact hp), hR2.r4_0, Option.bind_some, d1, am_bs]
      · have : bs ++ chk name c = (bs ++ be name 4 ++ (be c.length 4 ++ c)) ++ [0] := by unfold chk pad; rw [if_pos hp]; simp
        rw [this]
        exact d2
    · refine ⟨h2, ?_, ?_, Fr.rf⟩
      · rw [if_neg (by rw [and1 (by omega)]; exact hp)]
      · have : bs ++ chk name c = bs ++ be name 4 ++ (be c.length 4 ++ c) := by unfold chk pad; rw [if_neg hp]; simp
        rw [this]
        exact a2
  have e43 : h3.1 4 4 = nI ch.length := by rw [b3.2 4 (by decide), k2 4 (by decide) (by decide)]; exact c2
  refine ⟨am_setI h3 4 4 (nI (ch.length + 1)), ?_, ⟨?_, ?_, ?_, ?_⟩, ?_⟩
  · unfold fX7_closeChunk
    rw [c2, if_neg (nI_pos (by omega)), hR.r4_1, Option.bind_some, ln_7, if_neg (by rw [pb_le (by omega) (by omega)]; omega), hR.r4_0, Option.bind_some, hR.r4_2, Option.bind_some, ln_8, if_pos (pb_ok (by omega) (by decide)), pb_cl (by omega), hsz, h8, pb_sub (by omega), show bs.length + 8 + c.length - (bs.length + 8) = c.length by omega, am_let_eq, hR.r4_3, Option.bind_some, ln_9, if_pos (pb_ok (by omega) (by decide)), am_let_eq, hh1, hR1.r4_0, Option.bind_some, hR1.r4_2, Option.bind_some, e4, ln_8, if_pos (pb_ok (by omega) (by decide)), pb_cl (by omega), e8, pb_sub (by omega), show bs.length + 8 - 4 = bs.length + 4 by omega, a1, am_bs, b1]
    unfold fX7_closeChunk_81
    rw [e43, pb_add, am_let_eq]
  · exact b2.eq rfl (ps_n (by decide)) (ps_n (by decide))
  · rw [ps_s, ps_us]; simp [addC]
  · simp [addC]; omega
  · intro i x hx
    have hi := (List.getElem?_eq_some_iff.mp hx).1
    simp [addC] at hi
    rw [ps_n (by decide), ps_n (by decide), ps_n (by decide), b3.2 7 (by decide), b3.2 8 (by decide), b3.2 9 (by decide), k2 7 (by decide) (by decide), k2 8 (by decide) (by decide), k29]
    by_cases he : i = ch.length
    · subst he
      simp [addC] at hx
      subst hx
      exact ⟨h7, h8, by rw [ps_us]⟩
    · simp only [addC] at hx
      rw [List.getElem?_append_left (by omega)] at hx
      rw [ps_un he]
      exact c4 i x hx
  · rw [← hh1] at a3
    exact (((Fr.set (h := h) (a := 9) (by simp)).tr (a3.mo (by simp))).tr (b3.mo (by simp))).tr (Fr.set (by simp))
/-! the model -/
def Ks (h h1 : AH) : Prop := Fr h h1 [119, 131, 132, 133, 134] ∧ ∀ j, j ≠ 27 → j ≠ 25 → h1.1 119 j = h.1 119 j
theorem Ks.tr {h h1 h2 : AH} (a : Ks h h1) (b : Ks h1 h2) : Ks h h2 := ⟨a.1.tr b.1, fun j hj hk => (b.2 j hj hk).trans (a.2 j hj hk)⟩
theorem Kp.ks {h h1 : AH} (a : Kp h h1) : Ks h h1 := ⟨a.1.mo (by simp), fun j hj _ => a.2 j hj⟩
theorem Ks.c {h h1 : AH} (a : Ks h h1) {n : Nat} (hn : n < 119 ∨ (119 < n ∧ n < 131)) : h1.1 n = h.1 n := a.1.2 n (by simp; omega)
theorem Kp.mc {h h1 : AH} {ch : List (Nat × Nat × Nat)} (a : Kp h h1) (hC : MC h ch) : MC h1 ch := hC.eq (fun j hj => a.2 j (by simp at hj; omega)) (fun b hb => a.c (by simp at hb; omega) (by simp at hb; omega))
theorem q_open {bs : List Nat} {ch : List (Nat × Nat × Nat)} {name : Nat} (hR : RX h s t u v) (hM : Mk h bs) (hC : MC h ch) (hn : ch.length < 16) (hl : bs.length + 8 ≤ 8000) (hname : name < 4294967296) : ∃ h1, fX9_open GG 119 (nI name) h = some ((), h1) ∧ Mk h1 (bs ++ (be name 4 ++ be 0 4)) ∧ MC h1 ch ∧ h1.1 131 ch.length = nI name ∧ h1.1 132 ch.length = nI (bs.length + 8) ∧ Ks h h1 := by
  obtain ⟨h1, a1, a2, a3⟩ := q_numberN hR hM (d := name) (n := 4) (by omega) (by decide) (by omega)
  have hR1 := hR.eq a3.1.1
  obtain ⟨h2, b1, b2, b3⟩ := q_numberN hR1 a2 (d := 0) (n := 4) (by omega) (by decide) (by simp [be_len]; omega)
  have hR2 := hR1.eq b3.1.1
  have kk := a3.tr b3
  have hC2 := kk.mc hC
  have e27 : h2.1 119 27 = nI (bs.length + 8) := by rw [b2.1]; simp [be_len]
  generalize hh3 : am_setI h2 131 ch.length (nI name) = h3
  have hR3 : RX h3 s t u v := by rw [← hh3]; exact hR2.eq rfl
  have e3 : h3.1 119 = h2.1 119 := by rw [← hh3, ps_n (by decide)]
  have K : Ks h (am_setI h3 132 ch.length (nI (bs.length + 8))) := by
    refine kk.ks.tr ⟨?_, fun j _ _ => by rw [ps_n (by decide), e3]⟩
    rw [← hh3]
    exact (Fr.set (by simp)).tr (Fr.set (by simp))
  refine ⟨am_setI h3 132 ch.length (nI (bs.length + 8)), ?_, ⟨?_, by have := b2.2.1; simpa using this, ?_⟩, ⟨?_, ?_⟩, ?_, ?_, K⟩
  · unfold fX9_open
    rw [a1, am_bs, b1, am_bs, hR2.r119_22, Option.bind_some, hC2.1, ln_131, if_pos (pb_ok (by omega) (by decide)), pb_cl (by omega), am_let_eq, hh3, hR3.r119_23, Option.bind_some, e3, hC2.1, ln_132, if_pos (pb_ok (by omega) (by decide)), pb_cl (by omega), e27, am_let_eq]
  · rw [ps_n (by decide), e3, b2.1]
    simp
  · have : bs ++ (be name 4 ++ be 0 4) = bs ++ be name 4 ++ be 0 4 := by simp
    rw [this, ps_n (by decide), ← hh3, ps_n (by decide)]
    exact b2.2.2
  · rw [ps_n (by decide), e3]; exact hC2.1
  · intro i c hc
    have hi := (List.getElem?_eq_some_iff.mp hc).1
    rw [ps_n (by decide), ps_s, ps_un (by omega), ps_n (by decide), ← hh3, ps_s, ps_un (by omega), ps_n (by decide), ps_n (by decide)]
    exact hC2.2 i c hc
  · rw [ps_n (by decide), ← hh3, ps_s, ps_us]
  · rw [ps_s, ps_us]
theorem q_close {bs c L : List Nat} {ch : List (Nat × Nat × Nat)} {name : Nat} (hR : RX h s t u v) (hM : Mk h L) (hC : MC h ch) (hL : L = bs ++ (be name 4 ++ (be 0 4 ++ c))) (hn : ch.length < 16) (hl : bs.length + 9 + c.length ≤ 8000) (h7 : h.1 131 ch.length = nI name) (h8 : h.1 132 ch.length = nI (bs.length + 8)) : ∃ h1, fX9_close GG 119 h = some ((), h1) ∧ Mk h1 (addC (bs, ch) (name, c)).1 ∧ MC h1 (addC (bs, ch) (name, c)).2 ∧ Ks h h1 := by
  subst hL
  have hsz : h.1 119 27 = nI (bs.length + 8 + c.length) := by rw [hM.1]; simp [be_len]; congr 1; omega
  generalize hh1 : am_setI h 133 ch.length (nI c.length) = h1
  have hR1 : RX h1 s t u v := by rw [← hh1]; exact hR.eq rfl
  have e1 : h1.1 119 = h.1 119 := by rw [← hh1, ps_n (by decide)]
  have e8 : h1.1 132 ch.length = nI (bs.length + 8) := by rw [← hh1, ps_n (by decide)]; exact h8
  have a1 := q_patch hR1 (x := nI c.length) (o := bs.length + 4) (by omega)
  generalize hh2 : am_fill h1 134 (bs.length + 4) 4 (bq (nI c.length)) = h2 at a1
  have hR2 : RX h2 s t u v := by rw [← hh2]; exact hR1.eq rfl
  have e2 : h2.1 119 = h.1 119 := by rw [← hh2, pf_n (by decide), e1]
  have hM2 : Mk h2 (bs ++ be name 4 ++ (be c.length 4 ++ c)) := by
    refine ⟨by rw [e2, hsz]; simp [be_len]; congr 1; omega, by simp [be_len]; omega, ?_⟩
    have h0 : Arr (h1.1 134) ((bs ++ be name 4) ++ (be 0 4 ++ c)) := by
      rw [← hh1, ps_n (by decide)]
      have := hM.2.2
      simpa using this
    have := Arr.patch (g1 := h2.1 134) (x := nI c.length) h0 (be_len _ _) (fun j => by
      rw [← hh2, pf_s]
      simp [be_len])
    rw [uN_nI (by omega)] at this
    exact this
  obtain ⟨h3, b1, b2, b3⟩ : ∃ h3, (if (am_irem (nI c.length) (nI 2)) = (nI 1) then am_bind (fX9_number GG 119 (nI 0) (nI 1) h2) fun r51 h51 => fX9_close_54 GG 119 h51 else fX9_close_54 GG 119 h2) = fX9_close_54 GG 119 h3 ∧ Mk h3 (bs ++ chk name c) ∧ Kp h2 h3 := by
    by_cases hp : c.length % 2 = 1
    · obtain ⟨h3, d1, d2, d3⟩ := q_number1 hR2 hM2 (d := 0) (by decide) (by simp [be_len]; omega)
      refine ⟨h3, ?_, ?_, d3⟩
      · rw [if_pos (by rw [irem2 (by omega)]; exact hp), d1, am_bs]
      · have : bs ++ chk name c = (bs ++ be name 4 ++ (be c.length 4 ++ c)) ++ [0] := by unfold chk pad; rw [if_pos hp]; simp
        rw [this]
        exact d2
    · refine ⟨h2, ?_, ?_, Kp.rf⟩
      · rw [if_neg (by rw [irem2 (by omega)]; exact hp)]
      · have : bs ++ chk name c = bs ++ be name 4 ++ (be c.length 4 ++ c) := by unfold chk pad; rw [if_neg hp]; simp
        rw [this]
        exact hM2
  have e25 : h3.1 119 25 = nI ch.length := by rw [b3.2 25 (by decide), e2]; exact hC.1
  have k3 : ∀ a, 131 ≤ a ∧ a ≤ 132 → h3.1 a = h.1 a := fun a ha => by rw [b3.c (by omega) (by omega), ← hh2, pf_n (by omega), ← hh1, ps_n (by omega)]
  have k33 : h3.1 133 = upd (h.1 133) ch.length (nI c.length) := by rw [b3.c (by omega) (by omega), ← hh2, pf_n (by omega), ← hh1, ps_s]
  refine ⟨am_setI h3 119 25 (nI (ch.length + 1)), ?_, ⟨?_, b2.2.1, ?_⟩, ⟨?_, ?_⟩, ?_⟩
  · unfold fX9_close
    rw [hR.r119_23, Option.bind_some, hC.1, ln_132, if_pos (pb_ok (by omega) (by decide)), pb_cl (by omega), hsz, h8, pb_sub (by omega), show bs.length + 8 + c.length - (bs.length + 8) = c.length by omega, am_let_eq, hR.r119_24, Option.bind_some, ln_133, if_pos (pb_ok (by omega) (by decide)), am_let_eq, hh1, hR1.r119_23, Option.bind_some, e1, hC.1, ln_132, if_pos (pb_ok (by omega) (by decide)), pb_cl (by omega), e8, pb_sub (by omega), show bs.length + 8 - 4 = bs.length + 4 by omega, a1, am_bs, b1]
    unfold fX9_close_54
    rw [e25, pb_add, am_let_eq]
  · rw [ps_s, ps_un (by decide)]; exact b2.1
  · rw [ps_n (by decide)]; exact b2.2.2
  · rw [ps_s, ps_us]; simp [addC]
  · intro i x hx
    have hi := (List.getElem?_eq_some_iff.mp hx).1
    simp [addC] at hi
    rw [ps_n (by decide), ps_n (by decide), ps_n (by decide), k3 131 (by omega), k3 132 (by omega), k33]
    by_cases he : i = ch.length
    · subst he
      simp [addC] at hx
      subst hx
      exact ⟨h7, h8, by rw [ps_us]⟩
    · simp only [addC] at hx
      rw [List.getElem?_append_left (by omega)] at hx
      rw [ps_un he]
      exact hC.2 i x hx
  · refine ⟨?_, fun j x1 x2 => by rw [ps_s, ps_un x2, b3.2 j x1, e2]⟩
    have F3 := b3.1
    rw [← hh2, ← hh1] at F3
    exact (((Fr.set (h := h) (a := 133) (by simp)).tr (Fr.fill (by simp))).tr (F3.mo (by simp))).tr (Fr.set (by simp))
end SAVE1
