/-! ===== the class reads a file ===== -/
section READ4
variable {h : AH} {s t u v : Nat}
theorem CR.keep {h1 : AH} {bs hd ow : List Nat} {a : Nat} {A M D A' M' D' : Bool} {ss ss' : Sn} {st st' : Sg2} (hC : CR h s t u v bs hd ow a (A, M, D, ss, st)) (ht : SQ t) (hv : TQ v) (hF : RF2 h h1 t v) (hs : SeX h1 t ss') (hg : CG h1 v st') (f1 : h1.1 1 1 = b2 A') (f2 : h1.1 1 2 = b2 M') (f3 : h1.1 1 3 = b2 D') (f4 : h1.1 1 4 = nI a) : CR h1 s t u v bs hd ow a (A', M', D', ss', st') := by
  have ht' : t = 23 ∨ t = 66 := ht
  have hv' : v = 109 ∨ v = 114 := hv
  obtain ⟨c0, c1, c2, c3, c4, c5, c6, c7, c8⟩ := hC
  exact ⟨c0.eq hF.1, c1.eq (by rw [hF.1]) (hF.2 2 (by omega) (by omega) (by omega)) (hF.2 3 (by omega) (by omega) (by omega)), c2.eq (fun a ha => hF.2 a (by omega) (by omega) (by omega)), hs, hg, f1, f2, f3, f4⟩
theorem p_readContents {bs hd ow : List Nat} {a n : Nat} {S : Rd} (ht : SQ t) (hv : TQ v) (hb : By bs) (bo : By ow) (hl : ow.length ≤ 1000) (hhd : hd.length = 10) (bh : By hd) (hbl : bs.length ≤ 2000) (hn : a + 8 + n ≤ bs.length) (hC : CR h s t u v bs hd ow a S) (hI : IR ow S) : ∃ r h1, fX3_readContents GG 1 (nI n) 14 t v h = some (r, h1) ∧ RF2 h h1 t v ∧ h1.1 1 4 = nI a ∧ match rdC bs hd ow a n (nbA bs 4 a 0) S with
    | .ok S' => r = nI 0 ∧ CR h1 s t u v bs hd ow a S'
    | .error p => r = fcode p := by
  have ht' : t = 23 ∨ t = 66 := ht
  have hv' : v = 109 ∨ v = 114 := hv
  obtain ⟨A, M, D, ⟨mm, pc, fs⟩, st⟩ := S
  obtain ⟨c0, c1, c2, c3, c4, c5, c6, c7, c8⟩ := id hC
  obtain ⟨⟨⟨w1, w2, w3, w4, w5⟩, hlen, hfst⟩, i2, i3, i4⟩ := id hI
  simp only at hlen i2
  have hnm := nb4_lt hb a
  generalize hname : nbA bs 4 a 0 = name at hnm
  have hnum := p_number ln_3 (by decide) c1 hb (o := a) (m := 4) (by omega) (by decide)
  rw [hname] at hnum
  have same : ∀ (X : Option (Int32 × AH)), X = some (nI 0, h) → ∃ r h1, X = some (r, h1) ∧ RF2 h h1 t v ∧ h1.1 1 4 = nI a ∧ (r = nI 0 ∧ CR h1 s t u v bs hd ow a (A, M, D, (mm, pc, fs), st)) := fun X hX => ⟨nI 0, h, hX, RF2.rf, c8, rfl, hC⟩
  -- memory
  have mem : (name = 1129145709 ∨ name = 1431135597) → ∃ r h1, fX3_readContents_87 GG 1 (nI n) t (nI name) h = some (r, h1) ∧ RF2 h h1 t v ∧ h1.1 1 4 = nI a ∧ match (if M = true then (.ok (A, M, D, (mm, pc, fs), st) : Ex Rd) else if A = false then .error (5, a) else match rdMem bs ow a n name (mm, pc, fs) with
      | .ok ss' => .ok (A, true, D, ss', st)
      | .error p => .error p) with
      | .ok S' => r = nI 0 ∧ CR h1 s t u v bs hd ow a S'
      | .error p => r = fcode p := by
    intro hnm2
    unfold fX3_readContents_87
    rw [c6]
    cases M with
    | true =>
      rw [if_neg (by rw [b2_0]; decide), if_pos rfl]
      exact same _ rfl
    | false =>
      rw [if_pos (by rw [b2_0]), if_neg (by decide)]
      unfold fX3_readMemory
      rw [c5]
      cases A with
      | false =>
        rw [if_pos (by rw [b2_0]), if_pos rfl, c8, p_fault (by decide) (by omega), am_bs, am_bs]
        exact ⟨_, h, rfl, RF2.rf, c8, rfl⟩
      | true =>
        have hmm : mm = ow := i2 rfl
        subst hmm
        rw [if_neg (by rw [b2_0]; decide), if_neg (by decide), am_let_eq]
        generalize hh1 : am_setI h 1 2 (nI 1) = h1
        have k1 : ∀ a, a ≠ 1 → h1.1 a = h.1 a := fun a ha => by rw [← hh1, ps_n ha]
        have e1 : h1.2 = h.2 := by rw [← hh1]; rfl
        have hR1 := c0.eq e1
        have e14 : h1.1 1 4 = nI a := by rw [← hh1, ps_s, ps_un (by decide)]; exact c8
        have e12 : h1.1 1 2 = b2 true := by rw [← hh1, ps_s, ps_us]; rfl
        have e11 : h1.1 1 1 = b2 true := by rw [← hh1, ps_s, ps_un (by decide)]; exact c5
        have e13 : h1.1 1 3 = b2 D := by rw [← hh1, ps_s, ps_un (by decide)]; exact c7
        have hB1 : Byt h1 2 3 2000 bs := c1.eq (by rw [e1]) (k1 2 (by decide)) (k1 3 (by decide))
        have hs1 : SeX h1 t (mm, pc, fs) := c3.eq' w4 (fun a ha => k1 a (by omega))
        have hg1 : CG h1 v st := c4.eq' e1 (fun a ha => k1 a (by omega))
        have F1 : RF2 h h1 t v := ⟨e1, fun a p q r => k1 a p⟩
        rw [e14, pb_add, am_let_eq]
        unfold rdMem
        by_cases hr : name = 1129145709
        · rw [if_pos (by rw [hr]), if_pos hr, hR1.r1_0, Option.bind_some, pb_add]
          obtain ⟨r, h2, b1, b2', b3⟩ := p_takeRuns_loop (s := s) (t := t) (u := u) (v := v) (e := a + 8 + n) (c := 3) (q := 2) ht ln_3 (by decide) (by omega) (by omega) hb (by omega) am_fuel (a + 8) 0 h1 mm hR1 hs1 w1 w2 hB1 (by omega) (by omega) (by unfold am_fuel; omega)
          have b1' : fX4_takeRuns GG t 2 (nI (a + 8)) (nI (a + 8 + n)) h1 = some (r, h2) := b1
          rw [b1', am_bs, am_bs]
          have k2 : ∀ a, a ≠ t + 1 → h2.1 a = h1.1 a := fun a ha => b2'.2 a (by simp [ha])
          have F2 : RF2 h h2 t v := F1.tr ⟨b2'.1, fun a p q r => k2 a (by omega)⟩
          refine ⟨r, h2, rfl, F2, by rw [k2 1 (by omega)]; exact e14, ?_⟩
          cases hrd : rdB bs (a + 8 + n) am_fuel (a + 8) 0 mm with
          | error p => rw [hrd] at b3; exact b3
          | ok m' =>
            rw [hrd] at b3
            exact ⟨b3.1, hC.keep ht hv F2 b3.2 (hg1.eq' b2'.1 (fun a ha => k2 a (by omega))) (by rw [k2 1 (by omega)]; exact e11) (by rw [k2 1 (by omega)]; exact e12) (by rw [k2 1 (by omega)]; exact e13) (by rw [k2 1 (by omega)]; exact e14)⟩
        · rw [if_neg (by rw [nI_inj32 hnm (by decide)]; exact hr), if_neg hr, hs1.1]
          by_cases hn2 : n = mm.length
          · rw [if_pos (by rw [hn2]), if_pos hn2, hR1.r1_0, Option.bind_some]
            obtain ⟨h2, b1, b2', b3⟩ := p_takeMemory_loop (s := s) (t := t) (u := u) (v := v) (o := a + 8) (n := n) ht hb (by omega) hbl (by omega) n 0 am_fuel h1 mm hR1 hB1 hs1 hn2.symm (fun k hk => by omega) (by omega) (by unfold am_fuel; omega)
            have b1' : fX4_takeMemory GG t 2 (nI (a + 8)) h1 = some ((), h2) := b1
            rw [b1', am_bs, am_bs]
            have k2 : ∀ a, a ≠ t + 1 → h2.1 a = h1.1 a := fun a ha => b3.2 a (by simp [ha])
            have F2 : RF2 h h2 t v := F1.tr ⟨b3.1, fun a p q r => k2 a (by omega)⟩
            refine ⟨_, h2, rfl, F2, by rw [k2 1 (by omega)]; exact e14, rfl, ?_⟩
            exact hC.keep ht hv F2 b2' (hg1.eq' b3.1 (fun a ha => k2 a (by omega))) (by rw [k2 1 (by omega)]; exact e11) (by rw [k2 1 (by omega)]; exact e12) (by rw [k2 1 (by omega)]; exact e13) (by rw [k2 1 (by omega)]; exact e14)
          · rw [if_neg (by rw [pb_eq (by omega) (by omega)]; exact hn2), if_neg hn2, pb_add, p_fault (by decide) (by omega), am_bs, am_bs]
            exact ⟨_, h1, rfl, F1, e14, rfl⟩
  unfold fX3_readContents
  rw [c0.r1_0, Option.bind_some, c8, hnum, am_bs, c8, pb_add, am_let_eq]
  rw [rdC]
  by_cases n1 : name = 1129145709
  · rw [if_pos (by rw [n1]), if_neg (by omega), if_pos (Or.inl n1)]
    exact mem (Or.inl n1)
  · rw [if_neg (by rw [nI_inj32 hnm (by decide)]; exact n1)]
    by_cases n2 : name = 1229351012
    · rw [if_pos (by rw [n2]), if_pos n2, c5]
      cases A with
      | true =>
        rw [if_neg (by rw [b2_0]; decide), if_pos rfl]
        exact same _ rfl
      | false =>
        rw [if_pos (by rw [b2_0]), if_neg (by decide)]
        unfold fX3_readHead
        by_cases n13 : n = 13
        · rw [if_pos (by rw [n13]), if_neg (fun z => z n13), c8, pb_add, am_let_eq]
          have hlp := p_readHead_loop (o := a + 8) c0 c1 hb c2 hhd bh (by omega) 10 0 am_fuel (by omega) (by unfold am_fuel; omega)
          rw [hlp]
          cases hbad : headBad bs hd (a + 8) 10 0 with
          | some k =>
            rw [am_bs]
            exact ⟨_, h, rfl, RF2.rf, c8, rfl⟩
          | none =>
            rw [am_bs]
            have k1 : ∀ b, b ≠ 1 → b ≠ t → (am_setI (am_setI h t 3 (nI (nbA bs 3 (a + 8 + 10) 0))) 1 1 (nI 1)).1 b = h.1 b := fun b p q => by rw [ps_n p, ps_n q]
            have k11 : ∀ j, j ≠ 1 → (am_setI (am_setI h t 3 (nI (nbA bs 3 (a + 8 + 10) 0))) 1 1 (nI 1)).1 1 j = h.1 1 j := fun j hj => by rw [ps_s, ps_un hj, ps_n (by omega)]
            have F1 : RF2 h (am_setI (am_setI h t 3 (nI (nbA bs 3 (a + 8 + 10) 0))) 1 1 (nI 1)) t v := ⟨rfl, fun b p q r => k1 b p (by omega)⟩
            refine ⟨_, _, rfl, F1, by rw [k11 4 (by decide)]; exact c8, rfl, ?_⟩
            refine hC.keep ht hv F1 ?_ (c4.eq' rfl (fun b hb' => k1 b (by omega) (by omega))) (by rw [ps_s, ps_us]; rfl) (by rw [k11 2 (by decide)]; exact c6) (by rw [k11 3 (by decide)]; exact c7) (by rw [k11 4 (by decide)]; exact c8)
            exact (c3.pcs (x := nbA bs 3 (a + 18) 0)).eq' w4 (fun b hb' => ps_n (by omega))
        · rw [if_neg (by rw [pb_eq (by omega) (by omega)]; exact n13), if_pos n13, c8, pb_add, p_fault (by decide) (by omega), am_bs, am_bs]
          exact ⟨_, h, rfl, RF2.rf, c8, rfl⟩
    · rw [if_neg (by rw [nI_inj32 hnm (by decide)]; exact n2), if_neg n2]
      by_cases n3 : name = 1400138611
      · rw [if_pos (by rw [n3]), if_neg (show ¬ (name = 1129145709 ∨ name = 1431135597) by omega), if_pos n3, c7]
        cases D with
        | true =>
          rw [if_neg (by rw [b2_0]; decide), if_pos rfl]
          exact same _ rfl
        | false =>
          rw [if_pos (by rw [b2_0]), if_neg (by decide), am_let_eq]
          generalize hh1 : am_setI h 1 3 (nI 1) = h1
          have k1 : ∀ a, a ≠ 1 → h1.1 a = h.1 a := fun a ha => by rw [← hh1, ps_n ha]
          have e1 : h1.2 = h.2 := by rw [← hh1]; rfl
          have hR1 := c0.eq e1
          have j1 : ∀ j, j ≠ 3 → h1.1 1 j = h.1 1 j := fun j hj => by rw [← hh1, ps_s, ps_un hj]
          have hB1 : Byt h1 2 3 2000 bs := c1.eq (by rw [e1]) (k1 2 (by decide)) (k1 3 (by decide))
          have hs1 : SeX h1 t (mm, pc, fs) := c3.eq' w4 (fun a ha => k1 a (by omega))
          have hg1 : CG h1 v st := c4.eq' e1 (fun a ha => k1 a (by omega))
          have F1 : RF2 h h1 t v := ⟨e1, fun a p q r => k1 a p⟩
          obtain ⟨r, h2, d1, d2, d3, d4⟩ := p_takeFrames (e := a + 8 + n) (a := a + 8) (c := 3) (q := 2) ht ln_3 (by decide) (fun b p q => by omega) hb (by omega) (by omega) hR1 hB1 hs1
          rw [hR1.r1_0, Option.bind_some, pb_add, d1, am_bs]
          have k2 : ∀ b, (b < t ∨ t + 42 < b) → h2.1 b = h1.1 b := d3
          have F2 : RF2 h h2 t v := F1.tr ⟨d2, fun b p q r => k2 b q⟩
          refine ⟨r, h2, rfl, F2, by rw [k2 1 (by omega), j1 4 (by decide)]; exact c8, ?_⟩
          cases hrd : rdD bs (a + 8 + n) 20 (a + 8) [] with
          | error p => rw [hrd] at d4; exact d4
          | ok fs' =>
            rw [hrd] at d4
            exact ⟨d4.1, hC.keep ht hv F2 d4.2 (hg1.eq' d2 (fun b hb' => k2 b (by omega))) (by rw [k2 1 (by omega), j1 1 (by decide)]; exact c5) (by rw [k2 1 (by omega), j1 2 (by decide)]; exact c6) (by rw [k2 1 (by omega), ← hh1, ps_s, ps_us]; rfl) (by rw [k2 1 (by omega), j1 4 (by decide)]; exact c8)⟩
      · rw [if_neg (by rw [nI_inj32 hnm (by decide)]; exact n3)]
        by_cases n4 : name = 1431135597
        · rw [if_pos (by rw [n4]), if_pos (Or.inr n4)]
          exact mem (Or.inr n4)
        · rw [if_neg (by rw [nI_inj32 hnm (by decide)]; exact n4), if_neg (by omega), if_neg n3, c0.r1_0, Option.bind_some]
          obtain ⟨h1, a1, a2, a3⟩ := p_sadd (name := name) (o := a + 8) (n := n) hv c0 c1 c4 i3 (fun x hx => (i4 x hx).2.2) (by omega) hbl
          have k1 : ∀ b, (b < v ∨ v + 4 < b) → h1.1 b = h.1 b := fun b hb' => a3.2 b (by simp; omega)
          have F1 : RF2 h h1 t v := ⟨a3.1, fun b p q r => k1 b r⟩
          rw [a1, am_bs]
          by_cases hc : st.length = 8 ∨ 200 < n
          · rw [if_pos hc, if_pos hc, if_pos (by decide), k1 1 (by omega), c8, p_fault (by decide) (by omega), am_bs]
            exact ⟨_, h1, rfl, F1, by rw [k1 1 (by omega)]; exact c8, rfl⟩
          · rw [if_neg hc, if_neg hc, if_neg (by decide)]
            refine ⟨_, h1, rfl, F1, by rw [k1 1 (by omega)]; exact c8, rfl, ?_⟩
            exact hC.keep ht hv F1 (c3.eq' w4 (fun b hb' => k1 b (by omega))) (a2 hc) (by rw [k1 1 (by omega)]; exact c5) (by rw [k1 1 (by omega)]; exact c6) (by rw [k1 1 (by omega)]; exact c7) (by rw [k1 1 (by omega)]; exact c8)
theorem p_shapeFault {bs hd ow : List Nat} {a : Nat} {S : Rd} (hb : By bs) (hbl : bs.length ≤ 2000) (ha : a < bs.length) (hC : CR h s t u v bs hd ow a S) : fX3_shapeFault GG 1 h = some (if bs.length < a + 8 then fcode (1, bs.length) else if bs.length < a + 8 + nbA bs 4 (a + 4) 0 + nbA bs 4 (a + 4) 0 % 2 then fcode (1, bs.length) else if nbA bs 4 (a + 4) 0 % 2 = 1 ∧ bs.getD (a + 8 + nbA bs 4 (a + 4) 0) 0 ≠ 0 then fcode (4, a + 8 + nbA bs 4 (a + 4) 0) else nI 0, h) := by
  obtain ⟨A, M, D, ss, st⟩ := S
  obtain ⟨c0, c1, c2, c3, c4, c5, c6, c7, c8⟩ := id hC
  have hsz : h.1 2 1 = nI bs.length := c1.2.2.1
  have hnm := nb4_lt hb (a + 4)
  have hnum := p_number ln_3 (by decide) c1 hb (o := a + 4) (m := 4) (by omega) (by decide)
  generalize nbA bs 4 (a + 4) 0 = n at hnm hnum
  have h44 : fX3_shapeFault_44 GG 1 h = some (fcode (1, bs.length), h) := by
    unfold fX3_shapeFault_44
    rw [c0.r1_0, Option.bind_some, hsz, p_fault (by decide) (by omega), am_bs]
  unfold fX3_shapeFault
  rw [c0.r1_0, Option.bind_some, hsz, c8, pb_sub (by omega), am_let_eq, Option.bind_some, pb_add, hnum, am_bs]
  by_cases h8 : bs.length < a + 8
  · rw [if_pos h8, if_pos, h44]
    rw [Int32.lt_iff_toInt_lt, pk_sub_toInt (by omega) (by decide)]
    have : (0 : Int32).toInt = 0 := by decide
    rw [this]
    omega
  · rw [if_neg h8, pb_sub (by omega), if_neg (nI_pos (by omega))]
    by_cases hbig : 2147483648 ≤ n
    · rw [if_pos (by rw [nI_neg hnm]; exact hbig), h44, if_pos (by omega)]
    · rw [if_neg (by rw [nI_neg hnm]; exact hbig)]
      by_cases hle : n ≤ bs.length - a - 8
      · rw [if_pos (by rw [pb_le (by omega) (by omega)]; exact hle)]
        have hand : (nI n &&& nI 1 = 0) = (n % 2 = 0) := by
          have := pk_and (nI n) (m := nI 1) 1 (by decide)
          rw [this]
          have e : (nI n).toBitVec.toNat = n := uN_nI (by omega)
          rw [e, pb_eq0 (by omega)]
        by_cases hodd : n % 2 = 0
        · rw [if_pos (by rw [hand]; exact hodd), if_neg (by omega), if_neg (by omega)]
        · rw [if_neg (by rw [hand]; exact hodd)]
          by_cases heq : n = bs.length - a - 8
          · rw [if_pos (by rw [heq]), c0.r1_0, Option.bind_some, hsz, p_fault (by decide) (by omega), am_bs, if_pos (by omega)]
          · rw [if_neg (by rw [pb_eq (by omega) (by omega)]; exact heq), if_neg (by omega), c8, pb_add, pb_add, am_let_eq, c0.r1_0, Option.bind_some, p_at c1 ln_3 (by decide) (by omega), am_bs]
            have hpb := getD_lt hb (a + 8 + n)
            by_cases hpz : bs.getD (a + 8 + n) 0 = 0
            · rw [if_pos (by rw [pb_eq0 (by omega)]; exact hpz), if_neg (fun z => z.2 hpz)]
            · rw [if_neg (by rw [pb_eq0 (by omega)]; exact hpz), if_pos ⟨by omega, hpz⟩, p_fault (by decide) (by omega), am_bs]
      · rw [if_neg (by rw [pb_le (by omega) (by omega)]; exact hle), h44, if_pos (by omega)]
end READ4
