/-! ===== the class reads a file, whole ===== -/
section READ5
variable {h : AH} {s t u v : Nat}
def gE (p : Nat × Nat) : Prop := (1 ≤ p.1 ∧ p.1 ≤ 10) ∧ p.2 ≤ 2000
theorem gE.ne {p : Nat × Nat} (hp : gE p) : ¬ fcode p = 0 := by
  obtain ⟨⟨h1, h2⟩, h3⟩ := hp
  unfold fcode
  rw [pb_eq0 (by omega)]
  omega
theorem rdB_err {bs : List Nat} {e : Nat} (he : e ≤ 2000) : ∀ (z a i : Nat) (mm : List Nat) (p : Nat × Nat), a ≤ e → rdB bs e z a i mm = .error p → gE p
  | 0, a, i, mm, p, _, hr => by cases hr
  | z + 1, a, i, mm, p, ha, hr => by
    rw [rdB] at hr
    split at hr
    · cases hr
    · split at hr
      · split at hr
        · split at hr
          · exact rdB_err he z _ _ _ _ (by omega) hr
          · cases hr; exact ⟨⟨Nat.le_of_ble_eq_true rfl, Nat.le_of_ble_eq_true rfl⟩, by simp only; omega⟩
        · cases hr; exact ⟨⟨Nat.le_of_ble_eq_true rfl, Nat.le_of_ble_eq_true rfl⟩, by simp only; omega⟩
      · split at hr
        · exact rdB_err he z _ _ _ _ (by omega) hr
        · cases hr; exact ⟨⟨Nat.le_of_ble_eq_true rfl, Nat.le_of_ble_eq_true rfl⟩, by simp only; omega⟩
theorem rdF_err {bs : List Nat} {e a : Nat} {first : Bool} {p : Nat × Nat} (he : e ≤ 2000) (hr : rdF bs e a first = .error p) : gE p := by
  unfold rdF at hr
  split at hr
  · cases hr; exact ⟨⟨Nat.le_of_ble_eq_true rfl, Nat.le_of_ble_eq_true rfl⟩, by simp only; omega⟩
  · split at hr
    · next k hk =>
      have : k < 6 := by
        split at hk
        · have := bad6_lt hk; omega
        · exact badL_lt hk
      cases hr
      exact ⟨⟨Nat.le_of_ble_eq_true rfl, Nat.le_of_ble_eq_true rfl⟩, by simp only; omega⟩
    · split at hr
      · cases hr; exact ⟨⟨Nat.le_of_ble_eq_true rfl, Nat.le_of_ble_eq_true rfl⟩, by simp only; omega⟩
      · split at hr
        · cases hr; exact ⟨⟨Nat.le_of_ble_eq_true rfl, Nat.le_of_ble_eq_true rfl⟩, by simp only; omega⟩
        · cases hr
theorem rdD_err {bs : List Nat} {e : Nat} (he : e ≤ 2000) : ∀ (n a : Nat) (fs : List Fm) (p : Nat × Nat), rdD bs e n a fs = .error p → gE p
  | 0, a, fs, p, hr => by
    rw [rdD] at hr
    split at hr
    · cases hr
    · cases hr; exact ⟨⟨Nat.le_of_ble_eq_true rfl, Nat.le_of_ble_eq_true rfl⟩, by simp only; omega⟩
  | n + 1, a, fs, p, hr => by
    rw [rdD] at hr
    split at hr
    · cases hr
    · split at hr
      · next q hF =>
        cases hr
        exact rdF_err he hF
      · exact rdD_err he n _ _ _ hr
theorem headBad_lt {bs hd : List Nat} {o : Nat} : ∀ {n i k : Nat}, headBad bs hd o n i = some k → k < i + n
  | 0, i, k, hk => by cases hk
  | n + 1, i, k, hk => by
    rw [headBad] at hk
    split at hk
    · have := headBad_lt hk; omega
    · cases hk; omega
theorem rdC_err {bs hd ow : List Nat} {a n name : Nat} {S : Rd} {p : Nat × Nat} (hbl : bs.length ≤ 2000) (hl : a + 8 + n ≤ bs.length) (hr : rdC bs hd ow a n name S = .error p) : gE p := by
  obtain ⟨A, M, D, ss, st⟩ := S
  rw [rdC] at hr
  split at hr
  · split at hr
    · cases hr
    · split at hr
      · cases hr; exact ⟨⟨Nat.le_of_ble_eq_true rfl, Nat.le_of_ble_eq_true rfl⟩, by simp only; omega⟩
      · next n13 =>
        split at hr
        · next k hk =>
          have := headBad_lt hk
          cases hr
          exact ⟨⟨Nat.le_of_ble_eq_true rfl, Nat.le_of_ble_eq_true rfl⟩, by simp only; omega⟩
        · cases hr
  · split at hr
    · split at hr
      · cases hr
      · split at hr
        · cases hr; exact ⟨⟨Nat.le_of_ble_eq_true rfl, Nat.le_of_ble_eq_true rfl⟩, by simp only; omega⟩
        · split at hr
          · cases hr
          · next q hm =>
            cases hr
            unfold rdMem at hm
            split at hm
            · split at hm
              · cases hm
              · next q2 hB => cases hm; exact rdB_err (by omega) _ _ _ _ _ (by omega) hB
            · split at hm
              · cases hm
              · cases hm; exact ⟨⟨Nat.le_of_ble_eq_true rfl, Nat.le_of_ble_eq_true rfl⟩, by simp only; omega⟩
    · split at hr
      · split at hr
        · cases hr
        · split at hr
          · cases hr
          · next q hD => cases hr; exact rdD_err (by omega) _ _ _ _ hD
      · split at hr
        · cases hr; exact ⟨⟨Nat.le_of_ble_eq_true rfl, Nat.le_of_ble_eq_true rfl⟩, by simp only; omega⟩
        · cases hr
theorem p_129 {x : Int32} (hx : ¬ x = 0) : fX3_readFor_129 GG 1 x h = some (x, h) := by
  unfold fX3_readFor_129 fX3_readFor_154 fX3_readFor_155
  rw [if_neg hx, if_neg hx]
  split
  · rfl
  · split
    · rfl
    · split <;> rfl
theorem p_39e {x : Int32} (hx : ¬ x = 0) (z : Nat) (i : Int32) : fX3_readFor_39 GG (z + 1) 1 14 t v x i h = some (x, h) := by
  rw [fX3_readFor_39, if_neg hx, p_129 hx]
  split <;> rfl
def OkR (h : AH) (ow : List Nat) (t v : Nat) (R : Sn × Sg2) : Prop := SeX h t R.1 ∧ CG h v R.2 ∧ WS ow R.1 ∧ R.2.length ≤ 8 ∧ ∀ x ∈ R.2, x.1 < 4294967296 ∧ By x.2 ∧ x.2.length ≤ 200
theorem p_readFor39 {bs hd ow : List Nat} (ht : SQ t) (hv : TQ v) (hb : By bs) (bo : By ow) (hl : ow.length ≤ 1000) (hhd : hd.length = 10) (bh : By hd) (hbl : bs.length ≤ 2000) : ∀ (m i z a : Nat) (S : Rd) (h : AH), CR h s t u v bs hd ow a S → IR ow S → i + m = 249 → bs.length ≤ a + 8 * m → a ≤ 2001 → m + 1 < z → ∃ r h1, fX3_readFor_39 GG z 1 14 t v (nI 0) (nI i) h = some (r, h1) ∧ RF2 h h1 t v ∧ match rdAll bs hd ow (m + 1) a S with
    | .ok R => r = nI 0 ∧ OkR h1 ow t v R
    | .error p => r = fcode p ∧ gE p
  | m, i, 0, a, S, h, _, _, _, _, _, hz => by omega
  | m, i, z + 1, a, S, h, hC, hI, hi, hm, ha2, hz => by
    have ht' : t = 23 ∨ t = 66 := ht
    have hv' : v = 109 ∨ v = 114 := hv
    obtain ⟨c0, c1, c2, c3, c4, c5, c6, c7, c8⟩ : CR h s t u v bs hd ow a (S.1, S.2.1, S.2.2.1, S.2.2.2.1, S.2.2.2.2) := id hC
    have hsz : h.1 2 1 = nI bs.length := c1.2.2.1
    rw [fX3_readFor_39, if_neg (by rw [pb_le (by omega) (by omega)]; omega), if_pos (by decide), c0.r1_0, Option.bind_some, hsz, c8, rdAll]
    by_cases hend : bs.length ≤ a
    · rw [if_pos (by rw [pb_le (by omega) (by omega)]; exact hend), if_pos hend]
      have h154 : fX3_readFor_154 GG 1 (nI 0) h = some (fcode (10, bs.length), h) := by
        unfold fX3_readFor_154 fX3_readFor_155
        rw [if_pos (by decide), if_pos (by decide), c0.r1_0, Option.bind_some, hsz, p_fault (by decide) (by omega), am_bs]
      unfold fX3_readFor_129
      rw [c5, c6, c7]
      by_cases hall : S.1 = true ∧ S.2.1 = true ∧ S.2.2.1 = true
      · rw [if_neg (by rw [b2_0, hall.1]; decide), if_neg (by rw [b2_0, hall.2.1]; decide), if_neg (by rw [b2_0, hall.2.2]; decide), if_pos hall]
        refine ⟨nI 0, h, ?_, RF2.rf, rfl, c3, c4, hI.1, hI.2.2⟩
        unfold fX3_readFor_155
        rw [if_pos (by decide), if_neg (by decide)]
      · rw [if_neg hall]
        refine ⟨fcode (10, bs.length), h, ?_, RF2.rf, rfl, ⟨Nat.le_of_ble_eq_true rfl, Nat.le_of_ble_eq_true rfl⟩, by simp only; omega⟩
        by_cases f1 : S.1 = false
        · rw [if_pos (by rw [b2_0]; exact f1), h154]
        · rw [if_neg (by rw [b2_0]; exact f1)]
          by_cases f2 : S.2.1 = false
          · rw [if_pos (by rw [b2_0]; exact f2), h154]
          · rw [if_neg (by rw [b2_0]; exact f2), if_pos (by
              rw [b2_0]
              cases h3 : S.2.2.1 with
              | false => rfl
              | true => exact absurd ⟨by simpa using f1, by simpa using f2, h3⟩ hall), h154]
    · have hsf := p_shapeFault hb hbl (by omega) hC
      rw [if_neg (by rw [pb_le (by omega) (by omega)]; exact hend), if_neg hend, hsf, am_bs]
      obtain ⟨z', rfl⟩ : ∃ z', z = z' + 1 := ⟨z - 1, by omega⟩
      have bad : ∀ p : Nat × Nat, gE p → ∃ r h1, (if fcode p = 0 then (h.2 1 0).bind fun b78 => am_bind (fX0_number GG b78 ((h.1 1 4) + (nI 4)) (nI 4) h) fun r88 h88 => am_bind (fX3_readContents GG 1 r88 14 t v h88) fun r99 h99 => am_let (am_setI h99 1 4 ((h99.1 1 4) + (((nI 8) + r88) + (r88 &&& (nI 1))))) fun h120 => fX3_readFor_123 GG (fX3_readFor_39 GG (z' + 1)) 1 14 t v r99 (nI i) h120 else fX3_readFor_123 GG (fX3_readFor_39 GG (z' + 1)) 1 14 t v (fcode p) (nI i) h) = some (r, h1) ∧ RF2 h h1 t v ∧ r = fcode p ∧ gE p := by
        intro p hp
        rw [if_neg hp.ne]
        unfold fX3_readFor_123
        rw [p_39e hp.ne]
        exact ⟨_, h, rfl, RF2.rf, rfl, hp⟩
      by_cases h8 : bs.length < a + 8
      · rw [if_pos h8, if_pos h8]
        exact bad (1, bs.length) ⟨⟨Nat.le_of_ble_eq_true rfl, Nat.le_of_ble_eq_true rfl⟩, by simp only; omega⟩
      · rw [if_neg h8, if_neg h8]
        have hnm := nb4_lt hb (a + 4)
        have hnum := p_number ln_3 (by decide) c1 hb (o := a + 4) (m := 4) (by omega) (by decide)
        generalize hn : nbA bs 4 (a + 4) 0 = n at hnm hnum bad
        by_cases h9 : bs.length < a + 8 + n + n % 2
        · rw [if_pos h9, if_pos h9]
          exact bad (1, bs.length) ⟨⟨Nat.le_of_ble_eq_true rfl, Nat.le_of_ble_eq_true rfl⟩, by simp only; omega⟩
        · rw [if_neg h9, if_neg h9]
          by_cases h10 : n % 2 = 1 ∧ bs.getD (a + 8 + n) 0 ≠ 0
          · rw [if_pos h10, if_pos h10]
            exact bad (4, a + 8 + n) ⟨⟨Nat.le_of_ble_eq_true rfl, Nat.le_of_ble_eq_true rfl⟩, by simp only; omega⟩
          · rw [if_neg h10, if_neg h10, if_pos (by decide), c0.r1_0, Option.bind_some, c8, pb_add, hnum, am_bs]
            obtain ⟨r, h1, d1, d2, d3, d4⟩ := p_readContents (n := n) ht hv hb bo hl hhd bh hbl (by omega) hC hI
            rw [d1, am_bs, d3, am_let_eq]
            have hand : nI n &&& nI 1 = nI (n % 2) := by
              have := pk_and (nI n) (m := nI 1) 1 (by decide)
              rw [this]
              have e : (nI n).toBitVec.toNat = n := uN_nI (by omega)
              rw [e]
            rw [pb_add, hand, pb_add, pb_add, show a + (8 + n + n % 2) = a + 8 + n + n % 2 by omega]
            unfold fX3_readFor_123
            rw [pb_add]
            have k1 : ∀ b, b ≠ 1 → (am_setI h1 1 4 (nI (a + 8 + n + n % 2))).1 b = h1.1 b := fun b hb' => ps_n hb'
            have F1 : RF2 h (am_setI h1 1 4 (nI (a + 8 + n + n % 2))) t v := d2.tr ⟨rfl, fun b p q r => k1 b p⟩
            cases hrd : rdC bs hd ow a n (nbA bs 4 a 0) S with
            | error p =>
              rw [hrd] at d4
              have hgp := rdC_err hbl (by omega) hrd
              simp only at d4 ⊢
              rw [d4, p_39e hgp.ne]
              exact ⟨_, _, rfl, F1, rfl, hgp⟩
            | ok S' =>
              rw [hrd] at d4
              simp only at d4 ⊢
              obtain ⟨d5, d6⟩ := d4
              rw [d5]
              have hI' := rdC_inv hb bo (nb4_lt hb a) (by omega) hI hrd
              obtain ⟨m', rfl⟩ : ∃ m', m = m' + 1 := ⟨m - 1, by omega⟩
              have hC' : CR (am_setI h1 1 4 (nI (a + 8 + n + n % 2))) s t u v bs hd ow (a + 8 + n + n % 2) S' := by
                obtain ⟨A, M, D, ss, st⟩ := S'
                obtain ⟨q0, q1, q2, q3, q4, q5, q6, q7, q8⟩ := d6
                exact ⟨q0.eq rfl, q1.eq rfl (k1 2 (by decide)) (k1 3 (by decide)), q2.eq (fun b hb' => k1 b (by omega)), q3.eq' hI'.1.1.2.2.2.1 (fun b hb' => k1 b (by omega)), q4.eq' rfl (fun b hb' => k1 b (by omega)), by rw [ps_s, ps_un (by decide)]; exact q5, by rw [ps_s, ps_un (by decide)]; exact q6, by rw [ps_s, ps_un (by decide)]; exact q7, by rw [ps_s, ps_us]⟩
              obtain ⟨r', h2, e1, e2, e3⟩ := p_readFor39 ht hv hb bo hl hhd bh hbl m' (i + 1) (z' + 1) (a + 8 + n + n % 2) S' _ hC' hI' (by omega) (by omega) (by omega) (by omega)
              exact ⟨r', h2, e1, F1.tr e2, e3⟩
theorem p_clear6' {q : Nat} (hq : TQ q) (hR : RX h s t u v) : ∃ h1, fX6_clear GG q h = some ((), h1) ∧ CG h1 q [] ∧ Fr h h1 [q, q + 1] := by
  obtain ⟨h1, e1, e2, e3⟩ := p_clear0 (h := h) (N := 1600) (hq.rr hR)
  refine ⟨am_setI h1 q 3 (nI 0), ?_, ⟨?_, ?_, fun i x hx => by simp at hx⟩, (e3.mo (by simp)).tr (Fr.set (by simp))⟩
  · unfold fX6_clear
    rw [hq.r0 hR, Option.bind_some, e1]
    rfl
  · exact e2.eq rfl (ps_n (by omega)) (ps_n (by omega))
  · rw [ps_s, ps_us]; rfl
theorem p_readFor {bs hd ow : List Nat} (ht : SQ t) (hv : TQ v) (hR : RX h s t u v) (hB : Byt h 2 3 2000 bs) (hS : CS h hd ow) (hb : By bs) (bo : By ow) (hl : ow.length ≤ 1000) (hhd : hd.length = 10) (bh : By hd) : ∃ r h1, fX3_readFor GG 1 14 t v h = some (r, h1) ∧ RF2 h h1 t v ∧ match rdFile bs hd ow with
    | .ok R => r = nI 0 ∧ OkR h1 ow t v R
    | .error p => r = fcode p ∧ gE p := by
  have ht' : t = 23 ∨ t = 66 := ht
  have hv' : v = 109 ∨ v = 114 := hv
  have hbl : bs.length ≤ 2000 := hB.2.1
  obtain ⟨h1, a1, a2, a3⟩ := p_sbegin (q := t) ht hR hS hl
  have hR1 := hR.eq a2.1
  have F1 : RF2 h h1 t v := ⟨a2.1, fun b p q r => a2.2 b (by simp; omega)⟩
  obtain ⟨h2, b1, b2', b3⟩ := p_clear6' (q := v) hv hR1
  have hR2 := hR1.eq b3.1
  have F2 : RF2 h h2 t v := F1.tr ⟨b3.1, fun b p q r => b3.2 b (by simp; omega)⟩
  generalize hh3 : am_setI (am_setI (am_setI (am_setI h2 1 1 (nI 0)) 1 2 (nI 0)) 1 3 (nI 0)) 1 4 (nI 12) = h3
  have k3 : ∀ b, b ≠ 1 → h3.1 b = h2.1 b := fun b hb' => by rw [← hh3, ps_n hb', ps_n hb', ps_n hb', ps_n hb']
  have e3 : h3.2 = h2.2 := by rw [← hh3]; rfl
  have F3 : RF2 h h3 t v := F2.tr ⟨e3, fun b p q r => k3 b p⟩
  have hR3 := hR.eq F3.1
  have hB3 : Byt h3 2 3 2000 bs := hB.eq (by rw [F3.1]) (F3.2 2 (by omega) (by omega) (by omega)) (F3.2 3 (by omega) (by omega) (by omega))
  have hC3 : CR h3 s t u v bs hd ow 12 (false, false, false, (ow, 0, [(0, some 0, 0, 0, [])]), []) := by
    refine ⟨hR3, hB3, hS.eq (fun b hb' => F3.2 b (by omega) (by omega) (by omega)), a3.eq' (by simp) (fun b hb' => by rw [k3 b (by omega), b3.2 b (by simp; omega)]), b2'.eq' e3 (fun b hb' => k3 b (by omega)), ?_, ?_, ?_, ?_⟩
    · rw [← hh3, ps_s, ps_un (by decide), ps_s, ps_un (by decide), ps_s, ps_un (by decide), ps_s, ps_us]; rfl
    · rw [← hh3, ps_s, ps_un (by decide), ps_s, ps_un (by decide), ps_s, ps_us]; rfl
    · rw [← hh3, ps_s, ps_un (by decide), ps_s, ps_us]; rfl
    · rw [← hh3, ps_s, ps_us]
  have hI3 : IR ow (false, false, false, (ow, 0, [(0, some 0, 0, 0, [])]), []) := ⟨WS.begin bo hl, fun _ => rfl, by simp, fun x hx => by simp at hx⟩
  have hsz : h3.1 2 1 = nI bs.length := hB3.2.2.1
  have start : fX3_readFor GG 1 14 t v h = am_bind (fX3_frontFault GG 1 h3) fun r31 h31 => fX3_readFor_39 GG am_fuel 1 14 t v r31 (nI 0) h31 := by
    unfold fX3_readFor
    rw [a1, am_bs, b1, am_bs, am_let_eq, am_let_eq, am_let_eq, am_let_eq, hh3]
  have bad : ∀ p : Nat × Nat, gE p → fX3_frontFault GG 1 h3 = some (fcode p, h3) → ∃ r h1, fX3_readFor GG 1 14 t v h = some (r, h1) ∧ RF2 h h1 t v ∧ r = fcode p ∧ gE p := by
    intro p hp hf
    refine ⟨fcode p, h3, ?_, F3, rfl, hp⟩
    rw [start, hf, am_bs]
    exact p_39e hp.ne _ _
  have n0 := p_number ln_3 (by decide) hB3 hb (o := 0) (m := 4) (by omega) (by decide)
  have n4 := p_number ln_3 (by decide) hB3 hb (o := 4) (m := 4) (by omega) (by decide)
  have n8 := p_number ln_3 (by decide) hB3 hb (o := 8) (m := 4) (by omega) (by decide)
  have l0 := nb4_lt hb 0
  have l4 := nb4_lt hb 4
  have l8 := nb4_lt hb 8
  unfold rdFile
  by_cases h12 : bs.length < 12
  · rw [if_pos h12]
    refine bad (1, bs.length) ⟨⟨Nat.le_of_ble_eq_true rfl, Nat.le_of_ble_eq_true rfl⟩, by simp only; omega⟩ ?_
    unfold fX3_frontFault
    rw [hR3.r1_0, Option.bind_some, hsz, if_neg (by rw [pb_le (by omega) (by omega)]; omega), Option.bind_some, hsz, p_fault (by decide) (by omega), am_bs]
  · rw [if_neg h12]
    have f0 : fX3_frontFault GG 1 h3 = (if nI (nbA bs 4 0 0) = nI 1179603533 then (if nI (nbA bs 4 4 0) = nI (bs.length - 8) then (if nI (nbA bs 4 8 0) = nI 1229347411 then some (nI 0, h3) else some (fcode (2, 8), h3)) else some (fcode (3, 4), h3)) else some (fcode (2, 0), h3)) := by
      unfold fX3_frontFault
      rw [hR3.r1_0, Option.bind_some, hsz, if_pos (by rw [pb_le (by omega) (by omega)]; omega), Option.bind_some, n0, am_bs, hR3.r1_0, Option.bind_some, n4, am_bs, hR3.r1_0, Option.bind_some, hsz, pb_sub (by omega), Option.bind_some, n8, am_bs, p_fault (by decide) (by omega), am_bs, p_fault (by decide) (by omega), am_bs, p_fault (by decide) (by omega), am_bs]
    by_cases c0 : nbA bs 4 0 0 = 1179603533
    · rw [if_neg (fun z => z c0)]
      by_cases c4 : nbA bs 4 4 0 = bs.length - 8
      · rw [if_neg (fun z => z c4)]
        by_cases c8 : nbA bs 4 8 0 = 1229347411
        · rw [if_neg (fun z => z c8)]
          rw [if_pos (by rw [c0]), if_pos (by rw [c4]), if_pos (by rw [c8])] at f0
          obtain ⟨r, h4, d1, d2, d3⟩ := p_readFor39 (s := s) (u := u) ht hv hb bo hl hhd bh hbl 249 0 am_fuel 12 _ h3 hC3 hI3 (by omega) (by omega) (by omega) (by unfold am_fuel; omega)
          refine ⟨r, h4, ?_, F3.tr d2, d3⟩
          rw [start, f0, am_bs]
          exact d1
        · rw [if_pos c8]
          rw [if_pos (by rw [c0]), if_pos (by rw [c4]), if_neg (by rw [nI_inj32 l8 (by decide)]; exact c8)] at f0
          exact bad (2, 8) (by unfold gE; decide) f0
      · rw [if_pos c4]
        rw [if_pos (by rw [c0]), if_neg (by rw [nI_inj32 l4 (by omega)]; exact c4)] at f0
        exact bad (3, 4) (by unfold gE; decide) f0
    · rw [if_pos c0]
      rw [if_neg (by rw [nI_inj32 l0 (by decide)]; exact c0)] at f0
      exact bad (2, 0) (by unfold gE; decide) f0
end READ5
