/-! ===== end, out, chunk ===== -/
section TAPE
variable {h h1 h2 : AH} {s t u v : Nat} {tp tp' ou : List Nat} {dk : Option (List Nat)} {ct : Option Nat} {hd ow : List Nat} {ss : Sn} {kp : List Sn} {bd : Nat} {st : List (Nat × List Nat)} {cd : Nat} {pl : Option Nat} {ch : List (Nat × Nat × Nat)}
/-- the tape alone has changed, of both -/
theorem inv_tape (hw : WF (tp, ou, dk, ct, hd, ow, ss, kp, bd, st, cd, pl, ch)) (hx : CX h s t u v (tp, ou, dk, ct, hd, ow, ss, kp, bd, st, cd, pl, ch)) (hm : MX h s t u v (tp, ou, dk, ct, hd, ow, ss, kp, bd, st, cd, pl, ch)) (a1 : h1.2 = h.2) (a2 : ∀ a, a ≠ 2 → a ≠ 3 → h1.1 a = h.1 a) (a3 : Byt h1 2 3 2000 tp') (b1 : h2.2 = h1.2) (b2 : ∀ a, a ≠ 119 → a ≠ 120 → h2.1 a = h1.1 a) (b3 : ∀ j, j ≠ 1 → h2.1 119 j = h1.1 119 j) (b4 : MT h2 tp') (g : By tp') : Inv h2 := by
  obtain ⟨c0, c1, c2, c3, c4, c5, c6, c7, c8, c9⟩ := hx
  obtain ⟨m0, m1, m2, m3, m4, m5, m6, m7, m8, m9, m10⟩ := hm
  have k : ∀ a, a ≠ 2 → a ≠ 3 → a ≠ 119 → a ≠ 120 → h2.1 a = h.1 a := fun a x1 x2 x3 x4 => (b2 a x3 x4).trans (a2 a x1 x2)
  have e2 : h2.2 = h.2 := b1.trans a1
  have e : ∀ (J : List Nat), (∀ j ∈ J, j ≠ 1) → ∀ j ∈ J, h2.1 119 j = h.1 119 j := fun J hJ j hj => by rw [b3 j (hJ j hj), a2 119 (by decide) (by decide)]
  have f : ∀ (A : List Nat), (∀ a ∈ A, a ≠ 2 ∧ a ≠ 3 ∧ a ≠ 119 ∧ a ≠ 120) → ∀ a ∈ A, h2.1 a = h.1 a := fun A hA a ha => k a (hA a ha).1 (hA a ha).2.1 (hA a ha).2.2.1 (hA a ha).2.2.2
  refine ⟨s, t, u, v, (tp', ou, dk, ct, hd, ow, ss, kp, bd, st, cd, pl, ch), ?_, ?_, ?_⟩
  · obtain ⟨w1, w2⟩ := hw
    exact ⟨⟨g, a3.2.1⟩, w2⟩
  · refine ⟨c0.eq e2, c1, a3.eq (by rw [b1]) (b2 2 (by decide) (by decide)) (b2 3 (by decide) (by decide)), c3.eq e2 (fun a ha => k a (by omega) (by omega) (by omega) (by omega)), c4.eq e2 (fun a ha => k a (by omega) (by omega) (by omega) (by omega)), c5.eq (fun a ha => k a (by omega) (by omega) (by omega) (by omega)), c6.eq e2 (fun a ha => k a (by omega) (by omega) (by omega) (by omega)), c7.eq c1.1 hw.fr.1 (fun a ha => k a (by omega) (by omega) (by omega) (by omega)), c8.eq c1.2.2.2.1 e2 (fun a ha => k a (by omega) (by omega) (by omega) (by omega)), ?_⟩
    rw [k 0 (by decide) (by decide) (by decide) (by decide)]
    exact c9
  · exact ⟨m0.eq e2, b4, m2.eq (e _ (by decide)) (f _ (by decide)), m3.eq (e _ (by decide)) (f _ (by decide)), m4.eq (e _ (by decide)) (f _ (by decide)), m5.eq (e _ (by decide)) (f _ (by decide)), m6.eq (e _ (by decide)) (f _ (by decide)), m7.eq (e _ (by decide)) (f _ (by decide)), m8.eq (e _ (by decide)) (f _ (by decide)), m9.eq (e _ (by decide)) (f _ (by decide)), m10.eq (e _ (by decide)) (f _ (by decide))⟩
theorem Arr.take {g : Nat → Int32} {bs : List Nat} (ha : Arr g bs) (n : Nat) : Arr g (bs.take n) := by
  intro i hi
  simp at hi
  rw [ha i (by omega)]
  simp [List.getD, List.getElem?_take, show i < n by omega]
theorem By.take {bs : List Nat} (hb : By bs) (n : Nat) : By (bs.take n) := fun b h => hb b (List.mem_of_mem_take h)
theorem st_end (hI : Inv h) (x : Int32) : ∃ r h1 h2, fX8_end GG 0 x h = some (r, h1) ∧ fX9_end GG 119 x h1 = some (r, h2) ∧ Inv h2 := by
  obtain ⟨s, t, u, v, ⟨tp, ou, dk, ct, hd, ow, ss, kp, bd, st, cd, pl, ch⟩, hw, hx, hm⟩ := id hI
  have hR := hx.1
  have hT := hx.2.2.1
  have hMT := hm.2.1
  have hl : tp.length ≤ 2000 := hw.1.2
  by_cases hin : 0 ≤ x ∧ x ≤ nI tp.length
  · obtain ⟨n, hn, rfl⟩ := in_nI (by omega) hin
    obtain ⟨h1, e1, e2, e3⟩ := p_keepFirst (Γ := GG) hT (by decide) (by decide) hn
    have hk : ∀ a, a ≠ 2 → h1.1 a = h.1 a := fun a ha => e3.2 a (by simp [ha])
    refine ⟨nI (tp.length - n), h1, am_setI h1 119 1 (nI n), ?_, ?_, ?_⟩
    · unfold fX8_end
      rw [hR.r0_2, Option.bind_some, hT.2.2.1, p_within _ (by omega), if_pos hin]
      simp only [am_bind, Option.bind_some, hR.r0_2, am_let, hT.2.2.1]
      rw [if_neg (by decide), pb_sub hn, e1]
      rfl
    · unfold fX9_end
      rw [hk 119 (by decide), hMT.1, q_outside _ (by omega), if_pos hin]
      simp only [am_bind, Option.bind_some, am_let]
      rw [if_pos (by decide), hk 119 (by decide), hMT.1, pb_sub hn]
    · refine inv_tape (h1 := h1) (tp' := tp.take n) hw hx hm e3.1 (fun a x1 x2 => hk a x1) e2 rfl (fun a x1 x2 => ps_n x1) (fun j hj => by rw [ps_s, ps_un hj]) ⟨?_, ?_⟩ (hw.1.1.take n)
      · rw [ps_s, ps_us]; congr 1; simp; omega
      · rw [ps_n (by decide), hk 120 (by decide)]
        exact hMT.2.take n
  · refine ⟨-1, h, h, ?_, ?_, hI⟩
    · unfold fX8_end
      rw [hR.r0_2, Option.bind_some, hT.2.2.1, p_within _ (by omega), if_neg hin]
      rfl
    · unfold fX9_end
      rw [hMT.1, q_outside _ (by omega), if_neg hin]
      rfl
theorem st_out (hI : Inv h) (x : Int32) : ∃ r h1 h2, fX8_out GG 0 x h = some (r, h1) ∧ fX9_out GG 119 x h1 = some (r, h2) ∧ Inv h2 := by
  obtain ⟨s, t, u, v, ⟨tp, ou, dk, ct, hd, ow, ss, kp, bd, st, cd, pl, ch⟩, hw, hx, hm⟩ := id hI
  have hR := hx.1
  have hO := hx.2.2.2.1.1
  have hMO := hm.2.2.1
  have hl : ou.length ≤ 8000 := hw.2.1.2
  by_cases hin : 0 ≤ x ∧ x < nI ou.length
  · obtain ⟨n, hn, rfl⟩ := in_nIS (by omega) hin
    refine ⟨nI (ou.getD n 0), h, h, ?_, ?_, hI⟩
    · unfold fX8_out
      rw [hR.r0_3, Option.bind_some, hO.2.2.1, p_withinS _ (by omega), if_pos hin]
      simp only [am_bind, Option.bind_some, hR.r0_3]
      rw [if_neg (by decide), p_at hO ln_6 (by decide) (by omega)]
      rfl
    · unfold fX9_out
      rw [hMO.1, q_outsideS _ (by omega), if_pos hin]
      simp (disch := omega) only [am_bind, Option.bind_some, hR.r119_2, ln_121, pb_ok, pb_cl, if_true, hMO.2 n hn, if_false]
      rw [if_pos (by decide)]
  · refine ⟨-1, h, h, ?_, ?_, hI⟩
    · unfold fX8_out
      rw [hR.r0_3, Option.bind_some, hO.2.2.1, p_withinS _ (by omega), if_neg hin]
      rfl
    · unfold fX9_out
      rw [hMO.1, q_outsideS _ (by omega), if_neg hin]
      rfl
theorem st_chunk (hI : Inv h) (x y : Int32) : ∃ r h1 h2, fX8_chunk GG 0 x y h = some (r, h1) ∧ fX9_chunk GG 119 x y h1 = some (r, h2) ∧ Inv h2 := by
  obtain ⟨s, t, u, v, ⟨tp, ou, dk, ct, hd, ow, ss, kp, bd, st, cd, pl, ch⟩, hw, hx, hm⟩ := id hI
  have hR := hx.1
  obtain ⟨-, hC, hC2, hC3⟩ := hx.2.2.2.1
  have hMC := hm.2.2.2.2.2.2.2.2.2.2
  by_cases hiy : 0 ≤ y ∧ y ≤ nI 2
  · by_cases hin : 0 ≤ x ∧ x < nI ch.length
    · obtain ⟨n, hn, rfl⟩ := in_nIS (by omega) hin
      obtain ⟨k, hk, rfl⟩ := in_nI (by decide) hiy
      obtain ⟨c, hc⟩ : ∃ c, ch[n]? = some c := ⟨ch[n], List.getElem?_eq_getElem hn⟩
      obtain ⟨a1, a2, a3⟩ := hC3 n c hc
      obtain ⟨b1, b2, b3⟩ := hMC.2 n c hc
      have A : ∀ r : Int32, fX7_tellChunk GG 4 (nI n) (nI k) h = some (r, h) → fX8_chunk GG 0 (nI n) (nI k) h = some (r, h) := by
        intro r hr
        unfold fX8_chunk
        rw [p_within _ (by decide), if_pos hiy]
        simp only [am_bind, Option.bind_some, hR.r0_1, hC]
        rw [if_neg (by decide), p_withinS _ (by omega), if_pos hin]
        simp only [Option.bind_some, hR.r0_1, hr]
        rfl
      have B : ∀ r : Int32, (if nI k = 0 then some (h.1 131 n, h) else if nI k = nI 1 then some (h.1 132 n, h) else some (h.1 133 n, h)) = some (r, h) → fX9_chunk GG 119 (nI n) (nI k) h = some (r, h) := by
        intro r hr
        unfold fX9_chunk
        rw [q_outside _ (by decide), if_pos hiy]
        simp only [am_bind, Option.bind_some, hMC.1]
        rw [if_pos (by decide), q_outsideS _ (by omega), if_pos hin]
        simp (disch := omega) only [Option.bind_some, hR.r119_22, hR.r119_23, hR.r119_24, ln_131, ln_132, ln_133, pb_ok, pb_cl, if_true, if_false]
        rw [if_pos (by decide)]
        exact hr
      have T : ∀ r : Int32, (if nI k = nI 0 then some (h.1 7 n, h) else if nI k = nI 1 then some (h.1 8 n, h) else some (h.1 9 n, h)) = some (r, h) → fX7_tellChunk GG 4 (nI n) (nI k) h = some (r, h) := by
        intro r hr
        unfold fX7_tellChunk
        simp (disch := omega) only [pb_lt0, if_false, hC, pb_le, if_neg, hR.r4_1, hR.r4_2, hR.r4_3, Option.bind_some, ln_7, ln_8, ln_9, pb_ltI, if_pos, pb_ok, pb_cl, if_true]
        exact hr
      have : k = 0 ∨ k = 1 ∨ k = 2 := by omega
      rcases this with rfl | rfl | rfl
      · exact ⟨nI c.1, h, h, A _ (T _ (by rw [if_pos rfl, a1])), B _ (by rw [if_pos (by decide), b1]), hI⟩
      · exact ⟨nI c.2.1, h, h, A _ (T _ (by rw [if_neg (by decide), if_pos rfl, a2])), B _ (by rw [if_neg (by decide), if_pos rfl, b2]), hI⟩
      · exact ⟨nI c.2.2, h, h, A _ (T _ (by rw [if_neg (by decide), if_neg (by decide), a3])), B _ (by rw [if_neg (by decide), if_neg (by decide), b3]), hI⟩
    · refine ⟨-2, h, h, ?_, ?_, hI⟩
      · unfold fX8_chunk
        rw [p_within _ (by decide), if_pos hiy]
        simp only [am_bind, Option.bind_some, hR.r0_1, hC]
        rw [if_neg (by decide), p_withinS _ (by omega), if_neg hin]
        rfl
      · unfold fX9_chunk
        rw [q_outside _ (by decide), if_pos hiy]
        simp only [am_bind, Option.bind_some, hMC.1]
        rw [if_pos (by decide), q_outsideS _ (by omega), if_neg hin]
        rfl
  · refine ⟨-1, h, h, ?_, ?_, hI⟩
    · unfold fX8_chunk
      rw [p_within _ (by decide), if_neg hiy]
      rfl
    · unfold fX9_chunk
      rw [q_outside _ (by decide), if_neg hiy]
      rfl
end TAPE
