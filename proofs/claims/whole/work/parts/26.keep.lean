/-! ===== what stays ===== -/
def Inv (h : AH) : Prop := ∃ (s t u v : Nat) (σ : Sg), WF σ ∧ CX h s t u v σ ∧ MX h s t u v σ
theorem MX.keep {h h1 : AH} {s t u v s' t' u' v' : Nat} {σ : Sg} (hM : MX h s t u v σ) (hR : RX h1 s' t' u' v') (hk : ∀ a, 119 ≤ a → h1.1 a = h.1 a) : MX h1 s' t' u' v' σ := by
  obtain ⟨tp, ou, dk, ct, hd, ow, ss, kp, bd, st, cd, pl, ch⟩ := σ
  obtain ⟨m0, m1, m2, m3, m4, m5, m6, m7, m8, m9, m10⟩ := hM
  have e : ∀ j, h1.1 119 j = h.1 119 j := fun j => by rw [hk 119 (by decide)]
  have f : ∀ (A : List Nat), (∀ a ∈ A, 119 ≤ a) → ∀ a ∈ A, h1.1 a = h.1 a := fun A hA a ha => hk a (hA a ha)
  exact ⟨hR, m1.eq (fun j _ => e j) (f _ (by decide)), m2.eq (fun j _ => e j) (f _ (by decide)), m3.eq (fun j _ => e j) (f _ (by decide)), m4.eq (fun j _ => e j) (f _ (by decide)), m5.eq (fun j _ => e j) (f _ (by decide)), m6.eq (fun j _ => e j) (f _ (by decide)), m7.eq (fun j _ => e j) (f _ (by decide)), m8.eq (fun j _ => e j) (f _ (by decide)), m9.eq (fun j _ => e j) (f _ (by decide)), m10.eq (fun j _ => e j) (f _ (by decide))⟩
theorem WF.fr {tp ou : List Nat} {dk : Option (List Nat)} {ct : Option Nat} {hd ow : List Nat} {ss : Sn} {kp : List Sn} {bd : Nat} {st : List (Nat × List Nat)} {cd : Nat} {pl : Option Nat} {ch : List (Nat × Nat × Nat)} (hw : WF (tp, ou, dk, ct, hd, ow, ss, kp, bd, st, cd, pl, ch)) : ss.2.2.length ≤ 20 ∧ ss.1.length ≤ 1000 := by
  obtain ⟨-, -, -, -, -, -, ⟨w1, w2⟩, -⟩ := hw
  by_cases ho : ow = []
  · rw [(w1 ho).1]; simp
  · obtain ⟨mm, pc, fs⟩ := ss
    have := (w2 ho).1.1
    exact ⟨this.2.2.2.1, this.1⟩
theorem CX.keep {h h1 : AH} {s t u v : Nat} {σ : Sg} (hw : WF σ) (hC : CX h s t u v σ) (h2 : h1.2 = h.2) (hk : ∀ a, a < 119 → h1.1 a = h.1 a) : CX h1 s t u v σ := by
  obtain ⟨tp, ou, dk, ct, hd, ow, ss, kp, bd, st, cd, pl, ch⟩ := σ
  obtain ⟨c0, c1, c2, c3, c4, c5, c6, c7, c8, c9⟩ := hC
  refine ⟨c0.eq h2, c1, c2.eq (by rw [h2]) (hk 2 (by decide)) (hk 3 (by decide)), c3.eq h2 (fun a ha => hk a (by omega)), c4.eq h2 (fun a ha => hk a (by omega)), c5.eq (fun a ha => hk a (by omega)), c6.eq h2 (fun a ha => hk a (by omega)), c7.eq c1.1 hw.fr.1 (fun a ha => hk a (by omega)), c8.eq c1.2.2.2.1 h2 (fun a ha => hk a (by omega)), ?_⟩
  rw [hk 0 (by decide)]
  exact c9
section KEEP
variable {h h1 : AH} {s t u v : Nat} {tp ou : List Nat} {dk : Option (List Nat)} {ct : Option Nat} {hd ow : List Nat} {ss ss' : Sn} {kp : List Sn} {bd : Nat} {st : List (Nat × List Nat)} {cd : Nat} {pl : Option Nat} {ch : List (Nat × Nat × Nat)}
/-- the class's session alone has changed -/
theorem CX.ses (hC : CX h s t u v (tp, ou, dk, ct, hd, ow, ss, kp, bd, st, cd, pl, ch)) (h2 : h1.2 = h.2) (hk : ∀ a, a < 23 ∨ 108 < a → h1.1 a = h.1 a) (hs : SeX h1 s ss') : CX h1 s t u v (tp, ou, dk, ct, hd, ow, ss', kp, bd, st, cd, pl, ch) := by
  obtain ⟨c0, c1, c2, c3, c4, c5, c6, c7, c8, c9⟩ := hC
  refine ⟨c0.eq h2, c1, c2.eq (by rw [h2]) (hk 2 (by decide)) (hk 3 (by decide)), c3.eq h2 (fun a ha => hk a (by omega)), c4.eq h2 (fun a ha => hk a (by omega)), c5.eq (fun a ha => hk a (by omega)), c6.eq h2 (fun a ha => hk a (by omega)), hs, c8.eq c1.2.2.2.1 h2 (fun a ha => hk a (by omega)), ?_⟩
  rw [hk 0 (by decide)]
  exact c9
/-- the model's session alone has changed -/
theorem MX.ses (hM : MX h s t u v (tp, ou, dk, ct, hd, ow, ss, kp, bd, st, cd, pl, ch)) (h2 : h1.2 = h.2) (hk : ∀ a, 119 ≤ a → a ≠ 125 → h1.1 a = h.1 a) (hs : ow ≠ [] → SeM (h1.1 125) ss') : MX h1 s t u v (tp, ou, dk, ct, hd, ow, ss', kp, bd, st, cd, pl, ch) := by
  obtain ⟨m0, m1, m2, m3, m4, m5, m6, m7, m8, m9, m10⟩ := hM
  have e : ∀ j, h1.1 119 j = h.1 119 j := fun j => by rw [hk 119 (by decide) (by decide)]
  have f : ∀ (A : List Nat), (∀ a ∈ A, 119 ≤ a ∧ a ≠ 125) → ∀ a ∈ A, h1.1 a = h.1 a := fun A hA a ha => hk a (hA a ha).1 (hA a ha).2
  exact ⟨m0.eq h2, m1.eq (fun j _ => e j) (f _ (by decide)), m2.eq (fun j _ => e j) (f _ (by decide)), m3.eq (fun j _ => e j) (f _ (by decide)), m4.eq (fun j _ => e j) (f _ (by decide)), m5.eq (fun j _ => e j) (f _ (by decide)), hs, m7.eq (fun j _ => e j) (f _ (by decide)), m8.eq (fun j _ => e j) (f _ (by decide)), m9.eq (fun j _ => e j) (f _ (by decide)), m10.eq (fun j _ => e j) (f _ (by decide))⟩
theorem WF.ses (hw : WF (tp, ou, dk, ct, hd, ow, ss, kp, bd, st, cd, pl, ch)) (ho : ow ≠ []) (hs : WS ow ss') : WF (tp, ou, dk, ct, hd, ow, ss', kp, bd, st, cd, pl, ch) := by
  obtain ⟨w1, w2, w3, w4, w5, w6, w7, w8⟩ := hw
  exact ⟨w1, w2, w3, w4, w5, w6, ⟨fun h => absurd h ho, fun h => ⟨hs, (w7.2 h).2⟩⟩, w8⟩
theorem p_noStory (hR : RX h s t u v) (hS : CS h hd ow) (hl : ow.length ≤ 1000) : fX8_noStory GG 0 h = some (if ow = [] then nI 1 else nI 0, h) := by
  unfold fX8_noStory
  rw [hR.r0_6, Option.bind_some, hS.1]
  by_cases ho : ow = []
  · subst ho
    rw [if_pos (by rfl), if_pos rfl]
  · rw [if_neg (by rw [pb_eq0 (by omega)]; intro hz; exact ho (List.length_eq_zero_iff.mp hz)), if_neg ho]
theorem p_within (x : Int32) {n : Nat} (hn : n < 2 ^ 31) : fX8_within GG x (nI n) h = some (if 0 ≤ x ∧ x ≤ nI n then nI 1 else nI 0, h) := by
  unfold fX8_within
  by_cases h1 : x < 0
  · rw [if_pos h1, if_neg (fun z => absurd h1 (Int32.not_lt.mpr z.1))]
  · rw [if_neg h1]
    by_cases h2 : nI n < x
    · rw [if_pos h2, if_neg (fun z => absurd h2 (Int32.not_lt.mpr z.2))]
    · rw [if_neg h2, if_pos ⟨Int32.not_lt.mp h1, Int32.not_lt.mp h2⟩]
theorem q_outside (x : Int32) {n : Nat} (hn : n < 2 ^ 31) : fX9_outside GG x (nI 0) (nI n) h = some (if 0 ≤ x ∧ x ≤ nI n then nI 0 else nI 1, h) := by
  unfold fX9_outside fX9_outside_10
  rw [nI_0]
  by_cases h1 : x < 0
  · rw [if_pos h1, if_neg (fun z => absurd h1 (Int32.not_lt.mpr z.1))]
  · rw [if_neg h1]
    by_cases h2 : x ≤ nI n
    · rw [if_pos h2, if_pos ⟨Int32.not_lt.mp h1, h2⟩]
    · rw [if_neg h2, if_neg (fun z => h2 z.2)]
/-- a number within bounds is a Nat -/
theorem in_nI {x : Int32} {n : Nat} (hn : n < 2 ^ 31) (hx : 0 ≤ x ∧ x ≤ nI n) : ∃ j, j ≤ n ∧ x = nI j := by
  obtain ⟨j, hj, rfl⟩ := nI_of (Int32.not_lt.mpr hx.1)
  refine ⟨j, ?_, rfl⟩
  have := hx.2
  rw [pb_le hj hn] at this
  exact this
theorem in_nIr {j n : Nat} (hn : n < 2 ^ 31) (hj : j ≤ n) : 0 ≤ nI j ∧ nI j ≤ nI n := ⟨nI_pos' (by omega), by rw [pb_le (by omega) hn]; exact hj⟩
theorem sub1_lt {x : Int32} {n : Nat} (hn : n < 2 ^ 30) : x ≤ nI n - nI 1 ↔ x < nI n := by
  rw [Int32.le_iff_toInt_le, Int32.lt_iff_toInt_lt, pk_sub_toInt hn (by decide), nI_toInt (by omega)]
  omega
theorem p_withinS (x : Int32) {n : Nat} (hn : n < 2 ^ 30) : fX8_within GG x (nI n - nI 1) h = some (if 0 ≤ x ∧ x < nI n then nI 1 else nI 0, h) := by
  unfold fX8_within
  by_cases h1 : x < 0
  · rw [if_pos h1, if_neg (fun z => absurd h1 (Int32.not_lt.mpr z.1))]
  · rw [if_neg h1]
    by_cases h2 : nI n - nI 1 < x
    · rw [if_pos h2, if_neg (fun z => absurd h2 (Int32.not_lt.mpr ((sub1_lt hn).mpr z.2)))]
    · rw [if_neg h2, if_pos ⟨Int32.not_lt.mp h1, (sub1_lt hn).mp (Int32.not_lt.mp h2)⟩]
theorem q_outsideS (x : Int32) {n : Nat} (hn : n < 2 ^ 30) : fX9_outside GG x (nI 0) (nI n - nI 1) h = some (if 0 ≤ x ∧ x < nI n then nI 0 else nI 1, h) := by
  unfold fX9_outside fX9_outside_10
  rw [nI_0]
  by_cases h1 : x < 0
  · rw [if_pos h1, if_neg (fun z => absurd h1 (Int32.not_lt.mpr z.1))]
  · rw [if_neg h1]
    by_cases h2 : x ≤ nI n - nI 1
    · rw [if_pos h2, if_pos ⟨Int32.not_lt.mp h1, (sub1_lt hn).mp h2⟩]
    · rw [if_neg h2, if_neg (fun z => h2 ((sub1_lt hn).mpr z.2))]
theorem in_nIS {x : Int32} {n : Nat} (hn : n < 2 ^ 31) (hx : 0 ≤ x ∧ x < nI n) : ∃ j, j < n ∧ x = nI j := by
  obtain ⟨j, hj, rfl⟩ := nI_of (Int32.not_lt.mpr hx.1)
  refine ⟨j, ?_, rfl⟩
  have := hx.2
  rw [pb_ltI hj hn] at this
  exact this
/-- the class's scalars alone have changed -/
theorem CX.sca {dk' : Option (List Nat)} {ct' : Option Nat} {cd' : Nat} {pl' : Option Nat} (hw : WF (tp, ou, dk, ct, hd, ow, ss, kp, bd, st, cd, pl, ch)) (hC : CX h s t u v (tp, ou, dk, ct, hd, ow, ss, kp, bd, st, cd, pl, ch)) (h2 : h1.2 = h.2) (hk : ∀ a, 0 < a → a < 119 → h1.1 a = h.1 a) (hD : CD h1 dk') (hz : CZ (h1.1 0) dk' ct' cd' pl') : CX h1 s t u v (tp, ou, dk', ct', hd, ow, ss, kp, bd, st, cd', pl', ch) := by
  obtain ⟨c0, c1, c2, c3, c4, c5, c6, c7, c8, c9⟩ := hC
  exact ⟨c0.eq h2, c1, c2.eq (by rw [h2]) (hk 2 (by decide) (by decide)) (hk 3 (by decide) (by decide)), c3.eq h2 (fun a ha => hk a (by omega) (by omega)), hD, c5.eq (fun a ha => hk a (by omega) (by omega)), c6.eq h2 (fun a ha => hk a (by omega) (by omega)), c7.eq c1.1 hw.fr.1 (fun a ha => hk a (by omega) (by omega)), c8.eq c1.2.2.2.1 h2 (fun a ha => hk a (by omega) (by omega)), hz⟩
end KEEP
