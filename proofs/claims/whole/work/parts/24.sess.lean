/-! ===== frames and sessions of the class ===== -/
section SES
variable {h : AH} {q c s t u v : Nat}
theorem p_wordAt (hr : h.2 q 0 = some c) (hn : am_len GG c = 55) {k : Nat} (hk : k < 55) : fX1_wordAt GG q (nI k) h = some (h.1 c k, h) := by
  simp (disch := omega) only [fX1_wordAt, hr, hn, Option.bind_some, pb_lt0, pb_le, if_pos, if_neg, pb_ok, if_true, pb_cl, if_false]
theorem p_setWord (hr : h.2 q 0 = some c) (hn : am_len GG c = 55) {k : Nat} (hk : k < 55) {x : Int32} : fX1_setWord GG q (nI k) x h = some ((), am_setI h c k x) := by
  simp (disch := omega) only [fX1_setWord, hr, hn, Option.bind_some, pb_lt0, pb_le, if_pos, if_neg, pb_ok, if_true, pb_cl, am_let, if_false]
theorem p_words {f : Nat → Int32} (hf : h.1 q = f) {nl d : Nat} (h4 : f 4 = nI nl) (h5 : f 5 = nI d) : fX1_words GG q h = some (nI (nl + d), h) := by
  simp only [fX1_words, hf, h4, h5, pb_add]
/-- what a call changes in a session's frames -/
theorem p_stackWord (hr : h.2 q 0 = some c) (hn : am_len GG c = 55) (hqc : q ≠ c) {nl d : Nat} (h4 : h.1 q 4 = nI nl) (h5 : h.1 q 5 = nI d) (hd : d < 40) (hnl : nl ≤ 15) {x : Int32} : fX1_stackWord GG q x h = some ((), am_setI (am_setI h c (nl + d) x) q 5 (nI (d + 1))) := by
  unfold fX1_stackWord
  rw [h4, h5, pb_add, p_setWord hr hn (by omega)]
  simp (disch := omega) only [pb_le, if_neg, am_bind, Option.bind_some, am_let, if_true, if_false]
  rw [ps_n hqc, h5, pb_add]
theorem p_byteAt (hq : SQ q) (hR : RX h s t u v) {mm : List Nat} (h2 : h.1 q 2 = nI mm.length) (hm : mm.length ≤ 1000) (h3 : ∀ i, i < mm.length → h.1 (q + 1) i = nI (mm.getD i 0)) {i : Nat} (hi : i < 2 ^ 31) : fX4_byteAt GG q (nI i) h = some (nI (mm.getD i 0), h) := by
  by_cases hlt : i < mm.length
  · simp (disch := omega) only [fX4_byteAt, h2, hq.rm hR, hq.m, Option.bind_some, pb_lt0, pb_le, if_pos, if_neg, pb_ok, if_true, pb_cl, h3 i hlt, if_false]
  · simp (disch := omega) only [fX4_byteAt, h2, pb_lt0, pb_le, if_pos, if_neg, if_true, if_false]
    rw [List.getD_eq_getElem?_getD, List.getElem?_eq_none (Nat.not_lt.mp hlt)]
    rfl
theorem p_setByte (hq : SQ q) (hR : RX h s t u v) {n : Nat} (h2 : h.1 q 2 = nI n) (hm : n ≤ 1000) {i : Nat} (hi : i < n) {x : Int32} : fX4_setByte GG q (nI i) x h = some ((), am_setI h (q + 1) i x) := by
  simp (disch := omega) only [fX4_setByte, h2, hq.rm hR, hq.m, Option.bind_some, pb_lt0, pb_le, if_pos, if_neg, pb_ok, if_true, pb_cl, am_let, if_false]
theorem p_setByte0 (hq : SQ q) {n : Nat} (h2 : h.1 q 2 = nI n) (hm : n ≤ 1000) {i : Nat} (hi : n ≤ i) (hi2 : i < 2 ^ 31) {x : Int32} : fX4_setByte GG q (nI i) x h = some ((), h) := by
  simp (disch := omega) only [fX4_setByte, h2, pb_lt0, pb_le, if_pos, if_neg, if_true, if_false]
theorem p_frameAt (hq : SQ q) (hR : RX h s t u v) {n : Nat} (h4 : h.1 q 4 = nI n) (hn : n ≤ 20) {i : Nat} (hi : i < n) : fX4_frameAt GG q (nI i) h = some (some (q + 3 + 2 * i), h) := by
  simp (disch := omega) only [fX4_frameAt, h4, hq.rf hR, hq.f, hq.ri hR, Option.bind_some, pb_lt0, pb_le, if_pos, if_neg, pb_ok, if_true, pb_cl, Option.elim_some, if_false]
theorem p_frameAt0 (hq : SQ q) {n : Nat} (h4 : h.1 q 4 = nI n) (hn : n ≤ 20) {i : Nat} (hi : n ≤ i) (hi2 : i < 2 ^ 31) : fX4_frameAt GG q (nI i) h = some (none, h) := by
  simp (disch := omega) only [fX4_frameAt, h4, pb_lt0, pb_le, if_pos, if_neg, if_true, if_false]
theorem p_frameAtN {x : Int32} (hx : x < 0) : fX4_frameAt GG q x h = some (none, h) := by
  unfold fX4_frameAt
  rw [if_pos hx]
theorem p_newest (hq : SQ q) (hR : RX h s t u v) {n : Nat} (h4 : h.1 q 4 = nI (n + 1)) (hn : n + 1 ≤ 20) : fX4_newest GG q h = some (some (q + 3 + 2 * n), h) := by
  unfold fX4_newest
  rw [h4, pb_pred, p_frameAt hq hR h4 hn (by omega)]
  rfl
/-- the words of a new frame -/
theorem p_begin_loop (hn : am_len GG c = 55) : ∀ (z i : Nat) (h : AH), h.2 q 0 = some c → i ≤ 15 → 15 - i < z → ∃ h1, fX1_begin_29 GG z q (nI i) h = some ((), h1) ∧ Fr h h1 [c] ∧ (∀ k, i ≤ k → k < 15 → h1.1 c k = nI 0) ∧ ∀ k, k < i → h1.1 c k = h.1 c k
  | 0, i, h, _, _, hz => by omega
  | z + 1, i, h, hr, hi, hz => by
    by_cases he : i = 15
    · subst he
      exact ⟨h, by simp (disch := omega) only [fX1_begin_29, pb_le, if_pos, if_true, if_false], Fr.rf, fun k h1 h2 => by omega, fun _ _ => rfl⟩
    · obtain ⟨h1, e1, e2, e3, e4⟩ := p_begin_loop hn z (i + 1) (am_setI h c i (nI 0)) hr (by omega) (by omega)
      refine ⟨h1, ?_, (Fr.set (by simp)).tr e2, fun k hk1 hk2 => ?_, fun k hk => ?_⟩
      · refine Eq.trans ?_ e1
        simp (disch := omega) only [fX1_begin_29, pb_le, if_pos, if_neg, hr, hn, Option.bind_some, pb_ok, if_true, pb_cl, am_let, pb_add, if_false]
      · by_cases hk : k = i
        · subst hk
          rw [e4 k (by omega), ps_s, ps_us]
        · exact e3 k (by omega) hk2
      · rw [e4 k (by omega), ps_s, ps_un (by omega)]
theorem p_begin (hr : h.2 q 0 = some c) (hn : am_len GG c = 55) (hqc : q ≠ c) {bk ar nl : Nat} {re : Option Nat} (hnl : nl ≤ 15) : ∃ h1, fX1_begin GG q (nI bk) (rI re) (nI ar) (nI nl) h = some ((), h1) ∧ Fr h h1 [q, c] ∧ FrX (h1.1 q) (h1.1 c) (bk, re, ar, nl, List.replicate nl 0) := by
  obtain ⟨h1, e1, e2, e3, e4⟩ := p_begin_loop (q := q) (c := c) hn am_fuel 0 (am_setI (am_setI (am_setI (am_setI (am_setI h q 1 (nI bk)) q 2 (rI re)) q 3 (nI ar)) q 4 (nI nl)) q 5 (nI 0)) hr (by omega) (by decide)
  refine ⟨h1, ?_, ?_, ?_⟩
  · rw [← e1]
    simp only [fX1_begin, am_let]
  · refine Fr.tr (h1 := am_setI (am_setI (am_setI (am_setI (am_setI h q 1 (nI bk)) q 2 (rI re)) q 3 (nI ar)) q 4 (nI nl)) q 5 (nI 0)) ?_ (e2.mo (by simp))
    exact ((((Fr.set (by simp)).tr (Fr.set (by simp))).tr (Fr.set (by simp))).tr (Fr.set (by simp))).tr (Fr.set (by simp))
  · have hq1 : h1.1 q = (am_setI (am_setI (am_setI (am_setI (am_setI h q 1 (nI bk)) q 2 (rI re)) q 3 (nI ar)) q 4 (nI nl)) q 5 (nI 0)).1 q := e2.2 q (by simp [hqc])
    refine ⟨?_, ?_, ?_, ?_, ?_, fun k hk => ?_⟩
    · rw [hq1]; simp [am_setI, upd]
    · rw [hq1]; simp [am_setI, upd]
    · rw [hq1]; simp [am_setI, upd]
    · rw [hq1]; simp [am_setI, upd]
    · rw [hq1]; simp [am_setI, upd]
    · simp at hk
      rw [e3 k (by omega) (by omega)]
      simp [List.getD, List.getElem?_replicate, hk]
end SES
