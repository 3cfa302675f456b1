/-! ===== pure rows: numbers, cells, bytes ===== -/
theorem pb_lt {n m : Nat} (h : n < m) (hm : m < 2 ^ 31 := by decide) : n < 2 ^ 31 := Nat.lt_trans h hm
theorem pb_ok {i n : Nat} (h : i < n) (hn : n < 2 ^ 31) : am_ok (nI i) n = true := by
  have h0 : (0 : Int32) ≤ nI i := nI_pos' (Nat.lt_trans h hn)
  simp [am_ok, h0, nI_clamp (Nat.lt_trans h hn), h]
theorem pb_cl {n : Nat} (h : n < 2 ^ 31) : (nI n).toNatClampNeg = n := nI_clamp h
theorem pb_lt0 {n : Nat} (h : n < 2 ^ 31) : (nI n < 0) = False := by simp [nI_pos h]
theorem pb_le {a b : Nat} (ha : a < 2 ^ 31) (hb : b < 2 ^ 31) : (nI a ≤ nI b) = (a ≤ b) := by simp [nI_leI ha hb]
theorem pb_ltI {a b : Nat} (ha : a < 2 ^ 31) (hb : b < 2 ^ 31) : (nI a < nI b) = (a < b) := by simp [nI_ltI ha hb]
theorem pb_eq {a b : Nat} (ha : a < 2 ^ 31) (hb : b < 2 ^ 31) : (nI a = nI b) = (a = b) := by simp [nI_eq ha hb]
theorem pb_eq0 {a : Nat} (ha : a < 2 ^ 31) : (nI a = 0) = (a = 0) := by
  have := pb_eq (b := 0) ha (by decide)
  rw [nI_0] at this
  exact this
theorem pb_le0 {a : Nat} (ha : a < 2 ^ 31) : (nI a ≤ 0) = (a = 0) := by
  have := pb_le (b := 0) ha (by decide)
  rw [nI_0] at this
  rw [this]
  simp
theorem pb_0le {a : Nat} (ha : a < 2 ^ 31) : ((0 : Int32) ≤ nI a) = True := by simp [nI_pos' ha]
theorem pb_0lt {a : Nat} (ha : a < 2 ^ 31) : ((0 : Int32) < nI a) = (0 < a) := by
  have := pb_ltI (a := 0) (b := a) (by decide) ha
  rw [nI_0] at this
  exact this
theorem pb_sub {a b : Nat} (h : b ≤ a) : nI a - nI b = nI (a - b) := pk_sub h
theorem pb_pred (n : Nat) : nI (n + 1) - nI 1 = nI n := by rw [pb_sub (by omega)]; rfl
theorem pb_add (a b : Nat) : nI a + nI b = nI (a + b) := nI_add a b
theorem pb_mul (a b : Nat) : nI a * nI b = nI (a * b) := pk_mul a b
/-- an int is below 0, or a small Nat -/
theorem pb_split (x : Int32) : x < 0 ∨ ∃ j : Nat, j < 2 ^ 31 ∧ x = nI j := by
  by_cases h : x < 0
  · exact Or.inl h
  · exact Or.inr (nI_of h)
theorem pb_neg {x : Int32} {n : Nat} (hx : x < 0) (hn : n < 2 ^ 31) : x < nI n := by
  have h2 := nI_pos' hn
  rw [Int32.lt_iff_toInt_lt] at hx ⊢
  rw [Int32.le_iff_toInt_le] at h2
  omega
theorem pb_negle {x : Int32} {n : Nat} (hx : x < 0) (hn : n < 2 ^ 31) : ¬ nI n ≤ x := by
  have := pb_neg hx hn
  rw [Int32.lt_iff_toInt_lt] at this
  rw [Int32.le_iff_toInt_le]
  omega
theorem ps_s {h : AH} {a j : Nat} {v : Int32} : (am_setI h a j v).1 a = upd (h.1 a) j v := by simp [am_setI]
theorem ps_n {h : AH} {a b j : Nat} {v : Int32} (hb : b ≠ a) : (am_setI h a j v).1 b = h.1 b := by simp [am_setI, hb]
theorem ps_2 {h : AH} {a j : Nat} {v : Int32} : (am_setI h a j v).2 = h.2 := rfl
theorem ps_us {f : Nat → Int32} {k : Nat} {x : Int32} : upd f k x k = x := by simp [upd]
theorem ps_un {f : Nat → Int32} {k j : Nat} {x : Int32} (hj : j ≠ k) : upd f k x j = f j := by simp [upd, hj]
/-- nothing has changed but the numbers of the cells S -/
def Fr (h h1 : AH) (S : List Nat) : Prop := h1.2 = h.2 ∧ ∀ a, a ∉ S → h1.1 a = h.1 a
theorem Fr.rf {h : AH} {S : List Nat} : Fr h h S := ⟨rfl, fun _ _ => rfl⟩
theorem Fr.set {h : AH} {a j : Nat} {v : Int32} {S : List Nat} (ha : a ∈ S) : Fr h (am_setI h a j v) S := ⟨rfl, fun b hb => ps_n (fun q => hb (q ▸ ha))⟩
theorem Fr.tr {h h1 h2 : AH} {S : List Nat} (a : Fr h h1 S) (b : Fr h1 h2 S) : Fr h h2 S := ⟨b.1.trans a.1, fun x hx => (b.2 x hx).trans (a.2 x hx)⟩
theorem Fr.mo {h h1 : AH} {S S' : List Nat} (a : Fr h h1 S) (hs : ∀ x ∈ S, x ∈ S') : Fr h h1 S' := ⟨a.1, fun x hx => a.2 x (fun q => hx (hs x q))⟩
/-- a row of bytes: the object q, its row c of N places -/
def Byt (h : AH) (q c N : Nat) (bs : List Nat) : Prop := h.2 q 0 = some c ∧ bs.length ≤ N ∧ h.1 q 1 = nI bs.length ∧ ∀ i, i < bs.length → h.1 c i = nI (bs.getD i 0)
theorem Byt.fr {h h1 : AH} {q c N : Nat} {bs : List Nat} {S : List Nat} (hB : Byt h q c N bs) (hF : Fr h h1 S) (hq : q ∉ S) (hc : c ∉ S) : Byt h1 q c N bs := by
  obtain ⟨b1, b2, b3, b4⟩ := hB
  exact ⟨by rw [hF.1]; exact b1, b2, by rw [hF.2 q hq]; exact b3, fun i hi => by rw [hF.2 c hc]; exact b4 i hi⟩
section BYT
variable {Γ : Gm} {h : AH} {q c N : Nat} {bs : List Nat}
theorem p_room (hB : Byt h q c N bs) (hN : am_len Γ c = N) : fX0_room Γ q h = some (nI (N - bs.length), h) := by
  obtain ⟨b1, b2, b3, b4⟩ := hB
  simp [fX0_room, b1, b3, hN, pb_sub b2]
theorem p_at (hB : Byt h q c N bs) (hN : am_len Γ c = N) (hN2 : N < 2 ^ 31) {i : Nat} (hi : i < 2 ^ 31) : fX0_at Γ q (nI i) h = some (nI (bs.getD i 0), h) := by
  obtain ⟨b1, b2, b3, b4⟩ := hB
  have hl : bs.length < 2 ^ 31 := by omega
  unfold fX0_at
  rw [if_neg (nI_pos hi), b3]
  by_cases hlt : i < bs.length
  · rw [if_neg (by rw [pb_le hl hi]; omega)]
    simp only [b1, Option.bind_some, hN]
    rw [if_neg (by rw [pb_le hN2 hi]; omega), if_pos (pb_ok (by omega) hN2), pb_cl hi, b4 i hlt]
  · rw [if_pos (by rw [pb_le hl hi]; omega)]
    simp [List.getD, List.getElem?_eq_none (Nat.not_lt.mp hlt), nI_0]
theorem p_atNeg {x : Int32} (hx : x < 0) : fX0_at Γ q x h = some (nI 0, h) := by
  unfold fX0_at
  rw [if_pos hx]
theorem p_add (hB : Byt h q c N bs) (hN : am_len Γ c = N) (hN2 : N < 2 ^ 31) (hqc : q ≠ c) (hlt : bs.length < N) {b : Int32} {v : Nat} (hb : b &&& nI 255 = nI v) : ∃ h1, fX0_add Γ q b h = some ((), h1) ∧ Byt h1 q c N (bs ++ [v]) ∧ Fr h h1 [q, c] := by
  obtain ⟨b1, b2, b3, b4⟩ := hB
  have hl : bs.length < 2 ^ 31 := by omega
  refine ⟨am_setI (am_setI h c bs.length (nI v)) q 1 (nI (bs.length + 1)), ?_, ⟨?_, ?_, ?_, ?_⟩, ?_⟩
  · unfold fX0_add
    rw [b3, if_neg (nI_pos hl)]
    simp only [b1, Option.bind_some, hN, am_let]
    rw [if_neg (by rw [pb_le hN2 hl]; omega), if_pos (pb_ok hlt hN2), pb_cl hl, hb, ps_n hqc, b3, pb_add]
  · exact b1
  · simp; omega
  · rw [ps_s, ps_us]; simp
  · intro i hi
    rw [ps_n (fun q' => hqc q'.symm), ps_s]
    simp at hi
    by_cases e : i = bs.length
    · subst e; rw [ps_us]; simp
    · rw [ps_un e, b4 i (by omega)]
      simp [List.getD, List.getElem?_append_left (show i < bs.length by omega)]
  · exact (Fr.set (S := [q, c]) (by simp)).tr (Fr.set (by simp))
theorem p_clear (hB : Byt h q c N bs) : ∃ h1, fX0_clear Γ q h = some ((), h1) ∧ Byt h1 q c N [] ∧ Fr h h1 [q] := by
  obtain ⟨b1, b2, b3, b4⟩ := hB
  exact ⟨am_setI h q 1 (nI 0), rfl, ⟨b1, by simp, by rw [ps_s, ps_us]; rfl, fun i hi => by simp at hi⟩, Fr.set (by simp)⟩
theorem p_keepFirst (hB : Byt h q c N bs) (hN2 : N < 2 ^ 31) (hqc : q ≠ c) {n : Nat} (hn : n ≤ bs.length) : ∃ h1, fX0_keepFirst Γ q (nI n) h = some ((), h1) ∧ Byt h1 q c N (bs.take n) ∧ Fr h h1 [q] := by
  obtain ⟨b1, b2, b3, b4⟩ := hB
  have hl : bs.length < 2 ^ 31 := by omega
  unfold fX0_keepFirst
  rw [if_neg (nI_pos (show n < 2 ^ 31 by omega)), b3]
  by_cases e : n = bs.length
  · rw [if_pos (by rw [pb_le hl (by omega)]; omega)]
    refine ⟨h, rfl, ?_, Fr.rf⟩
    subst e
    simp only [List.take_length]
    exact ⟨b1, b2, b3, b4⟩
  · rw [if_neg (by rw [pb_le hl (by omega)]; omega)]
    refine ⟨am_setI h q 1 (nI n), rfl, ⟨b1, by simp; omega, ?_, ?_⟩, Fr.set (by simp)⟩
    · rw [ps_s, ps_us]; simp; congr 1; omega
    · intro i hi
      simp at hi
      rw [ps_n (fun q' => hqc q'.symm), b4 i (by omega)]
      simp [List.getD, List.getElem?_take, show i < n by omega]
end BYT
