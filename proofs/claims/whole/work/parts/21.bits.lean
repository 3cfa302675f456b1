/-! ===== bytes of numbers ===== -/
/-- the value of an int, without a sign -/
def uN (x : Int32) : Nat := x.toBitVec.toNat
theorem uN_nI {n : Nat} (h : n < 2 ^ 32) : uN (nI n) = n := pk_tn h
theorem uN_lt (x : Int32) : uN x < 4294967296 := x.toBitVec.isLt
theorem uN_inj {x y : Int32} (h : uN x = uN y) : x = y := by
  have : x.toBitVec = y.toBitVec := BitVec.eq_of_toNat_eq h
  exact Int32.toBitVec_inj.mp this
theorem nI_uN (x : Int32) : nI (uN x) = x := uN_inj (uN_nI (uN_lt x))
theorem uN_int (x : Int32) : x.toInt = if uN x < 2147483648 then (uN x : Int) else (uN x : Int) - 4294967296 := by
  show x.toBitVec.toInt = _
  rw [BitVec.toInt_eq_toNat_cond]
  unfold uN
  split <;> split <;> omega
theorem bt_and (x : Int32) : x &&& nI 255 = nI (uN x % 256) := pk_and x 8 (by decide)
theorem bt_u (x : Int32) : ∀ n, n ≤ 3 → am_ushr x (nI (8 * n)) &&& nI 255 = nI (uN x / 256 ^ n % 256)
  | 0, _ => by rw [bt_and]; unfold uN am_ushr; rw [pk_ushr x _ 0 (by decide)]
  | 1, _ => by rw [bt_and]; unfold uN am_ushr; rw [pk_ushr x _ 8 (by decide)]
  | 2, _ => by rw [bt_and]; unfold uN am_ushr; rw [pk_ushr x _ 16 (by decide)]
  | 3, _ => by rw [bt_and]; unfold uN am_ushr; rw [pk_ushr x _ 24 (by decide)]
theorem uN_mod (y : Int32) : ((uN y % 256 : Nat) : Int) = y.toInt % 256 := by
  rw [uN_int y]
  split <;> omega
theorem bt_sh (x s : Int32) (k : Nat) (hs : (s.toBitVec.smod 32).toNat = k) (hk : k = 0 ∨ k = 8 ∨ k = 16 ∨ k = 24) : uN (x >>> s) % 256 = uN x / 2 ^ k % 256 := by
  have h1 := uN_mod (x >>> s)
  rw [pk_shr x s k hs, uN_int x, Int.shiftRight_eq_div_pow] at h1
  rcases hk with rfl | rfl | rfl | rfl <;> (simp only [Nat.reducePow] at h1 ⊢; split at h1 <;> omega)
theorem bt_s (x : Int32) : ∀ n, n ≤ 3 → am_shr x (nI (8 * n)) &&& nI 255 = nI (uN x / 256 ^ n % 256)
  | 0, _ => by rw [bt_and]; unfold am_shr; rw [bt_sh x _ 0 (by decide) (by decide)]
  | 1, _ => by rw [bt_and]; unfold am_shr; rw [bt_sh x _ 8 (by decide) (by decide)]
  | 2, _ => by rw [bt_and]; unfold am_shr; rw [bt_sh x _ 16 (by decide) (by decide)]
  | 3, _ => by rw [bt_and]; unfold am_shr; rw [bt_sh x _ 24 (by decide) (by decide)]
/-- the last n bytes of a number, the highest first -/
def be (x : Nat) : Nat → List Nat
  | 0 => []
  | n + 1 => (x / 256 ^ n % 256) :: be x n
theorem be_len (x : Nat) : ∀ n, (be x n).length = n
  | 0 => rfl
  | n + 1 => by simp [be, be_len x n]
theorem be_lt (x : Nat) : ∀ n, ∀ b ∈ be x n, b < 256
  | 0, b, h => by simp [be] at h
  | n + 1, b, h => by
    rcases List.mem_cons.mp h with rfl | h
    · exact Nat.mod_lt _ (by decide)
    · exact be_lt x n b h
/-- a number out of bytes -/
def nb : List Nat → Nat → Nat
  | [], a => a
  | b :: bs, a => nb bs (a * 256 + b)
theorem or_add (a b : Nat) (hb : b < 256) : a * 256 ||| b = a * 256 + b := by
  have h1 : a * 256 = a <<< 8 := by rw [Nat.shiftLeft_eq]
  rw [h1]
  exact (Nat.shiftLeft_add_eq_or_of_lt (show b < 2 ^ 8 by omega) a).symm
theorem uN_or (x y : Int32) : uN (x ||| y) = uN x ||| uN y := by
  unfold uN
  rw [Int32.toBitVec_or, BitVec.toNat_or]
theorem uN_shl8 (x : Int32) : uN (am_shl x (nI 8)) = uN x * 256 % 4294967296 := by
  unfold uN am_shl
  rw [pk_shl x _ 8 (by decide)]
/-- one byte more behind a number -/
theorem shl_or (x : Int32) {b : Nat} (hb : b < 256) : am_shl x (nI 8) ||| nI b = nI ((uN x * 256 + b) % 4294967296) := by
  apply uN_inj
  rw [uN_or, uN_shl8, uN_nI (show b < 2 ^ 32 by omega), uN_nI (Nat.mod_lt _ (by decide))]
  have h1 : uN x * 256 % 4294967296 = uN x % 16777216 * 256 := by omega
  rw [h1, or_add _ _ hb]
  omega
theorem xor_nI {a b : Nat} (ha : a < 2 ^ 32) (hb : b < 2 ^ 32) : nI a ^^^ nI b = nI (a ^^^ b) := by
  apply uN_inj
  have : uN (nI a ^^^ nI b) = uN (nI a) ^^^ uN (nI b) := by unfold uN; rw [Int32.toBitVec_xor, BitVec.toNat_xor]
  rw [this, uN_nI ha, uN_nI hb, uN_nI (Nat.xor_lt_two_pow ha hb)]
section BYT2
variable {Γ : Gm} {h : AH} {q c N : Nat} {bs : List Nat}
theorem p_addNumber_loop (hN : am_len Γ c = N) (hN2 : N < 2 ^ 31) (hqc : q ≠ c) (x : Int32) : ∀ (n z : Nat) (h : AH) (bs : List Nat), n ≤ 4 → n < z → Byt h q c N bs → bs.length + n ≤ N → ∃ h1, fX0_addNumber_4 Γ z q x (nI n + (-1)) h = some ((), h1) ∧ Byt h1 q c N (bs ++ be (uN x) n) ∧ Fr h h1 [q, c]
  | 0, 0, h, bs, _, hz, _, _ => by omega
  | 0, z + 1, h, bs, _, _, hB, _ => by
    refine ⟨h, ?_, by simpa [be] using hB, Fr.rf⟩
    unfold fX0_addNumber_4
    rw [if_pos (by decide)]
  | n + 1, 0, h, bs, _, hz, _, _ => by omega
  | n + 1, z + 1, h, bs, hn, hz, hB, hl => by
    obtain ⟨h1, e1, e2, e3⟩ := p_add hB hN hN2 hqc (by omega) (b := am_ushr x (nI 8 * nI n)) (v := uN x / 256 ^ n % 256) (by rw [pb_mul]; exact bt_u x n (by omega))
    obtain ⟨h2, f1, f2, f3⟩ := p_addNumber_loop hN hN2 hqc x n z h1 _ (by omega) (by omega) e2 (by simp; omega)
    refine ⟨h2, ?_, by simpa [be] using f2, e3.tr f3⟩
    unfold fX0_addNumber_4
    rw [pk_m1, if_neg (nI_pos (by omega)), e1]
    exact f1
theorem p_addNumber (hB : Byt h q c N bs) (hN : am_len Γ c = N) (hN2 : N < 2 ^ 31) (hqc : q ≠ c) (x : Int32) {n : Nat} (hn : n ≤ 4) (hl : bs.length + n ≤ N) : ∃ h1, fX0_addNumber Γ q x (nI n) h = some ((), h1) ∧ Byt h1 q c N (bs ++ be (uN x) n) ∧ Fr h h1 [q, c] := by
  obtain ⟨h1, e1, e2⟩ := p_addNumber_loop hN hN2 hqc x n am_fuel h bs hn (by unfold am_fuel; omega) hB hl
  refine ⟨h1, ?_, e2⟩
  unfold fX0_addNumber am_let
  rw [show nI n - nI 1 = nI n + (-1) by rw [Int32.sub_eq_add_neg]; rfl]
  exact e1
theorem getD_lt {bs : List Nat} (hb : ∀ b ∈ bs, b < 256) (i : Nat) : bs.getD i 0 < 256 := by
  rw [List.getD_eq_getElem?_getD]
  cases hx : bs[i]? with
  | none => simp
  | some y => simp; exact hb y (List.mem_of_getElem? hx)
/-- the number that n bytes from place o on make, behind a -/
def nbA (bs : List Nat) : Nat → Nat → Nat → Nat
  | 0, _, a => a
  | n + 1, o, a => nbA bs n (o + 1) (a * 256 + bs.getD o 0)
theorem p_number_loop (hN : am_len Γ c = N) (hN2 : N < 2 ^ 31) (hB : Byt h q c N bs) (hb : ∀ b ∈ bs, b < 256) (o m : Nat) (ho : o + m < 2 ^ 31) (hm : m ≤ 4) : ∀ (n i z a : Nat), i + n = m → n < z → a < 256 ^ i → fX0_number_5 Γ z q (nI o) (nI m) (nI a) (nI i) h = some (nI (nbA bs n (o + i) a), h)
  | 0, i, 0, a, _, hz, _ => by omega
  | 0, i, z + 1, a, hi, _, _ => by
    unfold fX0_number_5
    rw [if_pos (by rw [pb_le (by omega) (by omega)]; omega)]
    rfl
  | n + 1, i, 0, a, _, hz, _ => by omega
  | n + 1, i, z + 1, a, hi, hz, ha => by
    have hbo := getD_lt hb (o + i)
    have h3 : 256 ^ i ≤ 256 ^ 3 := Nat.pow_le_pow_right (by decide) (by omega)
    have h4 : a * 256 + bs.getD (o + i) 0 < 256 ^ (i + 1) := by rw [Nat.pow_succ]; omega
    have h5 : a * 256 + bs.getD (o + i) 0 < 4294967296 := by omega
    unfold fX0_number_5
    rw [if_neg (by rw [pb_le (by omega) (by omega)]; omega), pb_add, p_at hB hN hN2 (by omega)]
    simp only [am_bind, Option.bind_some, am_let, pb_add]
    rw [shl_or _ hbo, uN_nI (show a < 2 ^ 32 by omega), Nat.mod_eq_of_lt h5, p_number_loop hN hN2 hB hb o m ho hm n (i + 1) z _ (by omega) (by omega) h4]
    rfl
theorem p_number (hN : am_len Γ c = N) (hN2 : N < 2 ^ 31) (hB : Byt h q c N bs) (hb : ∀ b ∈ bs, b < 256) {o m : Nat} (ho : o + m < 2 ^ 31) (hm : m ≤ 4) : fX0_number Γ q (nI o) (nI m) h = some (nI (nbA bs m o 0), h) := by
  have := p_number_loop hN hN2 hB hb o m ho hm m 0 am_fuel 0 (by omega) (by unfold am_fuel; omega) (by decide)
  unfold fX0_number
  exact this
theorem getD_app {a b : List Nat} {i : Nat} : (a ++ b).getD i 0 = if i < a.length then a.getD i 0 else b.getD (i - a.length) 0 := by
  simp only [List.getD_eq_getElem?_getD]
  split
  · next hi => rw [List.getElem?_append_left hi]
  · next hi => rw [List.getElem?_append_right (by omega)]
theorem getD_cut {a : List Nat} {o n i : Nat} (hi : i < n) : ((a.drop o).take n).getD i 0 = a.getD (o + i) 0 := by
  simp only [List.getD_eq_getElem?_getD, List.getElem?_take, hi, if_true, List.getElem?_drop]
theorem p_addPart {p d K : Nat} {ss : List Nat} (hB : Byt h q c N bs) (hS : Byt h p d K ss) (hN : am_len Γ c = N) (hK : am_len Γ d = K) (hN2 : N < 2 ^ 31) (hK2 : K < 2 ^ 31) (hqc : q ≠ c) (hcd : c ≠ d) {o n : Nat} (ho : o + n ≤ ss.length) (hn : bs.length + n ≤ N) : ∃ h1, fX0_addPart Γ q p (nI o) (nI n) h = some ((), h1) ∧ Byt h1 q c N (bs ++ (ss.drop o).take n) ∧ Fr h h1 [q, c] := by
  have hB' := hB
  obtain ⟨b1, b2, b3, b4⟩ := hB
  obtain ⟨s1, s2, s3, s4⟩ := hS
  have hok : am_okc (nI o) (nI bs.length) (nI n) K N = true := by
    simp (disch := omega) only [am_okc, pb_cl, pb_0le, if_true, if_false]
    simp; omega
  refine ⟨am_setI (am_cpy h d c o bs.length n) q 1 (nI (bs.length + n)), ?_, ⟨b1, by simp; omega, ?_, fun i hi => ?_⟩, ?_⟩
  · unfold fX0_addPart
    rw [if_neg (nI_pos (by omega)), if_neg (nI_pos (by omega)), s3, pb_sub (by omega), if_neg (by rw [pb_ltI (by omega) (by omega)]; omega), p_room hB' hN]
    simp only [am_bind, Option.bind_some, b1, s1, hN, hK, b3, am_let]
    rw [if_neg (by rw [pb_ltI (by omega) (by omega)]; omega), if_pos hok]
    simp (disch := omega) only [pb_cl, if_true, if_false]
    have e : (am_cpy h d c o bs.length n).1 q = h.1 q := by simp [am_cpy, hqc]
    rw [e, b3, pb_add]
  · rw [ps_s, ps_us]; simp; congr 1; omega
  · rw [ps_n (fun q' => hqc q'.symm)]
    simp at hi
    have e : (am_cpy h d c o bs.length n).1 c = va_cpy (h.1 d) (h.1 c) o bs.length n := by simp [am_cpy]
    rw [e, getD_app]
    by_cases hlt : i < bs.length
    · rw [if_pos hlt, pk_cpy_out (Or.inl hlt), b4 i hlt]
    · rw [if_neg hlt, pk_cpy_in (by omega) (by omega), s4 _ (by omega), getD_cut (by omega)]
  · refine ⟨rfl, fun a ha => ?_⟩
    simp at ha
    rw [ps_n ha.1]
    simp [am_cpy, ha.2]
theorem p_copyOf {p d K : Nat} {ss : List Nat} (hB : Byt h q c N bs) (hS : Byt h p d K ss) (hN : am_len Γ c = N) (hK : am_len Γ d = K) (hN2 : N < 2 ^ 31) (hK2 : K < 2 ^ 31) (hqc : q ≠ c) (hcd : c ≠ d) (hqp : q ≠ p) (hqd : q ≠ d) (hn : ss.length ≤ N) : ∃ h1, fX0_copyOf Γ q p h = some ((), h1) ∧ Byt h1 q c N ss ∧ Fr h h1 [q, c] := by
  obtain ⟨h1, e1, e2, e3⟩ := p_clear (Γ := Γ) hB
  have hS1 : Byt h1 p d K ss := hS.fr e3 (by simp; exact fun z => hqp z.symm) (by simp; exact fun z => hqd z.symm)
  obtain ⟨h2, f1, f2, f3⟩ := p_addPart e2 hS1 hN hK hN2 hK2 hqc hcd (o := 0) (n := ss.length) (by omega) (by simpa using hn)
  refine ⟨h2, ?_, by simpa using f2, (e3.mo (by simp)).tr f3⟩
  unfold fX0_copyOf
  rw [e1]
  simp only [am_bind, Option.bind_some, hS1.2.2.1, f1]
theorem p_dropFirst (hB : Byt h q c N bs) (hN : am_len Γ c = N) (hN2 : N < 2 ^ 31) (hqc : q ≠ c) {n : Nat} (hn : n ≤ bs.length) : ∃ h1, fX0_dropFirst Γ q (nI n) h = some ((), h1) ∧ Byt h1 q c N (bs.drop n) ∧ Fr h h1 [q, c] := by
  obtain ⟨b1, b2, b3, b4⟩ := hB
  have hok : am_okc (nI n) (nI 0) (nI (bs.length - n)) N N = true := by
    simp (disch := omega) only [am_okc, pb_cl, pb_0le, if_true, if_false]
    simp; omega
  refine ⟨am_setI (am_cpy h c c n 0 (bs.length - n)) q 1 (nI (bs.length - n)), ?_, ⟨b1, by simp; omega, ?_, fun i hi => ?_⟩, ?_⟩
  · unfold fX0_dropFirst
    rw [if_neg (nI_pos (by omega)), b3, if_neg (by rw [pb_ltI (by omega) (by omega)]; omega)]
    simp only [Option.bind_some, b1, hN, am_let]
    rw [pb_sub hn, if_pos hok]
    simp (disch := omega) only [pb_cl, if_true, if_false]
    have e : (am_cpy h c c n 0 (bs.length - n)).1 q = h.1 q := by simp [am_cpy, hqc]
    rw [e, b3, pb_sub hn]
  · rw [ps_s, ps_us]; simp
  · rw [ps_n (fun q' => hqc q'.symm)]
    simp at hi
    have e : (am_cpy h c c n 0 (bs.length - n)).1 c = va_cpy (h.1 c) (h.1 c) n 0 (bs.length - n) := by simp [am_cpy]
    rw [e, pk_cpy_in (by omega) (by omega), b4 _ (by omega)]
    simp only [List.getD_eq_getElem?_getD, List.getElem?_drop, Nat.sub_zero]
  · refine ⟨rfl, fun a ha => ?_⟩
    simp at ha
    rw [ps_n ha.1]
    simp [am_cpy, ha.2]
end BYT2
