/-! ===== reading: what is read ===== -/
section READ1
variable {h : AH} {s t u v : Nat}
abbrev Ex (α : Type) : Type := Except (Nat × Nat) α
/-- runs onto memory -/
def rdB (bs : List Nat) (e : Nat) : Nat → Nat → Nat → List Nat → Ex (List Nat)
  | 0, _, _, mm => .ok mm
  | z + 1, a, i, mm =>
    if e ≤ a then .ok mm
    else if bs.getD a 0 = 0 then
      (if a + 1 < e then (if i + (bs.getD (a + 1) 0 + 1) ≤ mm.length then rdB bs e z (a + 2) (i + (bs.getD (a + 1) 0 + 1)) mm else .error (7, a)) else .error (7, a + 1))
    else if i + 1 ≤ mm.length then rdB bs e z (a + 1) (i + 1) (mm.set i (mm.getD i 0 ^^^ bs.getD a 0)) else .error (7, a)
def words (bs : List Nat) (o n : Nat) : List Nat := (List.range n).map (fun k => nbA bs 2 (o + 2 * k) 0)
theorem words_len {bs : List Nat} {o n : Nat} : (words bs o n).length = n := by simp [words]
theorem words_get {bs : List Nat} {o n k : Nat} (hk : k < n) : (words bs o n).getD k 0 = nbA bs 2 (o + 2 * k) 0 := by simp [words, List.getD, hk]
def arOf (m : Nat) : Option Nat := if m = 0 then some 0 else if m = 1 then some 1 else if m = 3 then some 2 else if m = 7 then some 3 else if m = 15 then some 4 else if m = 31 then some 5 else if m = 63 then some 6 else if m = 127 then some 7 else none
def bad6 (bs : List Nat) (a : Nat) : Nat → Nat → Option Nat
  | 0, _ => none
  | n + 1, i => if bs.getD (a + i) 0 = 0 then bad6 bs a n (i + 1) else some i
def badL (bs : List Nat) (a : Nat) : Option Nat := if 31 < bs.getD (a + 3) 0 then some 3 else if 16 ≤ bs.getD (a + 3) 0 ∧ bs.getD (a + 4) 0 ≠ 0 then some 4 else if arOf (bs.getD (a + 5) 0) = none then some 5 else none
def frOf (bs : List Nat) (a : Nat) : Fm := (nbA bs 3 a 0, (if bs.getD (a + 3) 0 < 16 then some (bs.getD (a + 4) 0) else none), (arOf (bs.getD (a + 5) 0)).getD 0, bs.getD (a + 3) 0 % 16, words bs (a + 8) (bs.getD (a + 3) 0 % 16 + nbA bs 2 (a + 6) 0))
def rdF (bs : List Nat) (e a : Nat) (first : Bool) : Ex Fm :=
  if e < a + 8 then .error (8, e)
  else match (if first then bad6 bs a 6 0 else badL bs a) with
    | some k => .error (8, a + k)
    | none => if 40 < nbA bs 2 (a + 6) 0 then .error (9, a + 6) else if e < a + 8 + 2 * (bs.getD (a + 3) 0 % 16 + nbA bs 2 (a + 6) 0) then .error (8, e) else .ok (frOf bs a)
def rdD (bs : List Nat) (e : Nat) : Nat → Nat → List Fm → Ex (List Fm)
  | 0, a, fs => if e ≤ a then .ok fs else .error (9, a)
  | n + 1, a, fs => if fs ≠ [] ∧ e ≤ a then .ok fs else match rdF bs e a fs.isEmpty with
    | .error p => .error p
    | .ok fm => rdD bs e n (a + 8 + 2 * fm.2.2.2.2.length) (fs ++ [fm])
def fcode (p : Nat × Nat) : Int32 := nI (p.1 * 65536 + p.2)
theorem fault_eq {c p : Nat} (hc : c ≤ 15) (hp : p < 65536) : am_shl (nI c) (nI 16) ||| nI p = nI (c * 65536 + p) := by
  apply uN_inj
  rw [uN_or]
  have e1 : uN (am_shl (nI c) (nI 16)) = c * 65536 := by
    unfold uN am_shl
    rw [pk_shl (nI c) _ 16 (by decide)]
    have : (nI c).toBitVec.toNat = c := uN_nI (by omega)
    rw [this]
    omega
  rw [e1, uN_nI (by omega), uN_nI (by omega)]
  have h1 : c * 65536 = c <<< 16 := by rw [Nat.shiftLeft_eq]
  rw [h1]
  exact (Nat.shiftLeft_add_eq_or_of_lt (show p < 2 ^ 16 by omega) c).symm
theorem p_fault {c p : Nat} (hc : c ≤ 15) (hp : p < 65536) : fX8_fault GG (nI c) (nI p) h = some (fcode (c, p), h) := by
  unfold fX8_fault fcode
  rw [fault_eq hc hp]
theorem nbA_lt {bs : List Nat} (hb : By bs) : ∀ (n o a : Nat), nbA bs n o a < (a + 1) * 256 ^ n
  | 0, o, a => by simp [nbA]
  | n + 1, o, a => by
    have h1 := getD_lt hb o
    have h2 := nbA_lt hb n (o + 1) (a * 256 + bs.getD o 0)
    rw [nbA]
    refine Nat.lt_of_lt_of_le h2 ?_
    rw [Nat.pow_succ, ← Nat.mul_assoc, Nat.mul_right_comm]
    exact Nat.mul_le_mul_right _ (by omega)
theorem nb2_lt {bs : List Nat} (hb : By bs) (o : Nat) : nbA bs 2 o 0 < 65536 := by have := nbA_lt hb 2 o 0; omega
theorem nb3_lt {bs : List Nat} (hb : By bs) (o : Nat) : nbA bs 3 o 0 < 16777216 := by have := nbA_lt hb 3 o 0; omega
theorem nb4_lt {bs : List Nat} (hb : By bs) (o : Nat) : nbA bs 4 o 0 < 4294967296 := by have := nbA_lt hb 4 o 0; omega
/-! the class reads runs -/
theorem p_takeRuns_loop {x q c N e pc : Nat} {bs : List Nat} {fs : List Fm} (hx : SQ x) (hN : am_len GG c = N) (hN2 : N ≤ 10000) (a1 : x + 1 ≠ q) (a2 : x + 1 ≠ c) (hb : By bs) (he : e ≤ 10000) : ∀ (z a i : Nat) (h : AH) (mm : List Nat), RX h s t u v → SeX h x (mm, pc, fs) → mm.length ≤ 1000 → By mm → Byt h q c N bs → a ≤ e → i ≤ 1000 → e - a < z → ∃ r h1, fX4_takeRuns_6 GG z x q (nI e) (nI i) (nI a) h = some (r, h1) ∧ Fr h h1 [x + 1] ∧ match rdB bs e z a i mm with
    | .ok m' => r = nI 0 ∧ SeX h1 x (m', pc, fs)
    | .error p => r = fcode p
  | 0, a, i, h, mm, _, _, _, _, _, _, _, hz => by omega
  | z + 1, a, i, h, mm, hR, hs, hl, hbm, hB, ha, hi, hz => by
    have hx' : x = 23 ∨ x = 66 := hx
    have hba := getD_lt hb a
    rw [fX4_takeRuns_6, rdB]
    by_cases c0 : e ≤ a
    · rw [if_pos c0]
      refine ⟨nI 0, h, ?_, Fr.rf, rfl, hs⟩
      rw [if_pos (by rw [pb_le (by omega) (by omega)]; exact c0)]
    · rw [if_neg c0, if_neg (by rw [pb_le (by omega) (by omega)]; exact c0), p_at hB hN (by omega) (by omega), am_bs]
      by_cases c1 : bs.getD a 0 = 0
      · rw [if_pos c1, c1, if_pos (by decide), pb_add]
        by_cases c2 : a + 1 < e
        · rw [if_pos c2, if_pos (by rw [pb_ltI (by omega) (by omega)]; exact c2)]
          have hba1 := getD_lt hb (a + 1)
          unfold fX4_takeRuns_43 fX4_takeRuns_62
          rw [if_pos (by decide), pb_add, p_at hB hN (by omega) (by omega), am_bs, pb_add, pb_add, hs.1]
          by_cases c3 : i + (bs.getD (a + 1) 0 + 1) ≤ mm.length
          · rw [if_pos c3, if_pos (by rw [pb_le (by omega) (by omega)]; exact c3), if_pos (by decide)]
            obtain ⟨r, h1, e1, e2, e3⟩ := p_takeRuns_loop hx hN hN2 a1 a2 hb he z (a + 2) (i + (bs.getD (a + 1) 0 + 1)) h mm hR hs hl hbm hB (by omega) (by omega) (by omega)
            refine ⟨r, h1, ?_, e2, e3⟩
            unfold fX4_takeRuns_110
            rw [am_let_eq, pb_add, pb_add, show a + 1 + 1 = a + 2 by omega]
            exact e1
          · rw [if_neg c3, if_neg (by rw [pb_le (by omega) (by omega)]; exact c3), p_fault (by decide) (by omega), am_bs]
            exact ⟨_, h, rfl, Fr.rf, rfl⟩
        · rw [if_neg c2, if_neg (by rw [pb_ltI (by omega) (by omega)]; exact c2), p_fault (by decide) (by omega), am_bs]
          exact ⟨_, h, rfl, Fr.rf, rfl⟩
      · have hne : ¬ nI (bs.getD a 0) = 0 := by rw [pb_eq0 (by omega)]; exact c1
        rw [if_neg c1, if_neg hne]
        unfold fX4_takeRuns_43 fX4_takeRuns_62
        rw [if_neg hne, pb_add, hs.1]
        by_cases c3 : i + 1 ≤ mm.length
        · have hmi := getD_lt hbm i
          have hxor := xor_lt hmi hba
          obtain ⟨r, h1, e1, e2, e3⟩ := p_takeRuns_loop hx hN hN2 a1 a2 hb he z (a + 1) (i + 1) (am_setI h (x + 1) i (nI (mm.getD i 0 ^^^ bs.getD a 0))) (mm.set i (mm.getD i 0 ^^^ bs.getD a 0)) (hR.eq rfl) (hs.mem (by omega)) (by simpa using hl) (fun b hb' => by
            rcases List.mem_or_eq_of_mem_set hb' with hz | rfl
            · exact hbm b hz
            · exact hxor) (hB.eq rfl (ps_n (fun z => a1 z.symm)) (ps_n (fun z => a2 z.symm))) (by omega) (by omega) (by omega)
          rw [if_pos c3, if_pos (by rw [pb_le (by omega) (by omega)]; exact c3), if_neg hne, p_byteAt hx hR hs.1 hl hs.2.2.2.1 (by omega), am_bs, xor_nI (by omega) (by omega), p_setByte hx hR hs.1 hl (by omega), am_bs]
          refine ⟨r, h1, ?_, (Fr.set (by simp)).tr e2, e3⟩
          unfold fX4_takeRuns_110
          rw [am_let_eq, pb_add, pb_add]
          exact e1
        · rw [if_neg c3, if_neg (by rw [pb_le (by omega) (by omega)]; exact c3), p_fault (by decide) (by omega), am_bs]
          exact ⟨_, h, rfl, Fr.rf, rfl⟩
/-! the class reads frames -/
theorem p_bad6 {q c N a : Nat} {bs : List Nat} (hB : Byt h q c N bs) (hN : am_len GG c = N) (hN2 : N ≤ 10000) (hb : By bs) (ha : a ≤ 10000) : ∀ (n i z : Nat), i + n = 6 → n < z → fX4_wrongInFirst_2 GG z q (nI a) (nI i) h = some (match bad6 bs a n i with | none => -2 | some k => nI k, h)
  | n, i, 0, _, hz => by omega
  | 0, i, z + 1, hi, _ => by
    rw [fX4_wrongInFirst_2, if_pos (by rw [pb_le (by omega) (by omega)]; omega)]
    rfl
  | n + 1, i, z + 1, hi, hz => by
    have hba := getD_lt hb (a + i)
    rw [fX4_wrongInFirst_2, if_neg (by rw [pb_le (by omega) (by omega)]; omega), pb_add, p_at hB hN (by omega) (by omega), am_bs, bad6]
    by_cases c1 : bs.getD (a + i) 0 = 0
    · rw [if_pos (by rw [pb_eq0 (by omega)]; exact c1), if_pos c1, pb_add]
      exact p_bad6 hB hN hN2 hb ha n (i + 1) z (by omega) (by omega)
    · rw [if_neg (by rw [pb_eq0 (by omega)]; exact c1), if_neg c1]
theorem marks_ok : ∀ m : Fin 256, (nI m.val &&& (nI m.val + nI 1) = 0 ∧ ¬ nI 128 ≤ nI m.val) ↔ ¬ arOf m.val = none := by decide +kernel
theorem marks_cnt : ∀ m : Fin 256, ∀ a : Fin 8, arOf m.val = some a.val → m.val = 2 ^ a.val - 1 := by decide +kernel
theorem arOf_le {m a : Nat} (hm : arOf m = some a) : a ≤ 7 := by
  unfold arOf at hm
  repeat' split at hm
  all_goals first | (cases hm; omega) | cases hm
theorem bitCount_ok {m a : Nat} (ha : a ≤ 7) (hm : m = 2 ^ a - 1) : fJ6_bitCount_0f7a4 GG (nI m) h = some (nI a, h) := by
  subst hm
  have : a = 0 ∨ a = 1 ∨ a = 2 ∨ a = 3 ∨ a = 4 ∨ a = 5 ∨ a = 6 ∨ a = 7 := by omega
  unfold fJ6_bitCount_0f7a4
  simp only [am_let]
  rcases this with rfl | rfl | rfl | rfl | rfl | rfl | rfl | rfl <;> (congr 1)
theorem p_badL {q c N a : Nat} {bs : List Nat} (hB : Byt h q c N bs) (hN : am_len GG c = N) (hN2 : N ≤ 10000) (hb : By bs) (ha : a ≤ 10000) : fX4_wrongInLater GG q (nI a) h = some (match badL bs a with | none => -2 | some k => nI k, h) := by
  have h3 := getD_lt hb (a + 3)
  have h4 := getD_lt hb (a + 4)
  have h5 := getD_lt hb (a + 5)
  have mk := marks_ok ⟨bs.getD (a + 5) 0, h5⟩
  simp only at mk
  have tail : fX4_wrongInLater_34 GG q (nI a) h = some (if arOf (bs.getD (a + 5) 0) = none then nI 5 else -2, h) := by
    unfold fX4_wrongInLater_34
    rw [pb_add, p_at hB hN (by omega) (by omega), am_bs]
    by_cases c1 : nI (bs.getD (a + 5) 0) &&& (nI (bs.getD (a + 5) 0) + nI 1) = 0
    · rw [if_pos c1]
      unfold fX4_wrongInLater_55
      rw [if_neg (by decide)]
      by_cases c2 : nI 128 ≤ nI (bs.getD (a + 5) 0)
      · rw [if_pos c2, if_pos]
        exact Classical.byContradiction (fun hn => (mk.mpr hn).2 c2)
      · rw [if_neg c2, if_neg (mk.mp ⟨c1, c2⟩)]
    · rw [if_neg c1]
      unfold fX4_wrongInLater_55
      rw [if_pos (by decide), if_pos]
      exact Classical.byContradiction (fun hn => c1 (mk.mpr hn).1)
  unfold fX4_wrongInLater badL
  rw [pb_add, p_at hB hN (by omega) (by omega), am_bs]
  by_cases c1 : 31 < bs.getD (a + 3) 0
  · rw [if_pos c1, if_neg (by rw [pb_le (by omega) (by omega)]; omega)]
  · rw [if_neg c1, if_pos (by rw [pb_le (by omega) (by omega)]; omega)]
    by_cases c2 : bs.getD (a + 3) 0 < 16
    · rw [if_pos (by rw [pb_ltI (by omega) (by omega)]; exact c2), if_neg (by omega), tail]
      split <;> rfl
    · rw [if_neg (by rw [pb_ltI (by omega) (by omega)]; exact c2), pb_add, p_at hB hN (by omega) (by omega), am_bs]
      by_cases c3 : bs.getD (a + 4) 0 = 0
      · rw [if_pos (by rw [pb_eq0 (by omega)]; exact c3), if_neg (fun z => z.2 c3), tail]
        split <;> rfl
      · rw [if_neg (by rw [pb_eq0 (by omega)]; exact c3), if_pos ⟨by omega, c3⟩]
theorem and15 : ∀ m : Fin 256, nI m.val &&& nI 15 = nI (m.val % 16) := by decide +kernel
theorem bad6_lt {bs : List Nat} {a : Nat} : ∀ {n i k : Nat}, bad6 bs a n i = some k → k < i + n
  | 0, i, k, hk => by cases hk
  | n + 1, i, k, hk => by
    rw [bad6] at hk
    split at hk
    · have := bad6_lt hk; omega
    · cases hk; omega
theorem badL_lt {bs : List Nat} {a k : Nat} (hk : badL bs a = some k) : k < 6 := by
  unfold badL at hk
  split at hk
  · cases hk; omega
  · split at hk
    · cases hk; omega
    · split at hk
      · cases hk; omega
      · cases hk
theorem p_frameFault {x q c N e a n : Nat} {bs : List Nat} {first : Bool} (hB : Byt h q c N bs) (hN : am_len GG c = N) (hN2 : N ≤ 10000) (hb : By bs) (ha : a ≤ e) (he : e ≤ 10000) (h4 : h.1 x 4 = nI n) (hn : n ≤ 20) (hf : first = (n == 0)) : fX4_frameFault GG x q (nI a) (nI e) h = some (match rdF bs e a first with | .ok _ => nI 0 | .error p => fcode p, h) := by
  have h3 := getD_lt hb (a + 3)
  have h6 := nb2_lt hb (a + 6)
  have h15 := and15 ⟨bs.getD (a + 3) 0, h3⟩
  simp only at h15
  unfold fX4_frameFault rdF
  rw [pb_sub ha]
  by_cases c0 : e < a + 8
  · rw [if_pos c0, if_neg (by rw [pb_le (by omega) (by omega)]; omega), p_fault (by decide) (by omega), am_bs]
  · rw [if_neg c0, if_pos (by rw [pb_le (by omega) (by omega)]; omega), h4]
    have t0 : fX4_frameFault_35 GG q (nI a) (nI e) (-2) h = some (match (if 40 < nbA bs 2 (a + 6) 0 then (.error (9, a + 6) : Ex Fm) else if e < a + 8 + 2 * (bs.getD (a + 3) 0 % 16 + nbA bs 2 (a + 6) 0) then .error (8, e) else .ok (frOf bs a)) with | .ok _ => nI 0 | .error p => fcode p, h) := by
      unfold fX4_frameFault_35
      rw [if_pos rfl, pb_add, p_number hN (by omega) hB hb (by omega) (by decide), am_bs]
      by_cases c1 : 40 < nbA bs 2 (a + 6) 0
      · rw [if_pos c1, if_neg (by rw [pb_le (by omega) (by omega)]; omega), p_fault (by decide) (by omega), am_bs]
      · rw [if_neg c1, if_pos (by rw [pb_le (by omega) (by omega)]; omega), pb_add, p_at hB hN (by omega) (by omega), am_bs, h15, pb_add, am_let_eq, pb_mul, pb_sub ha, pb_sub (by omega)]
        by_cases c2 : e < a + 8 + 2 * (bs.getD (a + 3) 0 % 16 + nbA bs 2 (a + 6) 0)
        · rw [if_pos c2, if_neg (by rw [pb_le (by omega) (by omega)]; omega), p_fault (by decide) (by omega), am_bs]
        · rw [if_neg c2, if_pos (by rw [pb_le (by omega) (by omega)]; omega)]
    have t1 : ∀ k, k < 6 → fX4_frameFault_35 GG q (nI a) (nI e) (nI k) h = some (fcode (8, a + k), h) := by
      intro k hk
      unfold fX4_frameFault_35
      rw [if_neg (by
        intro hz
        have h1 := nI_pos' (show k < 2 ^ 31 by omega)
        rw [hz] at h1
        exact absurd h1 (by decide)), pb_add, p_fault (by decide) (by omega), am_bs]
    by_cases cn : n = 0
    · have hft : first = true := by rw [hf, cn]; rfl
      have hw : fX4_wrongInFirst GG q (nI a) h = _ := p_bad6 hB hN hN2 hb (by omega) 6 0 am_fuel (by omega) (by unfold am_fuel; omega)
      rw [if_pos (by rw [pb_eq0 (by omega)]; exact cn), hw, am_bs, hft]
      simp only [if_true]
      cases hbad : bad6 bs a 6 0 with
      | none => exact t0
      | some k => exact t1 k (by have := bad6_lt hbad; omega)
    · have hff : first = false := by rw [hf]; simp [cn]
      rw [if_neg (by rw [pb_eq0 (by omega)]; exact cn), p_badL hB hN hN2 hb (by omega), am_bs, hff]
      simp only [Bool.false_eq_true, if_false]
      cases hbad : badL bs a with
      | none => exact t0
      | some k => exact t1 k (badL_lt hbad)
/-- a frame while its words come: k are there -/
def prt (ws : List Nat) (nl k : Nat) : List Nat := ws.take k ++ List.replicate (nl - k) 0
theorem prt_len {ws : List Nat} {nl k : Nat} (hk : k ≤ ws.length) : (prt ws nl k).length = max nl k := by
  simp [prt]
  omega
theorem p_words_loop {x y q c N o nl d bk ar : Nat} {re : Option Nat} {bs : List Nat} (hN : am_len GG c = N) (hN2 : N ≤ 10000) (hb : By bs) (hy : am_len GG y = 55) (hxy : x ≠ y) (aq : x ≠ q ∧ x ≠ c ∧ y ≠ q ∧ y ≠ c) (hnl : nl ≤ 15) (hd : d ≤ 40) (ho : o ≤ 10000) : ∀ (m k z : Nat) (h : AH), h.2 x 0 = some y → Byt h q c N bs → k + m = nl + d → m < z → FrX (h.1 x) (h.1 y) (bk, re, ar, nl, prt (words bs o (nl + d)) nl k) → ∃ h1, fX4_takeFrame_84 GG z q (nI nl) (nI d) (nI o) x (nI k) h = some (nI (o + 2 * (nl + d)), h1) ∧ Fr h h1 [x, y] ∧ FrX (h1.1 x) (h1.1 y) (bk, re, ar, nl, words bs o (nl + d))
  | m, k, 0, h, _, _, _, hz, _ => by omega
  | 0, k, z + 1, h, hr, hB, hk, _, hF => by
    refine ⟨h, ?_, Fr.rf, ?_⟩
    · rw [fX4_takeFrame_84, pb_add, if_pos (by rw [pb_le (by omega) (by omega)]; omega)]
      unfold fX4_takeFrame_145
      rw [pb_add, pb_mul, pb_add]
    · have : prt (words bs o (nl + d)) nl k = words bs o (nl + d) := by
        unfold prt
        rw [show k = nl + d by omega, show nl - (nl + d) = 0 by omega, List.take_of_length_le (by rw [words_len]; omega)]
        simp
      rw [this] at hF
      exact hF
  | m + 1, k, z + 1, h, hr, hB, hk, hz, hF => by
    have hwl := words_len (bs := bs) (o := o) (n := nl + d)
    have hw := words_get (bs := bs) (o := o) (n := nl + d) (k := k) (by omega)
    have hlt := nb2_lt hb (o + 2 * k)
    obtain ⟨f1, f2, f3, f4, f5, f6⟩ := hF
    have hpl := prt_len (ws := words bs o (nl + d)) (nl := nl) (k := k) (by omega)
    have hpl1 := prt_len (ws := words bs o (nl + d)) (nl := nl) (k := k + 1) (by omega)
    have hget : ∀ j, (prt (words bs o (nl + d)) nl (k + 1)).getD j 0 = if j = k then nbA bs 2 (o + 2 * k) 0 else (prt (words bs o (nl + d)) nl k).getD j 0 := by
      intro j
      have ht : ∀ n, n ≤ nl + d → ((words bs o (nl + d)).take n).length = n := fun n hn => by simp [hwl]; omega
      have htg : ∀ n i, i < n → ((words bs o (nl + d)).take n).getD i 0 = (words bs o (nl + d)).getD i 0 := fun n i hi => by simp [List.getD, List.getElem?_take, hi]
      have hrg : ∀ n i, (List.replicate n 0).getD i 0 = 0 := fun n i => by
        rw [List.getD_eq_getElem?_getD]
        rw [List.getElem?_replicate]
        split <;> rfl
      unfold prt
      rw [getD_app, getD_app, ht (k + 1) (by omega), ht k (by omega)]
      by_cases h1 : j = k
      · subst h1
        rw [if_pos (by omega), if_pos rfl, htg _ _ (by omega), hw]
      · rw [if_neg h1]
        by_cases h2 : j < k
        · rw [if_pos (by omega), if_pos h2, htg _ _ (by omega), htg _ _ h2]
        · rw [if_neg (by omega), if_neg h2, hrg, hrg]
    rw [fX4_takeFrame_84, pb_add, if_neg (by rw [pb_le (by omega) (by omega)]; omega), pb_mul, pb_add, p_number hN (by omega) hB hb (by omega) (by decide), am_bs]
    by_cases c1 : nl ≤ k
    · have e5 : h.1 x 5 = nI (k - nl) := by rw [f5, hpl]; congr 1; omega
      have hst := p_stackWord (h := h) hr hy hxy f4 e5 (by omega) hnl (x := nI (nbA bs 2 (o + 2 * k) 0))
      rw [if_pos (by rw [pb_le (by omega) (by omega)]; exact c1), hst, am_bs]
      obtain ⟨h1, e1, e2, e3⟩ := p_words_loop hN hN2 hb hy hxy aq hnl hd ho m (k + 1) z (am_setI (am_setI h y (nl + (k - nl)) (nI (nbA bs 2 (o + 2 * k) 0))) x 5 (nI (k - nl + 1))) hr (hB.eq rfl (by rw [ps_n (fun z => aq.1 z.symm), ps_n (fun z => aq.2.2.1 z.symm)]) (by rw [ps_n (fun z => aq.2.1 z.symm), ps_n (fun z => aq.2.2.2 z.symm)])) (by omega) (by omega) (by
        refine ⟨?_, ?_, ?_, ?_, ?_, fun j hj => ?_⟩
        · rw [ps_s, ps_un (by decide), ps_n hxy]; exact f1
        · rw [ps_s, ps_un (by decide), ps_n hxy]; exact f2
        · rw [ps_s, ps_un (by decide), ps_n hxy]; exact f3
        · rw [ps_s, ps_un (by decide), ps_n hxy]; exact f4
        · rw [ps_s, ps_us, hpl1]; congr 1; omega
        · rw [ps_n (fun z => hxy z.symm), ps_s, hget j]
          by_cases hjk : j = k
          · rw [if_pos hjk, hjk, show nl + (k - nl) = k by omega, ps_us]
          · rw [if_neg hjk, ps_un (by omega)]
            exact f6 j (by omega))
      refine ⟨h1, ?_, ((Fr.set (by simp)).tr (Fr.set (by simp))).tr e2, e3⟩
      unfold fX4_takeFrame_139
      rw [pb_add]
      exact e1
    · have hst := p_setWord (h := h) (q := x) (c := y) hr hy (k := k) (by omega) (x := nI (nbA bs 2 (o + 2 * k) 0))
      rw [if_neg (by rw [pb_le (by omega) (by omega)]; exact c1), hst, am_bs]
      obtain ⟨h1, e1, e2, e3⟩ := p_words_loop hN hN2 hb hy hxy aq hnl hd ho m (k + 1) z (am_setI h y k (nI (nbA bs 2 (o + 2 * k) 0))) hr (hB.eq rfl (by rw [ps_n (fun z => aq.2.2.1 z.symm)]) (by rw [ps_n (fun z => aq.2.2.2 z.symm)])) (by omega) (by omega) (by
        refine ⟨?_, ?_, ?_, ?_, ?_, fun j hj => ?_⟩
        · rw [ps_n hxy]; exact f1
        · rw [ps_n hxy]; exact f2
        · rw [ps_n hxy]; exact f3
        · rw [ps_n hxy]; exact f4
        · rw [ps_n hxy, f5, hpl, hpl1]; congr 1; omega
        · rw [ps_s, hget j]
          by_cases hjk : j = k
          · rw [if_pos hjk, hjk, ps_us]
          · rw [if_neg hjk, ps_un hjk]
            exact f6 j (by omega))
      refine ⟨h1, ?_, (Fr.set (by simp)).tr e2, e3⟩
      unfold fX4_takeFrame_139
      rw [pb_add]
      exact e1
end READ1
