/-! ===== a loop that fills a stretch of a row ===== -/
def am_fill (h : AH) (d o n : Nat) (f : Nat → Int32) : AH := (fun b => if b = d then (fun j => if o ≤ j ∧ j < o + n then f (j - o) else h.1 b j) else h.1 b, h.2)
theorem pf_n {h : AH} {d o n b : Nat} {f : Nat → Int32} (hb : b ≠ d) : (am_fill h d o n f).1 b = h.1 b := by simp [am_fill, hb]
theorem pf_s {h : AH} {d o n j : Nat} {f : Nat → Int32} : (am_fill h d o n f).1 d j = if o ≤ j ∧ j < o + n then f (j - o) else h.1 d j := by simp [am_fill]
theorem pf_in {h : AH} {d o n j : Nat} {f : Nat → Int32} (h1 : o ≤ j) (h2 : j < o + n) : (am_fill h d o n f).1 d j = f (j - o) := by rw [pf_s, if_pos ⟨h1, h2⟩]
theorem pf_out {h : AH} {d o n j : Nat} {f : Nat → Int32} (h1 : j < o ∨ o + n ≤ j) : (am_fill h d o n f).1 d j = h.1 d j := by rw [pf_s, if_neg (by omega)]
theorem pf_2 {h : AH} {d o n : Nat} {f : Nat → Int32} : (am_fill h d o n f).2 = h.2 := rfl
theorem Fr.fill {h : AH} {d o n : Nat} {f : Nat → Int32} {S : List Nat} (hd : d ∈ S) : Fr h (am_fill h d o n f) S := ⟨rfl, fun b hb => pf_n (fun q => hb (q ▸ hd))⟩
theorem am_fill0 {h : AH} {d o : Nat} {f : Nat → Int32} : am_fill h d o 0 f = h := by
  unfold am_fill
  apply Prod.ext
  · funext b
    dsimp only
    split
    · next hb => funext j; rw [if_neg (by omega)]
    · rfl
  · rfl
theorem am_fillS {h : AH} {d o m : Nat} {f : Nat → Int32} : am_fill (am_setI h d o (f 0)) d (o + 1) m (fun k => f (k + 1)) = am_fill h d o (m + 1) f := by
  unfold am_fill am_setI
  apply Prod.ext
  · funext b
    dsimp only
    by_cases hb : b = d
    · subst hb
      rw [if_pos rfl, if_pos rfl, if_pos rfl]
      funext j
      by_cases h1 : j = o
      · subst h1
        rw [if_neg (by omega), if_pos (by omega)]
        simp [upd]
      · by_cases h2 : o + 1 ≤ j ∧ j < o + 1 + m
        · rw [if_pos h2, if_pos (by omega)]
          congr 1
          omega
        · rw [if_neg h2, if_neg (by omega)]
          simp [upd, h1]
    · rw [if_neg hb, if_neg hb, if_neg hb]
  · rfl
theorem fill_loop {ρ : Type} (F : Nat → Nat → AH → Option ρ) (E : AH → Option ρ) (P : AH → Prop) (d o n : Nat) (f : Nat → Int32) (hs : ∀ (z i : Nat) (h : AH), P h → i < n → F (z + 1) i h = F z (i + 1) (am_setI h d (o + i) (f i))) (hp : ∀ (h : AH) (j : Nat) (v : Int32), P h → P (am_setI h d j v)) (he : ∀ (z : Nat) (h : AH), P h → F (z + 1) n h = E h) : ∀ (m i z : Nat) (h : AH), i + m = n → m < z → P h → F z i h = E (am_fill h d (o + i) m (fun k => f (i + k)))
  | m, i, 0, h, _, hz, _ => by omega
  | 0, i, z + 1, h, hi, _, hP => by
    rw [am_fill0, show i = n by omega]
    exact he z h hP
  | m + 1, i, z + 1, h, hi, hz, hP => by
    rw [hs z i h hP (by omega), fill_loop F E P d o n f hs hp he m (i + 1) z _ (by omega) (by omega) (hp _ _ _ hP)]
    congr 1
    have := am_fillS (h := h) (d := d) (o := o + i) (m := m) (f := fun k => f (i + k))
    rw [← this]
    congr 1
    funext k
    congr 1
    omega
theorem fill_loop0 {ρ : Type} (F : Nat → Nat → AH → Option ρ) (E : AH → Option ρ) (P : AH → Prop) (d o n : Nat) (f : Nat → Int32) (hs : ∀ (z i : Nat) (h : AH), P h → i < n → F (z + 1) i h = F z (i + 1) (am_setI h d (o + i) (f i))) (hp : ∀ (h : AH) (j : Nat) (v : Int32), P h → P (am_setI h d j v)) (he : ∀ (z : Nat) (h : AH), P h → F (z + 1) n h = E h) (h : AH) (hP : P h) (hn : n < 100000) : F am_fuel 0 h = E (am_fill h d o n f) := by
  have := fill_loop F E P d o n f hs hp he n 0 am_fuel h (by omega) (by unfold am_fuel; omega) hP
  rw [this]
  simp only [Nat.add_zero, Nat.zero_add]
/-! rows of the model -/
/-- the first bytes of a row -/
def Arr (g : Nat → Int32) (bs : List Nat) : Prop := ∀ i, i < bs.length → g i = nI (bs.getD i 0)
theorem nI8 {v3 : Nat} (h : v3 < 4) : nI 24 - nI 8 * nI v3 = nI (8 * (3 - v3)) := by
  rw [pb_mul, pb_sub (by omega)]
  congr 1
  omega
theorem be4 (x k : Nat) (hk : k < 4) : (be x 4).getD k 0 = x / 256 ^ (3 - k) % 256 := by
  match k, hk with
  | 0, _ => rfl
  | 1, _ => rfl
  | 2, _ => rfl
  | 3, _ => rfl
def bq (x : Int32) : Nat → Int32 := fun k => nI ((be (uN x) 4).getD k 0)
section MOD
variable {h : AH} {s t u v : Nat}
theorem q_four (hR : RX h s t u v) {x : Int32} {o : Nat} (ho : o + 4 ≤ 2000) : fX9_four GG 119 x (nI o) h = some ((), am_fill h 120 o 4 (bq x)) := by
  unfold fX9_four
  refine fill_loop0 (fun z i h => fX9_four_2 GG z 119 x (nI o) (nI i) h) (fun h => some ((), h)) (fun h => RX h s t u v) 120 o 4 _ ?_ (fun h j w hP => hP) ?_ h hR (by decide)
  · intro z i h hP hi
    simp (disch := omega) only [fX9_four_2, pb_le, if_neg, hP.r119_0, Option.bind_some, pb_add, ln_120, pb_ok, if_true, pb_cl, am_let, nI8, bt_s, bq, be4, if_false]
  · intro z h hP
    simp (disch := omega) only [fX9_four_2, pb_le, if_pos, if_true, if_false]
theorem q_patch (hR : RX h s t u v) {x : Int32} {o : Nat} (ho : o + 4 ≤ 8000) : fX9_patch GG 119 (nI o) x h = some ((), am_fill h 134 o 4 (bq x)) := by
  unfold fX9_patch
  refine fill_loop0 (fun z i h => fX9_patch_2 GG z 119 (nI o) x (nI i) h) (fun h => some ((), h)) (fun h => RX h s t u v) 134 o 4 _ ?_ (fun h j w hP => hP) ?_ h hR (by decide)
  · intro z i h hP hi
    simp (disch := omega) only [fX9_patch_2, pb_le, if_neg, hP.r119_26, Option.bind_some, pb_add, ln_134, pb_ok, if_true, pb_cl, am_let, nI8, bt_s, bq, be4, if_false]
  · intro z h hP
    simp (disch := omega) only [fX9_patch_2, pb_le, if_pos, if_true, if_false]
/-- the bytes that are being made -/
def Mk (h : AH) (bs : List Nat) : Prop := h.1 119 27 = nI bs.length ∧ bs.length ≤ 8000 ∧ Arr (h.1 134) bs
theorem q_number_loop (x : Int32) : ∀ (n z : Nat) (h : AH) (bs : List Nat), n ≤ 4 → n < z → RX h s t u v → Mk h bs → bs.length + n ≤ 8000 → ∃ h1, fX9_number_4 GG z 119 x (nI n + (-1)) h = some ((), h1) ∧ Mk h1 (bs ++ be (uN x) n) ∧ Fr h h1 [119, 134] ∧ ∀ j, j ≠ 27 → h1.1 119 j = h.1 119 j
  | n, 0, h, bs, _, hz, _, _, _ => by omega
  | 0, z + 1, h, bs, _, _, hR, hM, _ => by
    refine ⟨h, ?_, by simpa [be] using hM, Fr.rf, fun _ _ => rfl⟩
    unfold fX9_number_4
    rw [if_pos (by decide)]
  | n + 1, z + 1, h, bs, hn, hz, hR, hM, hl => by
    obtain ⟨m1, m2, m3⟩ := hM
    obtain ⟨h2, f1, f2, f3, f4⟩ := q_number_loop x n z (am_setI (am_setI h 134 bs.length (nI (uN x / 256 ^ n % 256))) 119 27 (nI (bs.length + 1))) (bs ++ [uN x / 256 ^ n % 256]) (by omega) (by omega) hR ⟨by rw [ps_s, ps_us]; simp, by simp; omega, fun i hi => by
      rw [ps_n (by decide), ps_s]
      simp at hi
      rw [getD_app]
      by_cases e : i = bs.length
      · subst e; rw [ps_us, if_neg (by omega)]; simp
      · rw [ps_un e, m3 i (by omega), if_pos (by omega)]⟩ (by simp; omega)
    refine ⟨h2, ?_, by simpa [be] using f2, ((Fr.set (by simp)).tr (Fr.set (by simp))).tr f3, fun j hj => ?_⟩
    · rw [pk_m1]
      unfold fX9_number_4
      rw [if_neg (nI_pos (by omega)), m1]
      simp (disch := omega) only [hR.r119_26, Option.bind_some, ln_134, am_let, pb_mul, pb_ok, pb_cl, if_true, bt_s, ps_n, m1, pb_add, if_false]
      exact f1
    · rw [f4 j hj, ps_s, ps_un hj, ps_n (by decide)]
theorem q_number (hR : RX h s t u v) {bs : List Nat} (hM : Mk h bs) (x : Int32) {n : Nat} (hn : n ≤ 4) (hl : bs.length + n ≤ 8000) : ∃ h1, fX9_number GG 119 x (nI n) h = some ((), h1) ∧ Mk h1 (bs ++ be (uN x) n) ∧ Fr h h1 [119, 134] ∧ ∀ j, j ≠ 27 → h1.1 119 j = h.1 119 j := by
  obtain ⟨h1, e1, e2⟩ := q_number_loop x n am_fuel h bs hn (by unfold am_fuel; omega) hR hM hl
  refine ⟨h1, ?_, e2⟩
  unfold fX9_number am_let
  rw [show nI n - nI 1 = nI n + (-1) by rw [Int32.sub_eq_add_neg]; rfl]
  exact e1
end MOD
