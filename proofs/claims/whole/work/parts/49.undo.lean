/-! ===== what was told is read again; undo ===== -/
section UNDO
variable {h : AH} {s t u v : Nat}
/-- the bytes L stand at a -/
def Wn (bs : List Nat) (a : Nat) (L : List Nat) : Prop := ∀ k, k < L.length → bs.getD (a + k) 0 = L.getD k 0
theorem Wn.app {bs : List Nat} {a : Nat} {X Y : List Nat} (hw : Wn bs a (X ++ Y)) : Wn bs a X ∧ Wn bs (a + X.length) Y := by
  refine ⟨fun k hk => ?_, fun k hk => ?_⟩
  · rw [hw k (by simp; omega), getD_app, if_pos hk]
  · rw [Nat.add_assoc, hw (X.length + k) (by simp; omega), getD_app, if_neg (by omega), show X.length + k - X.length = k by omega]
theorem Wn.cons {bs : List Nat} {a x : Nat} {Y : List Nat} (hw : Wn bs a (x :: Y)) : bs.getD a 0 = x ∧ Wn bs (a + 1) Y := by
  refine ⟨by have := hw 0 (by simp); simpa using this, fun k hk => ?_⟩
  have := hw (k + 1) (by simp; omega)
  rw [show a + 1 + k = a + (k + 1) by omega, this]
  simp
theorem Wn.mid {A B C : List Nat} : Wn (A ++ (B ++ C)) A.length B := by
  intro k hk
  rw [getD_app, if_neg (by omega), getD_app, if_pos (by omega), show A.length + k - A.length = k by omega]
theorem rdB_zrun {bs : List Nat} {e : Nat} (z : Nat) : ∀ (f a i : Nat) (mm : List Nat), Wn bs a (zrun z) → a + (zrun z).length ≤ e → i + z ≤ mm.length → e - a ≤ f → ∃ f', rdB bs e f a i mm = rdB bs e f' (a + (zrun z).length) (i + z) mm ∧ e - (a + (zrun z).length) ≤ f' := by
  induction z using Nat.strongRecOn with
  | ind z ih =>
    intro f a i mm hw hl hi hf
    by_cases h0 : z = 0
    · subst h0
      exact ⟨f, by simp [zrun_0], by simpa [zrun_0] using hf⟩
    · have hs := zrun_step (z := z) (by omega)
      rw [hs] at hw hl ⊢
      obtain ⟨w1, w2⟩ := hw.app
      obtain ⟨w3, w4⟩ := w1.cons
      obtain ⟨w5, -⟩ := w4.cons
      simp only [List.length_append, List.length_cons, List.length_nil] at hl w2 ⊢
      obtain ⟨f', rfl⟩ : ∃ f', f = f' + 1 := ⟨f - 1, by omega⟩
      obtain ⟨g, g1, g2⟩ := ih (z - 256) (by omega) f' (a + 2) (i + (min z 256 - 1 + 1)) mm w2 (by omega) (by omega) (by omega)
      refine ⟨g, ?_, by omega⟩
      rw [rdB, if_neg (by omega), w3, if_pos rfl, if_pos (by omega), w5, if_pos (by omega), g1, show i + (min z 256 - 1 + 1) + (z - 256) = i + z by omega]
      refine congrArg (fun w => rdB bs e g w (i + z) mm) ?_
      omega
theorem xor_eq0 {m o : Nat} (hx : m ^^^ o = 0) : m = o := by
  have h1 : (m ^^^ o) ^^^ o = m := by rw [Nat.xor_assoc, Nat.xor_self, Nat.xor_zero]
  rw [hx, Nat.zero_xor] at h1
  exact h1.symm
theorem xor_back {m o : Nat} : o ^^^ (m ^^^ o) = m := by
  rw [Nat.xor_comm m o, ← Nat.xor_assoc, Nat.xor_self, Nat.zero_xor]
theorem take_step {T O : List Nat} {i m o : Nat} {ms os : List Nat} (d1 : T.drop i = m :: ms) (d2 : O.drop i = o :: os) : (T.take i ++ O.drop i).set i m = T.take (i + 1) ++ O.drop (i + 1) ∧ (T.take i ++ O.drop i).getD i 0 = o := by
  obtain ⟨g1, g2, g3⟩ := getD_drop d1
  obtain ⟨g4, g5, g6⟩ := getD_drop d2
  have hl : (T.take i).length = i := by simp; omega
  have ht : T.take (i + 1) = T.take i ++ [m] := by
    rw [List.take_succ_eq_append_getElem g3]
    congr 2
    rw [List.getD_eq_getElem?_getD, List.getElem?_eq_getElem g3] at g1
    simpa using g1
  refine ⟨?_, ?_⟩
  · rw [List.set_append_right _ _ (by omega), hl, Nat.sub_self, d2, List.set_cons_zero, ht, g5]
    simp
  · rw [getD_app, hl, if_neg (by omega), Nat.sub_self, d2]
    rfl
theorem rdB_enc {bs : List Nat} {e : Nat} {T O : List Nat} (hTO : T.length = O.length) : ∀ (ms os : List Nat) (z i a f : Nat), T.drop i = ms → O.drop i = os → i ≤ T.length → z ≤ i → Wn bs a (encB ms os z) → a + (encB ms os z).length = e → e - a ≤ f → rdB bs e f a (i - z) (T.take i ++ O.drop i) = .ok T
  | [], os, z, i, a, f, d1, d2, hi, hz, hw, hl, hf => by
    have h1 : T.length ≤ i := by simpa using List.drop_eq_nil_iff.mp d1
    have h2 : T.take i ++ O.drop i = T := by
      rw [List.take_of_length_le h1, List.drop_eq_nil_of_le (by omega), List.append_nil]
    rw [h2]
    simp [encB] at hl
    cases f with
    | zero => rfl
    | succ f => rw [rdB, if_pos (by omega)]
  | m :: ms, os, z, i, a, f, d1, d2, hi, hz, hw, hl, hf => by
    obtain ⟨g1, g2, g3⟩ := getD_drop d1
    cases os with
    | nil =>
      have := List.drop_eq_nil_iff.mp d2
      omega
    | cons o os =>
      obtain ⟨g4, g5, g6⟩ := getD_drop d2
      obtain ⟨t1, t2⟩ := take_step d1 d2
      unfold encB at hw hl
      by_cases hx : m ^^^ o = 0
      · rw [if_pos hx] at hw hl
        have hmo := xor_eq0 hx
        have ih := rdB_enc hTO ms os (z + 1) (i + 1) a f g2 g5 (by omega) (by omega) hw hl hf
        rw [← t1] at ih
        have hset : (T.take i ++ O.drop i).set i m = T.take i ++ O.drop i := by
          rw [hmo, ← t2]
          apply List.ext_getElem?
          intro j
          rw [List.getElem?_set]
          split
          · next hj =>
            subst hj
            split
            · next hj2 => rw [List.getD_eq_getElem?_getD, List.getElem?_eq_getElem hj2]; rfl
            · next hj2 => rw [List.getElem?_eq_none (by omega)]
          · rfl
        rw [hset, show i + 1 - (z + 1) = i - z by omega] at ih
        exact ih
      · rw [if_neg hx] at hw hl
        obtain ⟨w1, w2⟩ := hw.app
        obtain ⟨w3, w4⟩ := w2.cons
        simp only [List.length_append, List.length_cons] at hl
        have hml : (T.take i ++ O.drop i).length = T.length := by simp; omega
        obtain ⟨f', r1, r2⟩ := rdB_zrun (bs := bs) (e := e) z f a (i - z) (T.take i ++ O.drop i) w1 (by omega) (by omega) hf
        rw [r1, show i - z + z = i by omega]
        obtain ⟨f'', rfl⟩ : ∃ f'', f' = f'' + 1 := ⟨f' - 1, by omega⟩
        rw [rdB, if_neg (by omega), w3, if_neg hx, if_pos (by omega), t2, xor_back, t1]
        have ih := rdB_enc (bs := bs) (e := e) hTO ms os 0 (i + 1) (a + (zrun z).length + 1) f'' g2 g5 (by omega) (by omega) w4 (by omega) (by omega)
        exact ih
theorem nbA_be {bs : List Nat} {x : Nat} : ∀ (n o acc : Nat), Wn bs o (be x n) → nbA bs n o acc = acc * 256 ^ n + x % 256 ^ n
  | 0, o, acc, _ => by simp [nbA, Nat.mod_one]
  | n + 1, o, acc, hw => by
    rw [be] at hw
    obtain ⟨w1, w2⟩ := hw.cons
    rw [nbA, w1, nbA_be n (o + 1) _ w2, Nat.mod_pow_succ, Nat.pow_succ, Nat.add_mul, Nat.mul_comm (256 ^ n) (x / 256 ^ n % 256), Nat.mul_comm (256 ^ n) 256, Nat.mul_assoc]
    omega
theorem words_succ {bs : List Nat} {o n : Nat} : words bs o (n + 1) = nbA bs 2 o 0 :: words bs (o + 2) n := by
  unfold words
  rw [List.range_succ_eq_map, List.map_cons, List.map_map, Nat.mul_zero, Nat.add_zero]
  refine congrArg (fun w => nbA bs 2 o 0 :: w) ?_
  apply List.map_congr_left
  intro k _
  simp only [Function.comp]
  rw [show o + 2 * k.succ = o + 2 + 2 * k by omega]
theorem words_enc {bs : List Nat} : ∀ (ws : List Nat) (o : Nat), (∀ w ∈ ws, w < 65536) → Wn bs o (ws.flatMap (fun w => be w 2)) → words bs o ws.length = ws
  | [], o, _, _ => rfl
  | w :: ws, o, hw, hW => by
    rw [List.flatMap_cons] at hW
    obtain ⟨w1, w2⟩ := hW.app
    rw [be_len] at w2
    have hlt := hw w List.mem_cons_self
    have e1 := nbA_be 2 o 0 w1
    rw [List.length_cons, words_succ, words_enc ws (o + 2) (fun x hx => hw x (List.mem_cons_of_mem _ hx)) w2, e1, Nat.zero_mul, Nat.zero_add, Nat.mod_eq_of_lt (show w < 256 ^ 2 by omega)]
theorem arOf_pow {a : Nat} (ha : a ≤ 7) : arOf (2 ^ a - 1) = some a := by
  have : a = 0 ∨ a = 1 ∨ a = 2 ∨ a = 3 ∨ a = 4 ∨ a = 5 ∨ a = 6 ∨ a = 7 := by omega
  rcases this with rfl | rfl | rfl | rfl | rfl | rfl | rfl | rfl <;> rfl
theorem bad6_ok {bs : List Nat} {a : Nat} : ∀ (n i : Nat), (∀ k, i ≤ k → k < i + n → bs.getD (a + k) 0 = 0) → bad6 bs a n i = none
  | 0, i, _ => rfl
  | n + 1, i, hz => by
    rw [bad6, if_pos (hz i (by omega) (by omega))]
    exact bad6_ok n (i + 1) (fun k h1 h2 => hz k (by omega) (by omega))
theorem rdF_enc {bs : List Nat} {e a : Nat} {first : Bool} {fm : Fm} (hw : WFm fm) (hW : Wn bs a (encF fm)) (he : a + (encF fm).length ≤ e) (hf : first = true → ∃ ws, fm = (0, some 0, 0, 0, ws)) : rdF bs e a first = .ok fm := by
  rw [encF_len] at he
  obtain ⟨bk, re, ar, nl, ws⟩ := fm
  obtain ⟨w1, w2, w3, w4, w5, w6, w7⟩ := hw
  simp only [encF] at hW he
  obtain ⟨a1, a2⟩ := hW.app
  rw [be_len] at a2
  obtain ⟨a3, a4⟩ := a2.app
  simp only [List.length_cons, List.length_nil] at a4
  obtain ⟨b1, b2⟩ := a3.cons
  obtain ⟨b3, b4⟩ := b2.cons
  obtain ⟨b5, -⟩ := b4.cons
  obtain ⟨c1, c2⟩ := a4.app
  rw [be_len] at c2
  have e3 := nbA_be 3 a 0 a1
  have e2 := nbA_be 2 (a + 6) 0 c1
  have p3 : (256 : Nat) ^ 3 = 16777216 := by decide
  have p2 : (256 : Nat) ^ 2 = 65536 := by decide
  rw [p3, Nat.mod_eq_of_lt w1] at e3
  rw [p2, Nat.mod_eq_of_lt (by omega)] at e2
  simp only [Nat.zero_mul, Nat.zero_add] at e3 e2
  have ew := words_enc ws (a + 8) w7 c2
  have h3 : bs.getD (a + 3) 0 = nl + (if re = none then 16 else 0) := b1
  have h4 : bs.getD (a + 4) 0 = re.getD 0 := b3
  have h5 : bs.getD (a + 5) 0 = 2 ^ ar - 1 := b5
  have har := arOf_pow w3
  have hm16 : bs.getD (a + 3) 0 % 16 = nl := by rw [h3]; split <;> omega
  have hfr : frOf bs a = (bk, re, ar, nl, ws) := by
    unfold frOf
    rw [e3, h5, har, hm16, e2, show nl + (ws.length - nl) = ws.length by omega, ew, h3, h4]
    cases re with
    | none => rw [if_neg (by simp)]; rfl
    | some r => rw [if_pos (by simp; omega)]; rfl
  have hbad : (if first then bad6 bs a 6 0 else badL bs a) = none := by
    cases first with
    | true =>
      obtain ⟨ws', hh⟩ := hf rfl
      cases hh
      simp only [if_true]
      refine bad6_ok 6 0 (fun k _ hk => ?_)
      have : k = 0 ∨ k = 1 ∨ k = 2 ∨ k = 3 ∨ k = 4 ∨ k = 5 := by omega
      rcases this with rfl | rfl | rfl | rfl | rfl | rfl
      · rw [a1 0 (by simp [be_len])]; rfl
      · rw [a1 1 (by simp [be_len])]; rfl
      · rw [a1 2 (by simp [be_len])]; rfl
      · rw [h3]; rfl
      · rw [h4]; rfl
      · rw [h5]
    | false =>
      simp only [Bool.false_eq_true, if_false]
      unfold badL
      rw [h5, har, h3, h4]
      rw [if_neg (by split <;> omega), if_neg, if_neg (by simp)]
      cases re with
      | none => simp
      | some r => simp; omega
  unfold rdF
  rw [if_neg (by omega), hbad]
  simp only
  rw [if_neg (by omega), if_neg (by omega), hfr]
theorem rdD_enc {bs : List Nat} {e : Nat} : ∀ (ms : List Fm) (n a : Nat) (pre : List Fm), Wn bs a (encD ms) → a + (encD ms).length = e → (∀ fm ∈ ms, WFm fm) → ms.length ≤ n → (pre = [] → ∃ ws r, ms = (0, some 0, 0, 0, ws) :: r) → rdD bs e n a pre = .ok (pre ++ ms)
  | [], n, a, pre, hW, he, hw, hn, hp => by
    have hne : pre ≠ [] := fun hz => by obtain ⟨ws, r, hh⟩ := hp hz; cases hh
    simp [encD] at he
    cases n with
    | zero => rw [rdD, if_pos (by omega), List.append_nil]
    | succ n => rw [rdD, if_pos ⟨hne, by omega⟩, List.append_nil]
  | fm :: ms, n, a, pre, hW, he, hw, hn, hp => by
    have hsplit : encD (fm :: ms) = encF fm ++ encD ms := by simp [encD]
    rw [hsplit] at hW he
    obtain ⟨w1, w2⟩ := hW.app
    rw [List.length_append] at he
    have hl := encF_len fm
    simp only [List.length_cons] at hn
    obtain ⟨n', rfl⟩ : ∃ n', n = n' + 1 := ⟨n - 1, by omega⟩
    have hF : rdF bs e a pre.isEmpty = .ok fm := rdF_enc (hw fm List.mem_cons_self) w1 (by omega) (fun hz => by
      have : pre = [] := by simpa using hz
      obtain ⟨ws, r, hh⟩ := hp this
      cases hh
      exact ⟨ws, rfl⟩)
    rw [rdD, if_neg (by omega), hF]
    simp only
    have hpos : a + 8 + 2 * fm.2.2.2.2.length = a + (encF fm).length := by omega
    rw [hpos, rdD_enc ms n' (a + (encF fm).length) (pre ++ [fm]) w2 (by omega) (fun x hx => hw x (List.mem_cons_of_mem _ hx)) (by omega) (fun hz => by simp at hz)]
    simp
theorem encS_by {ow : List Nat} {x : Sn} (hw : WSn x) (ho : By ow) : By (encS ow x) := by
  obtain ⟨mm, pc, fs⟩ := x
  exact By.app (encB_by _ _ _ hw.2.1 ho) (encD_by _ hw.2.2.2.2)
theorem flat_by {ow : List Nat} (ho : By ow) : ∀ (kp : List Sn), (∀ x ∈ kp, WSn x) → By (kp.flatMap (encS ow))
  | [], _ => fun b hb => by simp at hb
  | x :: kp, hw => by
    rw [List.flatMap_cons]
    exact By.app (encS_by (hw x List.mem_cons_self) ho) (flat_by ho kp (fun y hy => hw y (List.mem_cons_of_mem _ hy)))
theorem p_takeLatest {hd ow : List Nat} {ks : List Sn} {x : Sn} {bd : Nat} (hq : SQ t) (hR : RX h s t u v) (hS : CS h hd ow) (hl : ow.length ≤ 1000) (bo : By ow) (hC : CK h (ks ++ [x]) ow bd) (hk : ks.length ≤ 7) (hws : ∀ y ∈ ks ++ [x], WS ow y) : ∃ h1, fX2_takeLatest GG 17 14 t h = some ((), h1) ∧ SeX h1 t x ∧ CK h1 ks ow bd ∧ h1.2 = h.2 ∧ ∀ a, a ≠ 17 → a ≠ 18 → (a < t ∨ t + 42 < a) → h1.1 a = h.1 a := by
  have ht' : t = 23 ∨ t = 66 := hq
  obtain ⟨c1, c2, c3, c4⟩ := id hC
  have hx := hws x (by simp)
  obtain ⟨mm, pc, fs⟩ := x
  obtain ⟨hxn, hxl, ws0, r0, hfst⟩ := id hx
  simp only at hxl hfst
  have hby : By ((ks ++ [(mm, pc, fs)]).flatMap (encS ow)) := flat_by bo _ (fun y hy => (hws y hy).1)
  have hrows : (ks ++ [(mm, pc, fs)]).flatMap (encS ow) = ks.flatMap (encS ow) ++ (encB mm ow 0 ++ encD fs) := by simp [encS]
  rw [hrows] at c1 hby
  obtain ⟨n1, n2, n3⟩ := c4 ks.length (mm, pc, fs) (by simp)
  have e4 : h.1 17 4 = nI (ks.length + 1) := by rw [c2]; simp
  have htot : (ks.flatMap (encS ow) ++ (encB mm ow 0 ++ encD fs)).length ≤ 10000 := c1.2.1
  have hsz : (encS ow (mm, pc, fs)).length = (encB mm ow 0).length + (encD fs).length := by simp [encS]
  simp only [List.length_append] at htot
  obtain ⟨h1, a1, a2, a3⟩ := p_sbegin (q := t) hq hR hS hl
  have hR1 := hR.eq a2.1
  have k1 : ∀ a, (a < t ∨ t + 42 < a) → h1.1 a = h.1 a := fun a ha => a2.2 a (by simp; omega)
  have hB1 : Byt h1 18 19 10000 (ks.flatMap (encS ow) ++ (encB mm ow 0 ++ encD fs)) := c1.eq (by rw [a2.1]) (k1 18 (by omega)) (k1 19 (by omega))
  -- runs
  obtain ⟨r1, h2, b1, b2, b3⟩ := p_takeRuns_loop (s := s) (t := t) (u := u) (v := v) (e := (ks.flatMap (encS ow)).length + (encB mm ow 0).length) hq ln_19 (by decide) (by omega) (by omega) hby (by omega) am_fuel (ks.flatMap (encS ow)).length 0 h1 ow hR1 a3 hl bo hB1 (by omega) (by omega) (by unfold am_fuel; omega)
  have hrd : rdB (ks.flatMap (encS ow) ++ (encB mm ow 0 ++ encD fs)) ((ks.flatMap (encS ow)).length + (encB mm ow 0).length) am_fuel (ks.flatMap (encS ow)).length 0 ow = .ok mm := by
    have := rdB_enc (bs := ks.flatMap (encS ow) ++ (encB mm ow 0 ++ encD fs)) (e := (ks.flatMap (encS ow)).length + (encB mm ow 0).length) (T := mm) (O := ow) hxl mm ow 0 0 (ks.flatMap (encS ow)).length am_fuel rfl rfl (by omega) (by omega) Wn.mid rfl (by unfold am_fuel; omega)
    simpa using this
  rw [hrd] at b3
  have hR2 := hR1.eq b2.1
  have k2 : ∀ a, (a < t ∨ t + 42 < a) → h2.1 a = h.1 a := fun a ha => by rw [b2.2 a (by simp; omega), k1 a ha]
  have hB2 : Byt h2 18 19 10000 (ks.flatMap (encS ow) ++ (encB mm ow 0 ++ encD fs)) := c1.eq (by rw [b2.1, a2.1]) (k2 18 (by omega)) (k2 19 (by omega))
  -- frames
  obtain ⟨r2, h3, d1, d2, d3, d4⟩ := p_takeFrames (e := (ks.flatMap (encS ow)).length + (encB mm ow 0).length + (encD fs).length) (a := (ks.flatMap (encS ow)).length + (encB mm ow 0).length) hq ln_19 (by decide) (fun b p q => by omega) hby (by omega) (by omega) hR2 hB2 b3.2
  have hrd2 : rdD (ks.flatMap (encS ow) ++ (encB mm ow 0 ++ encD fs)) ((ks.flatMap (encS ow)).length + (encB mm ow 0).length + (encD fs).length) 20 ((ks.flatMap (encS ow)).length + (encB mm ow 0).length) [] = .ok fs := by
    have hW : Wn (ks.flatMap (encS ow) ++ (encB mm ow 0 ++ encD fs)) ((ks.flatMap (encS ow)).length + (encB mm ow 0).length) (encD fs) := by
      have := Wn.mid (A := ks.flatMap (encS ow) ++ encB mm ow 0) (B := encD fs) (C := [])
      simpa using this
    have := rdD_enc fs 20 ((ks.flatMap (encS ow)).length + (encB mm ow 0).length) [] hW rfl hxn.2.2.2.2 hxn.2.2.2.1 (fun _ => ⟨ws0, r0, hfst⟩)
    simpa using this
  rw [hrd2] at d4
  have hR3 := hR2.eq d2
  have e32 : h3.2 = h.2 := d2.trans (b2.1.trans a2.1)
  have k3 : ∀ a, (a < t ∨ t + 42 < a) → h3.1 a = h.1 a := fun a ha => by rw [d3 a ha, k2 a ha]
  have hs4 := d4.2.pcs (x := pc)
  generalize hh4 : am_setI h3 t 3 (nI pc) = h4 at hs4
  have hR4 : RX h4 s t u v := by rw [← hh4]; exact hR3.eq rfl
  have k4 : ∀ a, (a < t ∨ t + 42 < a) → h4.1 a = h.1 a := fun a ha => by rw [← hh4, ps_n (by omega), k3 a ha]
  have e42 : h4.2 = h.2 := by rw [← hh4]; exact e32
  have hB4 : Byt h4 18 19 10000 (ks.flatMap (encS ow) ++ (encB mm ow 0 ++ encD fs)) := c1.eq (by rw [e42]) (k4 18 (by omega)) (k4 19 (by omega))
  obtain ⟨h5, f1, f2, f3⟩ := p_keepFirst (Γ := GG) hB4 (by decide) (by decide) (n := (ks.flatMap (encS ow)).length) (by simp)
  have f2' : Byt h5 18 19 10000 (ks.flatMap (encS ow)) := by simpa using f2
  have k5 : ∀ a, a ≠ 18 → h5.1 a = h4.1 a := fun a ha => f3.2 a (by simp [ha])
  refine ⟨am_setI h5 17 4 (nI ks.length), ?_, ?_, ⟨?_, ?_, ?_, ?_⟩, ?_, fun a p q r => by rw [ps_n p, k5 a q, k4 a r]⟩
  · have x1 : h.1 18 1 = nI ((ks.flatMap (encS ow)).length + (encB mm ow 0).length + (encD fs).length) := by rw [c1.2.2.1]; simp only [List.length_append]; congr 1; omega
    have x2 : h2.1 18 1 = nI ((ks.flatMap (encS ow)).length + (encB mm ow 0).length + (encD fs).length) := by rw [k2 18 (by omega)]; exact x1
    have x3 : h3.1 22 ks.length = nI pc := by rw [k3 22 (by omega)]; exact n3
    have n1' : h.1 20 ks.length = nI (encB mm ow 0).length := n1
    have b1' : fX4_takeRuns GG t 18 (nI (ks.flatMap (encS ow)).length) (nI ((ks.flatMap (encS ow)).length + (encB mm ow 0).length)) h1 = some (r1, h2) := b1
    unfold fX2_takeLatest
    rw [e4, pb_pred, am_let_eq, if_neg (nI_pos (by omega)), if_neg (by rw [pb_le (by omega) (by omega)]; omega), hR.r17_0, Option.bind_some, hR.r17_2, Option.bind_some, ln_21, if_pos (pb_ok (by omega) (by decide)), pb_cl (by omega), x1, n2, hsz, pb_sub (by omega), show (ks.flatMap (encS ow)).length + (encB mm ow 0).length + (encD fs).length - ((encB mm ow 0).length + (encD fs).length) = (ks.flatMap (encS ow)).length by omega, am_let_eq, hR.r17_1, Option.bind_some, ln_20, if_pos (pb_ok (by omega) (by decide)), n1', pb_add, am_let_eq, a1, am_bs, hR1.r17_0, Option.bind_some, b1', am_bs, hR2.r17_0, Option.bind_some, Option.bind_some, x2, d1, am_bs, hR3.r17_3, Option.bind_some, ln_22, if_pos (pb_ok (by omega) (by decide)), x3, am_let_eq, hh4, hR4.r17_0, Option.bind_some, f1, am_bs, am_let_eq]
  · exact hs4.eq' hxn.2.2.2.1 (fun a ha => by rw [ps_n (by omega), k5 a (by omega)])
  · exact f2'.eq rfl (ps_n (by decide)) (ps_n (by decide))
  · rw [ps_s, ps_us]
  · rw [ps_s, ps_un (by decide), k5 17 (by decide), k4 17 (by omega)]; exact c3
  · intro i y hy
    rw [ps_n (by decide), ps_n (by decide), ps_n (by decide), k5 20 (by decide), k5 21 (by decide), k5 22 (by decide), k4 20 (by omega), k4 21 (by omega), k4 22 (by omega)]
    have hi := (List.getElem?_eq_some_iff.mp hy).1
    exact c4 i y (by rw [List.getElem?_append_left hi]; exact hy)
  · show h5.2 = h.2
    rw [f3.1, e42]
theorem q_undo37 {H : AH} {n : Nat} (hR : RX H s t u v) (hn : n ≤ 8) (h14 : H.1 119 14 = nI n) (y : Int32) (M : AH) (hM : M = am_fill H 125 0 2202 (fun k => H.1 127 (2202 * n + k))) : fX9_undo_37 GG am_fuel 119 y (nI 0) H = am_bind (fX9_stay GG 119 y M) fun r73 h73 => some (h73.1 119 14, h73) := by
  subst hM
  refine fill_loop0 (fun z k h => fX9_undo_37 GG z 119 y (nI k) h) (fun h => am_bind (fX9_stay GG 119 y h) fun r73 h73 => some (h73.1 119 14, h73)) (fun h => RX h s t u v ∧ h.1 119 14 = nI n ∧ h.1 127 = H.1 127) 125 0 2202 (fun k => H.1 127 (2202 * n + k)) ?_ (fun h j w hP => ⟨hP.1, by rw [ps_n (by decide)]; exact hP.2.1, by rw [ps_n (by decide)]; exact hP.2.2⟩) ?_ H ⟨hR, h14, rfl⟩ (by decide)
  · intro z k h hP hk
    rw [fX9_undo_37, if_neg (by rw [pb_le (by omega) (by omega)]; omega), hP.1.r119_10, Option.bind_some, hP.1.r119_12, Option.bind_some, hP.2.1, pb_mul, pb_add, ln_127, if_pos (pb_ok (by omega) (by decide)), ln_125, if_pos (pb_ok (by omega) (by decide)), pb_cl (by omega), pb_cl (by omega), am_let_eq, hP.2.2, pb_add, Nat.zero_add]
  · intro z h hP
    rw [fX9_undo_37, if_pos (by rw [pb_le (by omega) (by omega)]; omega)]
theorem last_split {α : Type} : ∀ (l : List α), l ≠ [] → ∃ ks x, l = ks ++ [x]
  | [], hn => absurd rfl hn
  | [x], _ => ⟨[], x, rfl⟩
  | x :: y :: l, _ => by
    obtain ⟨ks, z, e⟩ := last_split (y :: l) (by simp)
    exact ⟨x :: ks, z, by rw [e]; rfl⟩
theorem st_undo (hI : Inv h) : ∃ r h1 h2, fX8_undo GG 0 h = some (r, h1) ∧ fX9_undo GG 119 h1 = some (r, h2) ∧ Inv h2 := by
  obtain ⟨s, t, u, v, ⟨tp, ou, dk, ct, hd, ow, ⟨mm, pc, fs⟩, kp, bd, st, cd, pl, ch⟩, hw, hx, hm⟩ := id hI
  have hR := hx.1
  obtain ⟨hq, hqt, hst, hu, hv, huv⟩ := id hx.2.1
  obtain ⟨c0, c1, c2, c3, c4, c5, c6, c7, c8, c9⟩ := id hx
  obtain ⟨m0, m1, m2, m3, m4, m5, m6, m7, m8, m9, m10⟩ := id hm
  have hl : ow.length ≤ 1000 := hw.2.2.2.2.2.1.2
  by_cases ho : ow = []
  · refine ⟨-4, h, h, ?_, ?_, hI⟩
    · unfold fX8_undo
      rw [p_noStory hR c5 hl, am_bs, if_pos ho, if_neg (by decide)]
    · unfold fX9_undo
      rw [m5.1, ho, if_pos (by rfl)]
  · have hp := len_pos ho
    have hne : ¬ nI ow.length = 0 := by rw [pb_eq0 (by omega)]; omega
    have hs' : s = 23 ∨ s = 66 := hq
    have ht' : t = 23 ∨ t = 66 := hqt
    have hu' : u = 109 ∨ u = 114 := hu
    obtain ⟨hk8, hb, hkt⟩ := hw.2.2.2.2.2.2.2.1
    by_cases hkn : kp = []
    · refine ⟨-2, h, h, ?_, ?_, hI⟩
      · unfold fX8_undo
        rw [p_noStory hR c5 hl, am_bs, if_neg ho, if_pos (by decide), hR.r0_7, Option.bind_some, c6.2.1, hkn, if_neg (by decide)]
      · unfold fX9_undo
        rw [m5.1, if_neg hne, m7.1, hkn, if_pos (by rfl)]
    · obtain ⟨ks, x, rfl⟩ := last_split kp hkn
      have hsm := m6 ho
      have hwk := (hw.2.2.2.2.2.2.1.2 ho).2
      have hwx := hwk x (by simp)
      obtain ⟨⟨w1, w2, w3, w4, w5⟩, hlen, -⟩ := id (hw.2.2.2.2.2.2.1.2 ho).1
      simp only at hlen
      simp only [List.length_append, List.length_cons, List.length_nil] at hk8
      obtain ⟨h1, a1, a2, a3, a4, a5⟩ := p_takeLatest hqt hR c5 hl hw.2.2.2.2.2.1.1 c6 (by omega) hwk
      have hR1 := hR.eq a4
      have hse1 : SeX h1 s (mm, pc, fs) := c7.eq' hw.fr.1 (fun a ha => a5 a (by omega) (by omega) (by omega))
      obtain ⟨xm, xpc, xfs⟩ := x
      obtain ⟨⟨x1, x2, x3, x4, x5⟩, xl, xr⟩ := id hwx
      simp only at xl
      obtain ⟨h3, f1, f2, f3, f4, f5⟩ := p_turn hq hqt hst hR1 hse1 a2 w1 x1 w2 x2
      have k3 : ∀ a, a ≠ 17 → a ≠ 18 → (a < 23 ∨ 108 < a) → h3.1 a = h.1 a := fun a p q r => by rw [f4 a (by omega), a5 a p q (by omega)]
      have k3r : ∀ a, a ≠ 0 → h3.2 a = h.2 a := fun a ha => by rw [f5 a ha, a4]
      have hC3 : CK h3 ks ow bd := a3.er f5 (fun a ha => f4 a (by omega))
      -- the model
      have m14 : h3.1 119 14 = nI (ks.length + 1) := by rw [k3 119 (by omega) (by omega) (by omega), m7.1]; simp
      generalize hG0 : am_setI h3 119 14 (nI ks.length) = G0
      have hRG0 : RX G0 t s u v := by rw [← hG0]; exact f2.eq rfl
      have kG0 : ∀ a, a ≠ 119 → G0.1 a = h3.1 a := fun a ha => by rw [← hG0, ps_n ha]
      have jG0 : ∀ j, j ≠ 14 → G0.1 119 j = h.1 119 j := fun j hj => by rw [← hG0, ps_s, ps_un hj, k3 119 (by omega) (by omega) (by omega)]
      have hb' := q_bits (H := G0) hRG0 (mm := mm) (pc := pc) (fs := fs) (by rw [jG0 9 (by decide), hlen]; exact m5.1) w1 w2 (by rw [kG0 125 (by decide), k3 125 (by omega) (by omega) (by omega)]; exact hsm)
      have e37 := q_undo37 (n := ks.length) hRG0 (by omega) (by rw [← hG0, ps_s, ps_us]) (nI (mm.getD 17 0 % 4)) _ rfl
      have hxk := (m7.2.2 ks.length (xm, xpc, xfs) (by simp)).1
      have hsx : SeM ((am_fill G0 125 0 2202 (fun k => G0.1 127 (2202 * ks.length + k))).1 125) (xm, xpc, xfs) := by
        refine hxk.on hwx.1 (fun k hk => ?_)
        rw [pf_in (by omega) (by omega), Nat.sub_zero, kG0 127 (by decide), k3 127 (by omega) (by omega) (by omega)]
      generalize hG1 : am_fill G0 125 0 2202 (fun k => G0.1 127 (2202 * ks.length + k)) = G1 at e37 hsx
      have FG1 : Fr G0 G1 [125] := by rw [← hG1]; exact Fr.fill (by simp)
      obtain ⟨H, g1, g2, g3⟩ := q_stay (H := G1) (mm := mm) (hRG0.eq FG1.1) (m2 := xm) (by rw [FG1.2 119 (by decide), jG0 9 (by decide), xl]; exact m5.1) x1 x2 hsx
      have FH := FG1.tr g3
      have kH : ∀ a, a ≠ 125 → H.1 a = G0.1 a := fun a ha => FH.2 a (by simp [ha])
      have kHc : ∀ a, a < 119 → H.1 a = h3.1 a := fun a ha => by rw [kH a (by omega), kG0 a (by omega)]
      have kHm : ∀ a, 119 < a → a ≠ 125 → H.1 a = h.1 a := fun a p q => by rw [kH a q, kG0 a (by omega), k3 a (by omega) (by omega) (by omega)]
      have jH : ∀ j, j ≠ 14 → H.1 119 j = h.1 119 j := fun j hj => by rw [kH 119 (by decide)]; exact jG0 j hj
      have eHr : H.2 = h3.2 := by rw [FH.1, ← hG0]; rfl
      have kHr : ∀ a, a ≠ 0 → H.2 a = h.2 a := fun a ha => by rw [eHr]; exact k3r a ha
      refine ⟨nI ks.length, h3, H, ?_, ?_, ?_⟩
      · unfold fX8_undo
        rw [p_noStory hR c5 hl, am_bs, if_neg ho, if_pos (by decide), hR.r0_7, Option.bind_some, c6.2.1, if_pos (by simp only [List.length_append, List.length_cons, List.length_nil]; rw [pb_0lt (by omega)]; omega), Option.bind_some, hR.r0_6, Option.bind_some, hR.r0_9, Option.bind_some, a1, am_bs, f1, am_bs, f2.r0_7, Option.bind_some, hC3.2.1]
      · unfold fX9_undo
        rw [k3 119 (by omega) (by omega) (by omega), m5.1, if_neg hne, ← k3 119 (by omega) (by omega) (by omega), m14, if_neg (by rw [pb_eq0 (by omega)]; omega), pb_pred, am_let_eq, hG0, hb', am_bs, e37, g1, am_bs, kH 119 (by decide), ← hG0, ps_s, ps_us]
      · have f : ∀ (A : List Nat), (∀ a ∈ A, 119 < a ∧ a ≠ 125) → ∀ a ∈ A, H.1 a = h.1 a := fun A hA a ha => kHm a (hA a ha).1 (hA a ha).2
        have e : ∀ (J : List Nat), (∀ j ∈ J, j ≠ 14) → ∀ j ∈ J, H.1 119 j = h.1 119 j := fun J hJ j hj => jH j (hJ j hj)
        refine inv_turn (ss' := (sb mm xm, xpc, xfs)) (kp' := ks) (s' := t) (t' := s) (u' := u) (v' := v) hw hx hm ho (f2.eq eHr) ⟨hqt, hq, fun z => hst z.symm, hu, hv, huv⟩ kHr (fun a ha => ?_) (fun j hj => jH j (by omega)) (fun j _ => by rw [kHc 0 (by decide), k3 0 (by omega) (by omega) (by omega)]) (c2.eq (by rw [kHr 2 (by decide)]) (by rw [kHc 2 (by decide), k3 2 (by omega) (by omega) (by omega)]) (by rw [kHc 3 (by decide), k3 3 (by omega) (by omega) (by omega)])) (hC3.eq eHr (fun a ha => kHc a (by omega))) (f3.eq' x4 (fun a ha => kHc a (by omega))) (c8.er kHr (fun a ha => by rw [kHc a (by omega), k3 a (by omega) (by omega) (by omega)])) (by rw [kHc 0 (by decide), k3 0 (by omega) (by omega) (by omega)]; exact c9.2.2.1) (by rw [kHc 0 (by decide), k3 0 (by omega) (by omega) (by omega)]; exact c9.2.2.2) (m1.eq (e _ (by decide)) (f _ (by decide))) g2 ⟨?_, ?_, ?_⟩ (m8.eq (e _ (by decide)) (f _ (by decide))) (m9.eq (e _ (by decide)) (f _ (by decide))) hw.1.1 hwx.sb (fun y hy => hwk y (by simp [hy])) ⟨by omega, ?_⟩ hw.2.2.2.2.2.2.2.2.1 hw.2.2.2.2.2.2.2.2.2.1
        · by_cases ha2 : a < 119
          · rw [kHc a ha2, k3 a (by omega) (by omega) (by omega)]
          · exact kHm a (by omega) (by omega)
        · rw [kH 119 (by decide), ← hG0, ps_s, ps_us]
        · rw [jH 15 (by decide)]; exact m7.2.1
        · intro i y hy
          have hi := (List.getElem?_eq_some_iff.mp hy).1
          rw [kHm 127 (by decide) (by decide), kHm 128 (by decide) (by decide)]
          exact m7.2.2 i y (by rw [List.getElem?_append_left hi]; exact hy)
        · simp only [List.flatMap_append, List.length_append] at hkt
          omega
end UNDO
