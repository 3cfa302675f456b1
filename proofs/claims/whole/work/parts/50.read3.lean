/-! ===== a file is read: what, and the class ===== -/
section READ3
variable {h : AH} {s t u v : Nat}
abbrev Sg2 : Type := List (Nat × List Nat)
abbrev Rd : Type := Bool × Bool × Bool × Sn × Sg2
def headBad (bs hd : List Nat) (o : Nat) : Nat → Nat → Option Nat
  | 0, _ => none
  | n + 1, i => if bs.getD (o + i) 0 = hd.getD i 0 then headBad bs hd o n (i + 1) else some i
def rdMem (bs ow : List Nat) (a n name : Nat) (ss : Sn) : Ex Sn :=
  if name = 1129145709 then (match rdB bs (a + 8 + n) am_fuel (a + 8) 0 ow with
    | .ok mm => .ok (mm, ss.2)
    | .error p => .error p)
  else if n = ow.length then .ok ((bs.drop (a + 8)).take n, ss.2) else .error (7, a + 4)
def rdC (bs hd ow : List Nat) (a n name : Nat) : Rd → Ex Rd
  | (A, M, D, ss, st) =>
    if name = 1229351012 then (if A = true then .ok (A, M, D, ss, st) else if n ≠ 13 then .error (6, a + 4) else match headBad bs hd (a + 8) 10 0 with
      | some k => .error (6, a + 8 + k)
      | none => .ok (true, M, D, (ss.1, nbA bs 3 (a + 18) 0, ss.2.2), st))
    else if name = 1129145709 ∨ name = 1431135597 then (if M = true then .ok (A, M, D, ss, st) else if A = false then .error (5, a) else match rdMem bs ow a n name ss with
      | .ok ss' => .ok (A, true, D, ss', st)
      | .error p => .error p)
    else if name = 1400138611 then (if D = true then .ok (A, M, D, ss, st) else match rdD bs (a + 8 + n) 20 (a + 8) [] with
      | .ok fs => .ok (A, M, true, (ss.1, ss.2.1, fs), st)
      | .error p => .error p)
    else if st.length = 8 ∨ 200 < n then .error (9, a) else .ok (A, M, D, ss, st ++ [(name, (bs.drop (a + 8)).take n)])
def rdAll (bs hd ow : List Nat) : Nat → Nat → Rd → Ex (Sn × Sg2)
  | 0, _, _ => .error (0, 0)
  | z + 1, a, S =>
    if bs.length ≤ a then (if S.1 = true ∧ S.2.1 = true ∧ S.2.2.1 = true then .ok S.2.2.2 else .error (10, bs.length))
    else if bs.length < a + 8 then .error (1, bs.length)
    else if bs.length < a + 8 + nbA bs 4 (a + 4) 0 + nbA bs 4 (a + 4) 0 % 2 then .error (1, bs.length)
    else if nbA bs 4 (a + 4) 0 % 2 = 1 ∧ bs.getD (a + 8 + nbA bs 4 (a + 4) 0) 0 ≠ 0 then .error (4, a + 8 + nbA bs 4 (a + 4) 0)
    else match rdC bs hd ow a (nbA bs 4 (a + 4) 0) (nbA bs 4 a 0) S with
      | .error p => .error p
      | .ok S' => rdAll bs hd ow z (a + 8 + nbA bs 4 (a + 4) 0 + nbA bs 4 (a + 4) 0 % 2) S'
def rdFile (bs hd ow : List Nat) : Ex (Sn × Sg2) :=
  if bs.length < 12 then .error (1, bs.length)
  else if nbA bs 4 0 0 ≠ 1179603533 then .error (2, 0)
  else if nbA bs 4 4 0 ≠ bs.length - 8 then .error (3, 4)
  else if nbA bs 4 8 0 ≠ 1229347411 then .error (2, 8)
  else rdAll bs hd ow 250 12 (false, false, false, (ow, 0, [(0, some 0, 0, 0, [])]), [])
/-- what holds while it is read -/
def IR (ow : List Nat) : Rd → Prop
  | (_, M, _, ss, st) => WS ow ss ∧ (M = false → ss.1 = ow) ∧ st.length ≤ 8 ∧ ∀ x ∈ st, x.1 < 4294967296 ∧ By x.2 ∧ x.2.length ≤ 200
theorem rdB_inv {bs : List Nat} (hb : By bs) {e : Nat} : ∀ (z a i : Nat) (mm m' : List Nat), By mm → rdB bs e z a i mm = .ok m' → m'.length = mm.length ∧ By m'
  | 0, a, i, mm, m', hm, hr => by cases hr; exact ⟨rfl, hm⟩
  | z + 1, a, i, mm, m', hm, hr => by
    rw [rdB] at hr
    split at hr
    · cases hr; exact ⟨rfl, hm⟩
    · split at hr
      · split at hr
        · split at hr
          · exact rdB_inv hb z _ _ _ _ hm hr
          · cases hr
        · cases hr
      · split at hr
        · have := rdB_inv hb z _ _ _ _ (fun b hb' => by
            rcases List.mem_or_eq_of_mem_set hb' with hz | rfl
            · exact hm b hz
            · exact xor_lt (getD_lt hm i) (getD_lt hb a)) hr
          simpa using this
        · cases hr
theorem rdD_inv {bs : List Nat} (hb : By bs) {e : Nat} : ∀ (n a : Nat) (fs fs' : List Fm), n + fs.length = 20 → (∀ fm ∈ fs, WFm fm) → (fs ≠ [] → ∃ ws r, fs = (0, some 0, 0, 0, ws) :: r) → rdD bs e n a fs = .ok fs' → (∀ fm ∈ fs', WFm fm) ∧ fs'.length ≤ 20 ∧ ∃ ws r, fs' = (0, some 0, 0, 0, ws) :: r
  | 0, a, fs, fs', hn, hw, hf, hr => by
    rw [rdD] at hr
    split at hr
    · cases hr
      exact ⟨hw, by omega, hf (fun z => by rw [z] at hn; simp at hn)⟩
    · cases hr
  | n + 1, a, fs, fs', hn, hw, hf, hr => by
    rw [rdD] at hr
    split at hr
    · next hc =>
      cases hr
      exact ⟨hw, by omega, hf hc.1⟩
    · split at hr
      · cases hr
      · next fm hF =>
        have hwf := frOf_wf hb hF
        refine rdD_inv hb n _ (fs ++ [fm]) fs' (by simp; omega) (fun x hx => ?_) (fun _ => ?_) hr
        · rcases List.mem_append.mp hx with hz | hz
          · exact hw x hz
          · simp at hz; subst hz; exact hwf
        · by_cases he : fs = []
          · subst he
            obtain ⟨ws, hh⟩ := frOf_first hF
            exact ⟨ws, [], by simp [hh]⟩
          · obtain ⟨ws, r, hh⟩ := hf he
            exact ⟨ws, r ++ [fm], by simp [hh]⟩
theorem cut_by {bs : List Nat} (hb : By bs) {o n : Nat} : By ((bs.drop o).take n) := fun b h => hb b (List.mem_of_mem_drop (List.mem_of_mem_take h))
theorem rdC_inv {bs hd ow : List Nat} (hb : By bs) (bo : By ow) {a n name : Nat} (hname : name < 4294967296) (hl : a + 8 + n ≤ bs.length) {S S' : Rd} (hI : IR ow S) (hr : rdC bs hd ow a n name S = .ok S') : IR ow S' := by
  obtain ⟨A, M, D, ⟨mm, pc, fs⟩, st⟩ := S
  obtain ⟨⟨⟨w1, w2, w3, w4, w5⟩, hlen, hfst⟩, i2, i3, i4⟩ := id hI
  rw [rdC] at hr
  split at hr
  · split at hr
    · cases hr; exact hI
    · split at hr
      · cases hr
      · split at hr
        · cases hr
        · cases hr
          exact ⟨⟨⟨w1, w2, nb3_lt hb _, w4, w5⟩, hlen, hfst⟩, i2, i3, i4⟩
  · split at hr
    · split at hr
      · cases hr; exact hI
      · split at hr
        · cases hr
        · split at hr
          · next ss' hm =>
            cases hr
            unfold rdMem at hm
            split at hm
            · split at hm
              · next m' hB =>
                cases hm
                obtain ⟨q1, q2⟩ := rdB_inv hb _ _ _ _ _ bo hB
                simp only at hlen
                exact ⟨⟨⟨by omega, q2, w3, w4, w5⟩, q1, hfst⟩, (fun z => by cases z), i3, i4⟩
              · cases hm
            · split at hm
              · next hn =>
                cases hm
                have hcl : ((bs.drop (a + 8)).take n).length = n := by simp; omega
                simp only at hlen
                exact ⟨⟨⟨by omega, cut_by hb, w3, w4, w5⟩, by simp only; omega, hfst⟩, (fun z => by cases z), i3, i4⟩
              · cases hm
          · cases hr
    · split at hr
      · split at hr
        · cases hr; exact hI
        · split at hr
          · next fs' hD =>
            cases hr
            obtain ⟨q1, q2, q3⟩ := rdD_inv hb 20 _ [] fs' rfl (fun x hx => by simp at hx) (fun z => absurd rfl z) hD
            exact ⟨⟨⟨w1, w2, w3, q2, q1⟩, hlen, q3⟩, i2, i3, i4⟩
          · cases hr
      · split at hr
        · cases hr
        · next hc =>
          cases hr
          refine ⟨⟨⟨w1, w2, w3, w4, w5⟩, hlen, hfst⟩, i2, by simp; omega, fun x hx => ?_⟩
          rcases List.mem_append.mp hx with hz | hz
          · exact i4 x hz
          · simp at hz
            subst hz
            exact ⟨hname, cut_by hb, by simp; omega⟩
def b2 (b : Bool) : Int32 := if b = true then nI 1 else nI 0
theorem b2_0 {b : Bool} : (b2 b = 0) = (b = false) := by
  cases b
  · simp only [b2]; decide
  · simp only [b2]; decide
/-- the class while it reads -/
def CR (h : AH) (s t u v : Nat) (bs hd ow : List Nat) (a : Nat) : Rd → Prop
  | (A, M, D, ss, st) => RX h s t u v ∧ Byt h 2 3 2000 bs ∧ CS h hd ow ∧ SeX h t ss ∧ CG h v st ∧ h.1 1 1 = b2 A ∧ h.1 1 2 = b2 M ∧ h.1 1 3 = b2 D ∧ h.1 1 4 = nI a
/-- what the class's reading changes -/
def RF2 (h h1 : AH) (t v : Nat) : Prop := h1.2 = h.2 ∧ ∀ a, a ≠ 1 → (a < t ∨ t + 42 < a) → (a < v ∨ v + 4 < a) → h1.1 a = h.1 a
theorem RF2.rf {h : AH} {t v : Nat} : RF2 h h t v := ⟨rfl, fun _ _ _ _ => rfl⟩
theorem RF2.tr {h h1 h2 : AH} {t v : Nat} (a : RF2 h h1 t v) (b : RF2 h1 h2 t v) : RF2 h h2 t v := ⟨b.1.trans a.1, fun x p q r => (b.2 x p q r).trans (a.2 x p q r)⟩
theorem nI_inj32 {a b : Nat} (ha : a < 4294967296) (hb : b < 4294967296) : (nI a = nI b) = (a = b) := by
  apply propext
  refine ⟨fun e => ?_, fun e => by rw [e]⟩
  have := congrArg uN e
  rw [uN_nI (by omega), uN_nI (by omega)] at this
  exact this
theorem nI_neg {a : Nat} (ha : a < 4294967296) : (nI a < 0) = (2147483648 ≤ a) := by
  apply propext
  rw [Int32.lt_iff_toInt_lt, uN_int, uN_nI (by omega)]
  have : (0 : Int32).toInt = 0 := by decide
  rw [this]
  split <;> omega
theorem nI_neg_le {a b : Nat} (ha : a < 4294967296) (h2 : 2147483648 ≤ a) (hb : b < 2 ^ 31) : True := trivial
theorem p_headAt {hd ow : List Nat} (hR : RX h s t u v) (hS : CS h hd ow) (hl : hd.length = 10) {i : Nat} (hi : i < 10) : fX5_headAt GG 14 (nI i) h = some (nI (hd.getD i 0), h) := by
  unfold fX5_headAt
  rw [if_neg (nI_pos (by omega)), hR.r14_0, Option.bind_some, ln_15, if_neg (by rw [pb_le (by omega) (by omega)]; omega), Option.bind_some, ln_15, if_pos (pb_ok hi (by decide)), pb_cl (by omega), hS.2.1 i (by omega)]
theorem p_readHead_loop {bs hd ow : List Nat} {o : Nat} (hR : RX h s t u v) (hB : Byt h 2 3 2000 bs) (hb : By bs) (hS : CS h hd ow) (hl : hd.length = 10) (bh : By hd) (ho : o ≤ 2000) : ∀ (n i z : Nat), i + n = 10 → n < z → fX3_readHead_30 GG z 1 14 t (nI o) (nI i) h = match headBad bs hd o n i with
    | some k => some (fcode (6, o + k), h)
    | none => some (nI 0, am_setI (am_setI h t 3 (nI (nbA bs 3 (o + 10) 0))) 1 1 (nI 1))
  | n, i, 0, _, hz => by omega
  | 0, i, z + 1, hi, _ => by
    rw [fX3_readHead_30, if_pos (by rw [pb_le (by omega) (by omega)]; omega), hR.r1_0, Option.bind_some, pb_add, p_number ln_3 (by decide) hB hb (by omega) (by decide), am_bs, am_let_eq, am_let_eq]
    rfl
  | n + 1, i, z + 1, hi, hz => by
    have h1 := getD_lt hb (o + i)
    have h2 := getD_lt bh i
    rw [fX3_readHead_30, if_neg (by rw [pb_le (by omega) (by omega)]; omega), hR.r1_0, Option.bind_some, pb_add, p_at hB ln_3 (by decide) (by omega), am_bs, p_headAt hR hS hl (by omega), am_bs, headBad]
    by_cases c : bs.getD (o + i) 0 = hd.getD i 0
    · rw [if_pos c, if_pos (by rw [c]), pb_add]
      exact p_readHead_loop hR hB hb hS hl bh ho n (i + 1) z (by omega) (by omega)
    · rw [if_neg c, if_neg (by rw [pb_eq (by omega) (by omega)]; exact c), p_fault (by decide) (by omega), am_bs]
theorem p_takeMemory_loop {x o pc n : Nat} {bs : List Nat} {fs : List Fm} (hx : SQ x) (hb : By bs) (ho : o + n ≤ bs.length) (hbl : bs.length ≤ 2000) (hn : n ≤ 1000) : ∀ (m i z : Nat) (h : AH) (mm : List Nat), RX h s t u v → Byt h 2 3 2000 bs → SeX h x (mm, pc, fs) → mm.length = n → (∀ k, k < i → mm.getD k 0 = bs.getD (o + k) 0) → i + m = n → m < z → ∃ h1, fX4_takeMemory_2 GG z x 2 (nI o) (nI i) h = some ((), h1) ∧ SeX h1 x ((bs.drop o).take n, pc, fs) ∧ Fr h h1 [x + 1]
  | m, i, 0, h, mm, _, _, _, _, _, _, hz => by omega
  | 0, i, z + 1, h, mm, hR, hB, hs, hl, hk, hi, _ => by
    refine ⟨h, ?_, ?_, Fr.rf⟩
    · rw [fX4_takeMemory_2, hs.1, if_pos (by rw [pb_le (by omega) (by omega)]; omega)]
    · have : mm = (bs.drop o).take n := by
        apply List.ext_getElem (by simp; omega)
        intro k h1 h2
        have e1 := hk k (by omega)
        have e2 := getD_cut (a := bs) (o := o) (n := n) (i := k) (by omega)
        rw [List.getD_eq_getElem?_getD, List.getElem?_eq_getElem h1] at e1
        rw [List.getD_eq_getElem?_getD, List.getElem?_eq_getElem h2] at e2
        simp only [Option.getD_some] at e1 e2
        rw [e1, e2]
      rw [← this]
      exact hs
  | m + 1, i, z + 1, h, mm, hR, hB, hs, hl, hk, hi, hz => by
    have hx' : x = 23 ∨ x = 66 := hx
    obtain ⟨h1, e1, e2, e3⟩ := p_takeMemory_loop hx hb ho hbl hn m (i + 1) z (am_setI h (x + 1) i (nI (bs.getD (o + i) 0))) (mm.set i (bs.getD (o + i) 0)) (hR.eq rfl) (hB.eq rfl (ps_n (by omega)) (ps_n (by omega))) (hs.mem (by omega)) (by simpa using hl) (fun k hk' => by
      by_cases he : k = i
      · subst he
        simp [List.getD, show k < mm.length by omega]
      · rw [List.getD_eq_getElem?_getD, List.getElem?_set_ne (fun z => he z.symm), ← List.getD_eq_getElem?_getD]
        exact hk k (by omega)) (by omega) (by omega)
    refine ⟨h1, ?_, e2, (Fr.set (by simp)).tr e3⟩
    refine Eq.trans ?_ e1
    rw [fX4_takeMemory_2, hs.1, if_neg (by rw [pb_le (by omega) (by omega)]; omega), pb_add, p_at hB ln_3 (by decide) (by omega), am_bs, p_setByte hx hR hs.1 (by omega) (by omega), am_bs, pb_add]
theorem p_sadd {bs : List Nat} {st : Sg2} {name o n : Nat} (hv : TQ v) (hR : RX h s t u v) (hB : Byt h 2 3 2000 bs) (hC : CG h v st) (hst : st.length ≤ 8) (hs : ∀ x ∈ st, x.2.length ≤ 200) (ho : o + n ≤ bs.length) (hbl : bs.length ≤ 2000) : ∃ h1, fX6_add GG v (nI name) 2 (nI o) (nI n) h = some (if st.length = 8 ∨ 200 < n then nI 0 else nI 1, h1) ∧ (¬ (st.length = 8 ∨ 200 < n) → CG h1 v (st ++ [(name, (bs.drop o).take n)])) ∧ Fr h h1 [v, v + 1, v + 2, v + 3, v + 4] := by
  have hv' : v = 109 ∨ v = 114 := hv
  obtain ⟨c1, c2, c3⟩ := id hC
  unfold fX6_add
  rw [c2, if_neg (nI_pos (by omega))]
  by_cases h8 : st.length = 8
  · rw [if_pos (by rw [pb_le (by omega) (by omega)]; omega), if_pos (Or.inl h8)]
    exact ⟨h, rfl, fun z => absurd (Or.inl h8) z, Fr.rf⟩
  · rw [if_neg (by rw [pb_le (by omega) (by omega)]; omega)]
    by_cases hn : 200 < n
    · rw [if_neg (by rw [pb_le (by omega) (by omega)]; omega), if_pos (Or.inr hn)]
      exact ⟨h, rfl, fun z => absurd (Or.inr hn) z, Fr.rf⟩
    · have hno : ¬ (st.length = 8 ∨ 200 < n) := by omega
      rw [if_pos (by rw [pb_le (by omega) (by omega)]; omega), if_neg hno]
      have hflat : ∀ l : Sg2, (∀ x ∈ l, x.2.length ≤ 200) → (l.flatMap (fun x => x.2)).length ≤ 200 * l.length := by
        intro l
        induction l with
        | nil => intro _; simp
        | cons y l ih =>
          intro hy
          have h1 := ih (fun z hz => hy z (List.mem_cons_of_mem _ hz))
          have h2 := hy y List.mem_cons_self
          rw [List.flatMap_cons, List.length_append, List.length_cons]
          omega
      have hfl := hflat st hs
      generalize hh1 : am_setI h (v + 3) st.length (nI name) = h1
      generalize hh2 : am_setI h1 (v + 4) st.length (nI n) = h2
      have hR1 : RX h1 s t u v := by rw [← hh1]; exact hR.eq rfl
      have hR2 : RX h2 s t u v := by rw [← hh2]; exact hR1.eq rfl
      have k2 : ∀ a, a ≠ v + 3 → a ≠ v + 4 → h2.1 a = h.1 a := fun a p q => by rw [← hh2, ps_n q, ← hh1, ps_n p]
      have e21 : h1.1 v 3 = nI st.length := by rw [← hh1, ps_n (by omega)]; exact c2
      have hB2 : Byt h2 2 3 2000 bs := hB.eq (by rw [← hh2, ← hh1]; rfl) (k2 2 (by omega) (by omega)) (k2 3 (by omega) (by omega))
      have hC2 : Byt h2 (v + 1) (v + 2) 1600 (st.flatMap (fun x => x.2)) := c1.eq (by rw [← hh2, ← hh1]; rfl) (k2 _ (by omega) (by omega)) (k2 _ (by omega) (by omega))
      obtain ⟨h3, a1, a2, a3⟩ := p_addPart (Γ := GG) hC2 hB2 hv.l ln_3 (by decide) (by decide) (by omega) (by omega) (o := o) (n := n) ho (by omega)
      have k3 : ∀ a, a ≠ v + 1 → a ≠ v + 2 → h3.1 a = h2.1 a := fun a p q => a3.2 a (by simp [p, q])
      have e3 : h3.1 v 3 = nI st.length := by rw [k3 v (by omega) (by omega), k2 v (by omega) (by omega)]; exact c2
      refine ⟨am_setI h3 v 3 (nI (st.length + 1)), ?_, fun _ => ⟨?_, ?_, ?_⟩, ?_⟩
      · rw [hv.r1 hR, Option.bind_some, hv.l3, if_pos (pb_ok (by omega) (by decide)), pb_cl (by omega), am_let_eq, hh1, hv.r2 hR1, Option.bind_some, e21, hv.l4, if_pos (pb_ok (by omega) (by decide)), pb_cl (by omega), am_let_eq, hh2, hv.r0 hR2, Option.bind_some, a1, am_bs, e3, pb_add, am_let_eq]
      · have : (st ++ [(name, (bs.drop o).take n)]).flatMap (fun x => x.2) = st.flatMap (fun x => x.2) ++ (bs.drop o).take n := by simp
        rw [this]
        exact a2.eq rfl (ps_n (by omega)) (ps_n (by omega))
      · rw [ps_s, ps_us]; simp
      · intro i x hx
        have hlt := (List.getElem?_eq_some_iff.mp hx).1
        simp at hlt
        rw [ps_n (by omega), ps_n (by omega), k3 (v + 3) (by omega) (by omega), k3 (v + 4) (by omega) (by omega)]
        have e33 : h2.1 (v + 3) = upd (h.1 (v + 3)) st.length (nI name) := by rw [← hh2, ps_n (by omega), ← hh1, ps_s]
        have e34 : h2.1 (v + 4) = upd (h.1 (v + 4)) st.length (nI n) := by rw [← hh2, ps_s, ← hh1, ps_n (by omega)]
        rw [e33, e34]
        by_cases he : i = st.length
        · subst he
          simp at hx
          subst hx
          rw [ps_us, ps_us]
          refine ⟨rfl, ?_⟩
          congr 1
          simp
          omega
        · rw [List.getElem?_append_left (by omega)] at hx
          rw [ps_un he, ps_un he]
          exact c3 i x hx
      · have A3 := a3
        rw [← hh2, ← hh1] at A3
        exact (((Fr.set (h := h) (a := v + 3) (by simp)).tr (Fr.set (by simp))).tr (A3.mo (by simp))).tr (Fr.set (by simp))
end READ3
