/-! ===== what a state is: of both, in the same words ===== -/
/-- the tape; the out; the disk; the cut; head and bytes of the story; the session; the kept ones; the bound; the strangers; code and place; the chunks -/
abbrev Sg : Type := List Nat × List Nat × Option (List Nat) × Option Nat × List Nat × List Nat × Sn × List Sn × Nat × List (Nat × List Nat) × Nat × Option Nat × List (Nat × Nat × Nat)
/-- z 0s, as runs -/
def zrun (z : Nat) : List Nat := (List.replicate (z / 256) [0, 255]).flatten ++ (if z % 256 = 0 then [] else [0, z % 256 - 1])
def encB : List Nat → List Nat → Nat → List Nat
  | m :: ms, o :: os, z => if m ^^^ o = 0 then encB ms os (z + 1) else zrun z ++ (m ^^^ o) :: encB ms os 0
  | _, _, _ => []
def encF : Fm → List Nat
  | (bk, re, ar, nl, ws) => be bk 3 ++ ([nl + (if re = none then 16 else 0), re.getD 0, 2 ^ ar - 1] ++ (be (ws.length - nl) 2 ++ ws.flatMap (fun w => be w 2)))
def encD (fs : List Fm) : List Nat := fs.flatMap encF
def encS (ow : List Nat) (s : Sn) : List Nat := encB s.1 ow 0 ++ encD s.2.2
def TQ (u : Nat) : Prop := u = 109 ∨ u = 114
/-! the class -/
def CO (h : AH) (ou : List Nat) (ch : List (Nat × Nat × Nat)) : Prop := Byt h 5 6 8000 ou ∧ h.1 4 4 = nI ch.length ∧ ch.length ≤ 11 ∧ ∀ (i : Nat) (c : Nat × Nat × Nat), ch[i]? = some c → h.1 7 i = nI c.1 ∧ h.1 8 i = nI c.2.1 ∧ h.1 9 i = nI c.2.2
def CD (h : AH) (dk : Option (List Nat)) : Prop := ∀ d, dk = some d → Byt h 10 11 8000 d
def CS (h : AH) (hd ow : List Nat) : Prop := h.1 14 2 = nI ow.length ∧ Arr (h.1 15) hd ∧ Arr (h.1 16) ow
def CK (h : AH) (kp : List Sn) (ow : List Nat) (bd : Nat) : Prop := Byt h 18 19 10000 (kp.flatMap (encS ow)) ∧ h.1 17 4 = nI kp.length ∧ h.1 17 5 = nI bd ∧ ∀ (i : Nat) (s : Sn), kp[i]? = some s → h.1 20 i = nI (encB s.1 ow 0).length ∧ h.1 21 i = nI (encS ow s).length ∧ h.1 22 i = nI s.2.1
def CG (h : AH) (u : Nat) (st : List (Nat × List Nat)) : Prop := Byt h (u + 1) (u + 2) 1600 (st.flatMap (fun x => x.2)) ∧ h.1 u 3 = nI st.length ∧ ∀ (i : Nat) (x : Nat × List Nat), st[i]? = some x → h.1 (u + 3) i = nI x.1 ∧ h.1 (u + 4) i = nI x.2.length
def CZ (f : Nat → Int32) (dk : Option (List Nat)) (ct : Option Nat) (cd : Nat) (pl : Option Nat) : Prop := f 12 = (match dk with | none => nI 0 | some _ => nI 1) ∧ f 13 = rI ct ∧ f 14 = nI cd ∧ f 15 = rI pl
def CX (h : AH) (s t u v : Nat) : Sg → Prop
  | (tp, ou, dk, ct, hd, ow, ss, kp, bd, st, cd, pl, ch) => RX h s t u v ∧ (SQ s ∧ SQ t ∧ s ≠ t ∧ TQ u ∧ TQ v ∧ u ≠ v) ∧ Byt h 2 3 2000 tp ∧ CO h ou ch ∧ CD h dk ∧ CS h hd ow ∧ CK h kp ow bd ∧ SeX h s ss ∧ CG h u st ∧ CZ (h.1 0) dk ct cd pl
/-! the model -/
def MK (h : AH) (kp : List Sn) (ow : List Nat) (bd : Nat) : Prop := h.1 119 14 = nI kp.length ∧ h.1 119 15 = nI bd ∧ ∀ (i : Nat) (s : Sn), kp[i]? = some s → SeM (fun k => h.1 127 (2202 * i + k)) s ∧ h.1 128 i = nI (encS ow s).length
def MG (h : AH) (st : List (Nat × List Nat)) : Prop := h.1 119 17 = nI st.length ∧ ∀ (i : Nat) (x : Nat × List Nat), st[i]? = some x → h.1 129 (202 * i) = nI x.1 ∧ h.1 129 (202 * i + 1) = nI x.2.length ∧ ∀ k, k < x.2.length → h.1 129 (202 * i + 2 + k) = nI (x.2.getD k 0)
def MC (h : AH) (ch : List (Nat × Nat × Nat)) : Prop := h.1 119 25 = nI ch.length ∧ ∀ (i : Nat) (c : Nat × Nat × Nat), ch[i]? = some c → h.1 131 i = nI c.1 ∧ h.1 132 i = nI c.2.1 ∧ h.1 133 i = nI c.2.2
def MT (h : AH) (tp : List Nat) : Prop := h.1 119 1 = nI tp.length ∧ Arr (h.1 120) tp
def MO (h : AH) (ou : List Nat) : Prop := h.1 119 3 = nI ou.length ∧ Arr (h.1 121) ou
def MD (h : AH) (dk : Option (List Nat)) : Prop := h.1 119 5 = rI (dk.map List.length) ∧ ∀ d, dk = some d → Arr (h.1 122) d
def MU (h : AH) (ct : Option Nat) : Prop := h.1 119 6 = rI ct
def MS (h : AH) (hd ow : List Nat) : Prop := h.1 119 9 = nI ow.length ∧ Arr (h.1 123) hd ∧ Arr (h.1 124) ow
def MN (h : AH) (ow : List Nat) (ss : Sn) : Prop := ow ≠ [] → SeM (h.1 125) ss
def MZ (h : AH) (cd : Nat) (pl : Option Nat) : Prop := h.1 119 20 = nI cd ∧ h.1 119 21 = rI pl
def MX (h : AH) (s t u v : Nat) : Sg → Prop
  | (tp, ou, dk, ct, hd, ow, ss, kp, bd, st, cd, pl, ch) => RX h s t u v ∧ MT h tp ∧ MO h ou ∧ MD h dk ∧ MU h ct ∧ MS h hd ow ∧ MN h ow ss ∧ MK h kp ow bd ∧ MG h st ∧ MZ h cd pl ∧ MC h ch
/-! what holds of every state -/
def By (bs : List Nat) : Prop := ∀ b ∈ bs, b < 256
/-- a session of this story: as long, its frames begin with the first one -/
def WS (ow : List Nat) (s : Sn) : Prop := WSn s ∧ s.1.length = ow.length ∧ ∃ (ws : List Nat) (r : List Fm), s.2.2 = (0, some 0, 0, 0, ws) :: r
def WF : Sg → Prop
  | (tp, ou, dk, ct, hd, ow, ss, kp, bd, st, cd, pl, ch) => (By tp ∧ tp.length ≤ 2000) ∧ (By ou ∧ ou.length ≤ 8000) ∧ (∀ d, dk = some d → By d ∧ d.length ≤ 8000) ∧ (∀ n, ct = some n → n < 2147483648) ∧ (By hd ∧ hd.length ≤ 10 ∧ (ow ≠ [] → hd.length = 10)) ∧ (By ow ∧ ow.length ≤ 1000) ∧ ((ow = [] → ss = ([], 0, []) ∧ kp = [] ∧ st = []) ∧ (ow ≠ [] → WS ow ss ∧ ∀ s ∈ kp, WS ow s)) ∧ (kp.length ≤ 8 ∧ bd ≤ 10000 ∧ (kp.flatMap (encS ow)).length ≤ bd) ∧ (st.length ≤ 8 ∧ ∀ x ∈ st, x.1 < 4294967296 ∧ By x.2 ∧ x.2.length ≤ 200) ∧ (cd ≤ 10 ∧ ∀ p, pl = some p → p ≤ 2000) ∧ (ch.length ≤ 11 ∧ ∀ c ∈ ch, c.1 < 4294967296 ∧ c.2.1 ≤ 8000 ∧ c.2.2 ≤ 8000)
/-! nothing has changed of the other's cells -/
def KeepM (h h1 : AH) : Prop := ∀ a, 119 ≤ a → h1.1 a = h.1 a
def KeepX (h h1 : AH) : Prop := h1.2 = h.2 ∧ ∀ a, a < 119 → h1.1 a = h.1 a
theorem Byt.eq {h h1 : AH} {q c N : Nat} {bs : List Nat} (hB : Byt h q c N bs) (h2 : h1.2 q 0 = h.2 q 0) (hq : h1.1 q = h.1 q) (hc : h1.1 c = h.1 c) : Byt h1 q c N bs := by
  obtain ⟨b1, b2, b3, b4⟩ := hB
  exact ⟨by rw [h2]; exact b1, b2, by rw [hq]; exact b3, fun i hi => by rw [hc]; exact b4 i hi⟩
theorem CO.eq {h h1 : AH} {ou : List Nat} {ch : List (Nat × Nat × Nat)} (hC : CO h ou ch) (h2 : h1.2 = h.2) (he : ∀ a, a = 4 ∨ a = 5 ∨ a = 6 ∨ a = 7 ∨ a = 8 ∨ a = 9 → h1.1 a = h.1 a) : CO h1 ou ch := by
  obtain ⟨c1, c2, c3, c4⟩ := hC
  refine ⟨c1.eq (by rw [h2]) (he 5 (by simp)) (he 6 (by simp)), by rw [he 4 (by simp)]; exact c2, c3, fun i c hc => ?_⟩
  rw [he 7 (by simp), he 8 (by simp), he 9 (by simp)]
  exact c4 i c hc
theorem CD.eq {h h1 : AH} {dk : Option (List Nat)} (hC : CD h dk) (h2 : h1.2 = h.2) (he : ∀ a, a = 10 ∨ a = 11 → h1.1 a = h.1 a) : CD h1 dk := fun d hd => (hC d hd).eq (by rw [h2]) (he 10 (by simp)) (he 11 (by simp))
theorem CS.eq {h h1 : AH} {hd ow : List Nat} (hC : CS h hd ow) (he : ∀ a, a = 14 ∨ a = 15 ∨ a = 16 → h1.1 a = h.1 a) : CS h1 hd ow := by
  unfold CS
  rw [he 14 (by simp), he 15 (by simp), he 16 (by simp)]
  exact hC
theorem CK.eq {h h1 : AH} {kp : List Sn} {ow : List Nat} {bd : Nat} (hC : CK h kp ow bd) (h2 : h1.2 = h.2) (he : ∀ a, 17 ≤ a ∧ a ≤ 22 → h1.1 a = h.1 a) : CK h1 kp ow bd := by
  obtain ⟨c1, c2, c3, c4⟩ := hC
  refine ⟨c1.eq (by rw [h2]) (he 18 (by omega)) (he 19 (by omega)), by rw [he 17 (by omega)]; exact c2, by rw [he 17 (by omega)]; exact c3, fun i s hs => ?_⟩
  rw [he 20 (by omega), he 21 (by omega), he 22 (by omega)]
  exact c4 i s hs
theorem SeX.eq {h h1 : AH} {s : Nat} (hq : SQ s) {ss : Sn} (hC : SeX h s ss) (hn : ss.2.2.length ≤ 20) (he : ∀ a, 23 ≤ a ∧ a ≤ 108 → h1.1 a = h.1 a) : SeX h1 s ss := by
  obtain ⟨mm, pc, fs⟩ := ss
  obtain ⟨c1, c2, c3, c4, c5⟩ := hC
  have hs : 23 ≤ s ∧ s ≤ 66 := by rcases hq with rfl | rfl <;> decide
  refine ⟨by rw [he s (by omega)]; exact c1, by rw [he s (by omega)]; exact c2, by rw [he s (by omega)]; exact c3, fun i hi => by rw [he (s + 1) (by omega)]; exact c4 i hi, fun i fm hi => ?_⟩
  have hlt := (List.getElem?_eq_some_iff.mp hi).1
  simp only at hn
  rw [he (s + 3 + 2 * i) (by omega), he (s + 4 + 2 * i) (by omega)]
  exact c5 i fm hi
theorem CG.eq {h h1 : AH} {u : Nat} (hq : TQ u) {st : List (Nat × List Nat)} (hC : CG h u st) (h2 : h1.2 = h.2) (he : ∀ a, 109 ≤ a ∧ a ≤ 118 → h1.1 a = h.1 a) : CG h1 u st := by
  obtain ⟨c1, c2, c3⟩ := hC
  have hs : 109 ≤ u ∧ u ≤ 114 := by rcases hq with rfl | rfl <;> decide
  refine ⟨c1.eq (by rw [h2]) (he _ (by omega)) (he _ (by omega)), by rw [he u (by omega)]; exact c2, fun i x hx => ?_⟩
  rw [he (u + 3) (by omega), he (u + 4) (by omega)]
  exact c3 i x hx
theorem MT.eq {h h1 : AH} {tp : List Nat} (hp : MT h tp) (e : ∀ j ∈ ([1] : List Nat), h1.1 119 j = h.1 119 j) (f : ∀ a ∈ ([120] : List Nat), h1.1 a = h.1 a) : MT h1 tp := by
  unfold MT
  rw [e 1 (by decide), f 120 (by decide)]
  exact hp
theorem MO.eq {h h1 : AH} {ou : List Nat} (hp : MO h ou) (e : ∀ j ∈ ([3] : List Nat), h1.1 119 j = h.1 119 j) (f : ∀ a ∈ ([121] : List Nat), h1.1 a = h.1 a) : MO h1 ou := by
  unfold MO
  rw [e 3 (by decide), f 121 (by decide)]
  exact hp
theorem MD.eq {h h1 : AH} {dk : Option (List Nat)} (hp : MD h dk) (e : ∀ j ∈ ([5] : List Nat), h1.1 119 j = h.1 119 j) (f : ∀ a ∈ ([122] : List Nat), h1.1 a = h.1 a) : MD h1 dk := by
  unfold MD
  rw [e 5 (by decide), f 122 (by decide)]
  exact hp
theorem MU.eq {h h1 : AH} {ct : Option Nat} (hp : MU h ct) (e : ∀ j ∈ ([6] : List Nat), h1.1 119 j = h.1 119 j) (f : ∀ a ∈ ([] : List Nat), h1.1 a = h.1 a) : MU h1 ct := by
  unfold MU
  rw [e 6 (by decide)]
  exact hp
theorem MS.eq {h h1 : AH} {hd ow : List Nat} (hp : MS h hd ow) (e : ∀ j ∈ ([9] : List Nat), h1.1 119 j = h.1 119 j) (f : ∀ a ∈ ([123, 124] : List Nat), h1.1 a = h.1 a) : MS h1 hd ow := by
  unfold MS
  rw [e 9 (by decide), f 123 (by decide), f 124 (by decide)]
  exact hp
theorem MN.eq {h h1 : AH} {ow : List Nat} {ss : Sn} (hp : MN h ow ss) (e : ∀ j ∈ ([] : List Nat), h1.1 119 j = h.1 119 j) (f : ∀ a ∈ ([125] : List Nat), h1.1 a = h.1 a) : MN h1 ow ss := by
  unfold MN
  rw [f 125 (by decide)]
  exact hp
theorem MK.eq {h h1 : AH} {kp : List Sn} {ow : List Nat} {bd : Nat} (hp : MK h kp ow bd) (e : ∀ j ∈ ([14, 15] : List Nat), h1.1 119 j = h.1 119 j) (f : ∀ a ∈ ([127, 128] : List Nat), h1.1 a = h.1 a) : MK h1 kp ow bd := by
  unfold MK
  rw [e 14 (by decide), e 15 (by decide), f 127 (by decide), f 128 (by decide)]
  exact hp
theorem MG.eq {h h1 : AH} {st : List (Nat × List Nat)} (hp : MG h st) (e : ∀ j ∈ ([17] : List Nat), h1.1 119 j = h.1 119 j) (f : ∀ a ∈ ([129] : List Nat), h1.1 a = h.1 a) : MG h1 st := by
  unfold MG
  rw [e 17 (by decide), f 129 (by decide)]
  exact hp
theorem MZ.eq {h h1 : AH} {cd : Nat} {pl : Option Nat} (hp : MZ h cd pl) (e : ∀ j ∈ ([20, 21] : List Nat), h1.1 119 j = h.1 119 j) (f : ∀ a ∈ ([] : List Nat), h1.1 a = h.1 a) : MZ h1 cd pl := by
  unfold MZ
  rw [e 20 (by decide), e 21 (by decide)]
  exact hp
theorem MC.eq {h h1 : AH} {ch : List (Nat × Nat × Nat)} (hp : MC h ch) (e : ∀ j ∈ ([25] : List Nat), h1.1 119 j = h.1 119 j) (f : ∀ a ∈ ([131, 132, 133] : List Nat), h1.1 a = h.1 a) : MC h1 ch := by
  unfold MC
  rw [e 25 (by decide), f 131 (by decide), f 132 (by decide), f 133 (by decide)]
  exact hp
