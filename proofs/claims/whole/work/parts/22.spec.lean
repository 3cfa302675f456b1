/-! ===== the world that the two constructors make, and what its cells mean ===== -/
def RT : List (List (Option Nat)) := [[], [some 2], [some 3], [], [some 5, some 7, some 8, some 9], [some 6], [], [], [], [], [some 11], [], [some 13], [], [some 15, some 16], [], [], [some 18, some 20, some 21, some 22], [some 19], [], [], [], [], [some 24, some 25], [], [], [], [], [], [], [], [], [], [], [], [], [], [], [], [], [], [], [], [], [], [], [], [], [], [], [], [], [], [], [], [], [], [], [], [], [], [], [], [], [], [], [some 67, some 68], [], [], [], [], [], [], [], [], [], [], [], [], [], [], [], [], [], [], [], [], [], [], [], [], [], [], [], [], [], [], [], [], [], [], [], [], [], [], [], [], [], [], [some 110, some 112, some 113], [some 111], [], [], [], [some 115, some 117, some 118], [some 116], [], [], [], [some 120, none, some 121, none, some 122, none, none, some 123, some 124, none, some 125, some 126, some 127, some 128, none, none, some 129, none, some 130, none, none, none, some 131, some 132, some 133, none, some 134]]
def RF (s t u v a j : Nat) : Option Nat :=
  if a = 0 then ([some 1, some 4, some 2, some 5, some 10, some 12, some 14, some 17, some s, some t, some u, some v] : List (Option Nat)).getD j none
  else if a = 25 then (if j < 20 then some (26 + 2 * j) else none)
  else if a = 68 then (if j < 20 then some (69 + 2 * j) else none)
  else if 26 ≤ a ∧ a < 66 then (if a % 2 = 0 ∧ j = 0 then some (a + 1) else none)
  else if 69 ≤ a ∧ a < 109 then (if a % 2 = 1 ∧ j = 0 then some (a + 1) else none)
  else (RT.getD a []).getD j none
def RX (h : AH) (s t u v : Nat) : Prop := ∀ a j : Nat, a < 135 → j < 30 → h.2 a j = RF s t u v a j
theorem RX.eq {h h1 : AH} {s t u v : Nat} (hR : RX h s t u v) (he : h1.2 = h.2) : RX h1 s t u v := fun a j ha hj => by rw [he]; exact hR a j ha hj
theorem RX.r0_0 {h : AH} {s t u v : Nat} (hR : RX h s t u v) : h.2 0 0 = some 1 := hR 0 0 (by decide) (by decide)
theorem RX.r0_1 {h : AH} {s t u v : Nat} (hR : RX h s t u v) : h.2 0 1 = some 4 := hR 0 1 (by decide) (by decide)
theorem RX.r0_2 {h : AH} {s t u v : Nat} (hR : RX h s t u v) : h.2 0 2 = some 2 := hR 0 2 (by decide) (by decide)
theorem RX.r0_3 {h : AH} {s t u v : Nat} (hR : RX h s t u v) : h.2 0 3 = some 5 := hR 0 3 (by decide) (by decide)
theorem RX.r0_4 {h : AH} {s t u v : Nat} (hR : RX h s t u v) : h.2 0 4 = some 10 := hR 0 4 (by decide) (by decide)
theorem RX.r0_5 {h : AH} {s t u v : Nat} (hR : RX h s t u v) : h.2 0 5 = some 12 := hR 0 5 (by decide) (by decide)
theorem RX.r0_6 {h : AH} {s t u v : Nat} (hR : RX h s t u v) : h.2 0 6 = some 14 := hR 0 6 (by decide) (by decide)
theorem RX.r0_7 {h : AH} {s t u v : Nat} (hR : RX h s t u v) : h.2 0 7 = some 17 := hR 0 7 (by decide) (by decide)
theorem RX.r0_8 {h : AH} {s t u v : Nat} (hR : RX h s t u v) : h.2 0 8 = some s := hR 0 8 (by decide) (by decide)
theorem RX.r0_9 {h : AH} {s t u v : Nat} (hR : RX h s t u v) : h.2 0 9 = some t := hR 0 9 (by decide) (by decide)
theorem RX.r0_10 {h : AH} {s t u v : Nat} (hR : RX h s t u v) : h.2 0 10 = some u := hR 0 10 (by decide) (by decide)
theorem RX.r0_11 {h : AH} {s t u v : Nat} (hR : RX h s t u v) : h.2 0 11 = some v := hR 0 11 (by decide) (by decide)
theorem RX.r1_0 {h : AH} {s t u v : Nat} (hR : RX h s t u v) : h.2 1 0 = some 2 := hR 1 0 (by decide) (by decide)
theorem RX.r2_0 {h : AH} {s t u v : Nat} (hR : RX h s t u v) : h.2 2 0 = some 3 := hR 2 0 (by decide) (by decide)
theorem RX.r4_0 {h : AH} {s t u v : Nat} (hR : RX h s t u v) : h.2 4 0 = some 5 := hR 4 0 (by decide) (by decide)
theorem RX.r4_1 {h : AH} {s t u v : Nat} (hR : RX h s t u v) : h.2 4 1 = some 7 := hR 4 1 (by decide) (by decide)
theorem RX.r4_2 {h : AH} {s t u v : Nat} (hR : RX h s t u v) : h.2 4 2 = some 8 := hR 4 2 (by decide) (by decide)
theorem RX.r4_3 {h : AH} {s t u v : Nat} (hR : RX h s t u v) : h.2 4 3 = some 9 := hR 4 3 (by decide) (by decide)
theorem RX.r5_0 {h : AH} {s t u v : Nat} (hR : RX h s t u v) : h.2 5 0 = some 6 := hR 5 0 (by decide) (by decide)
theorem RX.r10_0 {h : AH} {s t u v : Nat} (hR : RX h s t u v) : h.2 10 0 = some 11 := hR 10 0 (by decide) (by decide)
theorem RX.r12_0 {h : AH} {s t u v : Nat} (hR : RX h s t u v) : h.2 12 0 = some 13 := hR 12 0 (by decide) (by decide)
theorem RX.r14_0 {h : AH} {s t u v : Nat} (hR : RX h s t u v) : h.2 14 0 = some 15 := hR 14 0 (by decide) (by decide)
theorem RX.r14_1 {h : AH} {s t u v : Nat} (hR : RX h s t u v) : h.2 14 1 = some 16 := hR 14 1 (by decide) (by decide)
theorem RX.r17_0 {h : AH} {s t u v : Nat} (hR : RX h s t u v) : h.2 17 0 = some 18 := hR 17 0 (by decide) (by decide)
theorem RX.r17_1 {h : AH} {s t u v : Nat} (hR : RX h s t u v) : h.2 17 1 = some 20 := hR 17 1 (by decide) (by decide)
theorem RX.r17_2 {h : AH} {s t u v : Nat} (hR : RX h s t u v) : h.2 17 2 = some 21 := hR 17 2 (by decide) (by decide)
theorem RX.r17_3 {h : AH} {s t u v : Nat} (hR : RX h s t u v) : h.2 17 3 = some 22 := hR 17 3 (by decide) (by decide)
theorem RX.r18_0 {h : AH} {s t u v : Nat} (hR : RX h s t u v) : h.2 18 0 = some 19 := hR 18 0 (by decide) (by decide)
theorem RX.r23_0 {h : AH} {s t u v : Nat} (hR : RX h s t u v) : h.2 23 0 = some 24 := hR 23 0 (by decide) (by decide)
theorem RX.r23_1 {h : AH} {s t u v : Nat} (hR : RX h s t u v) : h.2 23 1 = some 25 := hR 23 1 (by decide) (by decide)
theorem RX.r66_0 {h : AH} {s t u v : Nat} (hR : RX h s t u v) : h.2 66 0 = some 67 := hR 66 0 (by decide) (by decide)
theorem RX.r66_1 {h : AH} {s t u v : Nat} (hR : RX h s t u v) : h.2 66 1 = some 68 := hR 66 1 (by decide) (by decide)
theorem RX.r109_0 {h : AH} {s t u v : Nat} (hR : RX h s t u v) : h.2 109 0 = some 110 := hR 109 0 (by decide) (by decide)
theorem RX.r109_1 {h : AH} {s t u v : Nat} (hR : RX h s t u v) : h.2 109 1 = some 112 := hR 109 1 (by decide) (by decide)
theorem RX.r109_2 {h : AH} {s t u v : Nat} (hR : RX h s t u v) : h.2 109 2 = some 113 := hR 109 2 (by decide) (by decide)
theorem RX.r110_0 {h : AH} {s t u v : Nat} (hR : RX h s t u v) : h.2 110 0 = some 111 := hR 110 0 (by decide) (by decide)
theorem RX.r114_0 {h : AH} {s t u v : Nat} (hR : RX h s t u v) : h.2 114 0 = some 115 := hR 114 0 (by decide) (by decide)
theorem RX.r114_1 {h : AH} {s t u v : Nat} (hR : RX h s t u v) : h.2 114 1 = some 117 := hR 114 1 (by decide) (by decide)
theorem RX.r114_2 {h : AH} {s t u v : Nat} (hR : RX h s t u v) : h.2 114 2 = some 118 := hR 114 2 (by decide) (by decide)
theorem RX.r115_0 {h : AH} {s t u v : Nat} (hR : RX h s t u v) : h.2 115 0 = some 116 := hR 115 0 (by decide) (by decide)
theorem RX.r119_0 {h : AH} {s t u v : Nat} (hR : RX h s t u v) : h.2 119 0 = some 120 := hR 119 0 (by decide) (by decide)
theorem RX.r119_2 {h : AH} {s t u v : Nat} (hR : RX h s t u v) : h.2 119 2 = some 121 := hR 119 2 (by decide) (by decide)
theorem RX.r119_4 {h : AH} {s t u v : Nat} (hR : RX h s t u v) : h.2 119 4 = some 122 := hR 119 4 (by decide) (by decide)
theorem RX.r119_7 {h : AH} {s t u v : Nat} (hR : RX h s t u v) : h.2 119 7 = some 123 := hR 119 7 (by decide) (by decide)
theorem RX.r119_8 {h : AH} {s t u v : Nat} (hR : RX h s t u v) : h.2 119 8 = some 124 := hR 119 8 (by decide) (by decide)
theorem RX.r119_10 {h : AH} {s t u v : Nat} (hR : RX h s t u v) : h.2 119 10 = some 125 := hR 119 10 (by decide) (by decide)
theorem RX.r119_11 {h : AH} {s t u v : Nat} (hR : RX h s t u v) : h.2 119 11 = some 126 := hR 119 11 (by decide) (by decide)
theorem RX.r119_12 {h : AH} {s t u v : Nat} (hR : RX h s t u v) : h.2 119 12 = some 127 := hR 119 12 (by decide) (by decide)
theorem RX.r119_13 {h : AH} {s t u v : Nat} (hR : RX h s t u v) : h.2 119 13 = some 128 := hR 119 13 (by decide) (by decide)
theorem RX.r119_16 {h : AH} {s t u v : Nat} (hR : RX h s t u v) : h.2 119 16 = some 129 := hR 119 16 (by decide) (by decide)
theorem RX.r119_18 {h : AH} {s t u v : Nat} (hR : RX h s t u v) : h.2 119 18 = some 130 := hR 119 18 (by decide) (by decide)
theorem RX.r119_22 {h : AH} {s t u v : Nat} (hR : RX h s t u v) : h.2 119 22 = some 131 := hR 119 22 (by decide) (by decide)
theorem RX.r119_23 {h : AH} {s t u v : Nat} (hR : RX h s t u v) : h.2 119 23 = some 132 := hR 119 23 (by decide) (by decide)
theorem RX.r119_24 {h : AH} {s t u v : Nat} (hR : RX h s t u v) : h.2 119 24 = some 133 := hR 119 24 (by decide) (by decide)
theorem RX.r119_26 {h : AH} {s t u v : Nat} (hR : RX h s t u v) : h.2 119 26 = some 134 := hR 119 26 (by decide) (by decide)
theorem ln_3 : am_len GG 3 = 2000 := rfl
theorem ln_6 : am_len GG 6 = 8000 := rfl
theorem ln_7 : am_len GG 7 = 11 := rfl
theorem ln_8 : am_len GG 8 = 11 := rfl
theorem ln_9 : am_len GG 9 = 11 := rfl
theorem ln_11 : am_len GG 11 = 8000 := rfl
theorem ln_13 : am_len GG 13 = 3860 := rfl
theorem ln_15 : am_len GG 15 = 10 := rfl
theorem ln_16 : am_len GG 16 = 1000 := rfl
theorem ln_19 : am_len GG 19 = 10000 := rfl
theorem ln_20 : am_len GG 20 = 8 := rfl
theorem ln_21 : am_len GG 21 = 8 := rfl
theorem ln_22 : am_len GG 22 = 8 := rfl
theorem ln_24 : am_len GG 24 = 1000 := rfl
theorem ln_67 : am_len GG 67 = 1000 := rfl
theorem ln_111 : am_len GG 111 = 1600 := rfl
theorem ln_112 : am_len GG 112 = 8 := rfl
theorem ln_113 : am_len GG 113 = 8 := rfl
theorem ln_116 : am_len GG 116 = 1600 := rfl
theorem ln_117 : am_len GG 117 = 8 := rfl
theorem ln_118 : am_len GG 118 = 8 := rfl
theorem ln_120 : am_len GG 120 = 2000 := rfl
theorem ln_121 : am_len GG 121 = 8000 := rfl
theorem ln_122 : am_len GG 122 = 8000 := rfl
theorem ln_123 : am_len GG 123 = 10 := rfl
theorem ln_124 : am_len GG 124 = 1000 := rfl
theorem ln_125 : am_len GG 125 = 2202 := rfl
theorem ln_126 : am_len GG 126 = 2202 := rfl
theorem ln_127 : am_len GG 127 = 19818 := rfl
theorem ln_128 : am_len GG 128 = 9 := rfl
theorem ln_129 : am_len GG 129 = 1616 := rfl
theorem ln_130 : am_len GG 130 = 1616 := rfl
theorem ln_131 : am_len GG 131 = 16 := rfl
theorem ln_132 : am_len GG 132 = 16 := rfl
theorem ln_133 : am_len GG 133 = 16 := rfl
theorem ln_134 : am_len GG 134 = 8000 := rfl
/-- a session's place: one of two -/
def SQ (q : Nat) : Prop := q = 23 ∨ q = 66
theorem SQ.m {q : Nat} (hq : SQ q) : am_len GG (q + 1) = 1000 := by rcases hq with rfl | rfl <;> rfl
theorem SQ.f {q : Nat} (hq : SQ q) : am_len GG (q + 2) = 20 := by rcases hq with rfl | rfl <;> rfl
theorem SQ.row {q : Nat} (hq : SQ q) : ∀ i, i < 20 → am_len GG (q + 4 + 2 * i) = 55 := by rcases hq with rfl | rfl <;> decide +kernel
theorem SQ.rm {q : Nat} (hq : SQ q) {h : AH} {s t u v : Nat} (hR : RX h s t u v) : h.2 q 0 = some (q + 1) := by rcases hq with rfl | rfl <;> exact hR _ _ (by decide) (by decide)
theorem SQ.rf {q : Nat} (hq : SQ q) {h : AH} {s t u v : Nat} (hR : RX h s t u v) : h.2 q 1 = some (q + 2) := by rcases hq with rfl | rfl <;> exact hR _ _ (by decide) (by decide)
theorem SQ.ri {q : Nat} (hq : SQ q) {h : AH} {s t u v : Nat} (hR : RX h s t u v) {i : Nat} (hi : i < 20) : h.2 (q + 2) i = some (q + 3 + 2 * i) := by
  rcases hq with rfl | rfl
  · rw [hR _ _ (by decide) (by omega)]; simp [RF, hi]
  · rw [hR _ _ (by decide) (by omega)]; simp [RF, hi]
theorem SQ.rr {q : Nat} (hq : SQ q) {h : AH} {s t u v : Nat} (hR : RX h s t u v) {i : Nat} (hi : i < 20) : h.2 (q + 3 + 2 * i) 0 = some (q + 4 + 2 * i) := by
  rcases hq with rfl | rfl
  · rw [hR _ _ (by omega) (by decide)]
    unfold RF
    rw [if_neg (by omega), if_neg (by omega), if_neg (by omega), if_pos (by omega), if_pos (by omega)]
    congr 1; omega
  · rw [hR _ _ (by omega) (by decide)]
    unfold RF
    rw [if_neg (by omega), if_neg (by omega), if_neg (by omega), if_neg (by omega), if_pos (by omega), if_pos (by omega)]
    congr 1; omega
/-! a frame: back, result (none: thrown away), arguments, how many locals, the words: locals, then the stack -/
abbrev Fm : Type := Nat × Option Nat × Nat × Nat × List Nat
/-! a session: memory, pc, frames -/
abbrev Sn : Type := List Nat × Nat × List Fm
def rI (r : Option Nat) : Int32 := match r with
  | none => -2
  | some n => nI n
def FrX (f g : Nat → Int32) : Fm → Prop
  | (bk, re, ar, nl, ws) => f 1 = nI bk ∧ f 2 = rI re ∧ f 3 = nI ar ∧ f 4 = nI nl ∧ f 5 = nI (ws.length - nl) ∧ ∀ k, k < ws.length → g k = nI (ws.getD k 0)
def WFm : Fm → Prop
  | (bk, re, ar, nl, ws) => bk < 16777216 ∧ (∀ r, re = some r → r < 256) ∧ ar ≤ 7 ∧ nl ≤ 15 ∧ nl ≤ ws.length ∧ ws.length ≤ nl + 40 ∧ ∀ w ∈ ws, w < 65536
def SeX (h : AH) (q : Nat) : Sn → Prop
  | (mm, pc, fs) => h.1 q 2 = nI mm.length ∧ h.1 q 3 = nI pc ∧ h.1 q 4 = nI fs.length ∧ (∀ i, i < mm.length → h.1 (q + 1) i = nI (mm.getD i 0)) ∧ ∀ (i : Nat) (fm : Fm), fs[i]? = some fm → FrX (h.1 (q + 3 + 2 * i)) (h.1 (q + 4 + 2 * i)) fm
def WSn : Sn → Prop
  | (mm, pc, fs) => mm.length ≤ 1000 ∧ (∀ b ∈ mm, b < 256) ∧ pc < 16777216 ∧ fs.length ≤ 20 ∧ ∀ fm ∈ fs, WFm fm
def FrM (g : Nat → Int32) (o : Nat) : Fm → Prop
  | (bk, re, ar, nl, ws) => g o = nI bk ∧ g (o + 1) = rI re ∧ g (o + 2) = nI ar ∧ g (o + 3) = nI nl ∧ g (o + 4) = nI (ws.length - nl) ∧ ∀ k, k < ws.length → g (o + 5 + k) = nI (ws.getD k 0)
def SeM (g : Nat → Int32) : Sn → Prop
  | (mm, pc, fs) => (∀ i, i < mm.length → g i = nI (mm.getD i 0)) ∧ g 1000 = nI pc ∧ g 1001 = nI fs.length ∧ ∀ (i : Nat) (fm : Fm), fs[i]? = some fm → FrM g (1002 + 60 * i) fm
