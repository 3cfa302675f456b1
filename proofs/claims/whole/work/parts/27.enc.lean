/-! ===== runs and frames as bytes ===== -/
theorem zrun_0 : zrun 0 = [] := rfl
theorem zrun_step {z : Nat} (hz : 0 < z) : zrun z = [0, min z 256 - 1] ++ zrun (z - 256) := by
  unfold zrun
  by_cases h : z < 256
  · have h1 : z / 256 = 0 := by omega
    have h2 : (z - 256) / 256 = 0 := by omega
    have h3 : z % 256 = z := by omega
    have h4 : (z - 256) % 256 = 0 := by omega
    rw [h1, h2, h3, h4, if_neg (by omega), if_pos rfl]
    simp
    omega
  · have h1 : z / 256 = (z - 256) / 256 + 1 := by omega
    have h3 : z % 256 = (z - 256) % 256 := by omega
    have h4 : min z 256 - 1 = 255 := by omega
    rw [h1, h3, h4, List.replicate_succ, List.flatten_cons, List.append_assoc]
theorem zrun_len (z : Nat) : (zrun z).length = 2 * (z / 256) + (if z % 256 = 0 then 0 else 2) := by
  unfold zrun
  rw [List.length_append]
  congr 1
  · induction z / 256 with
    | zero => rfl
    | succ k ih => rw [List.replicate_succ, List.flatten_cons, List.length_append, ih]; simp; omega
  · split <;> rfl
theorem zrun_by (z : Nat) : By (zrun z) := by
  unfold zrun
  intro b hb
  rcases List.mem_append.mp hb with h | h
  · obtain ⟨l, hl, hb⟩ := List.mem_flatten.mp h
    rw [List.eq_of_mem_replicate hl] at hb
    simp at hb
    omega
  · split at h
    · simp at h
    · simp at h
      omega
theorem encB_len : ∀ (ms os : List Nat) (z : Nat), 2 * (encB ms os z).length ≤ 3 * (ms.length + z)
  | [], os, z => by simp [encB]
  | m :: ms, [], z => by simp [encB]
  | m :: ms, o :: os, z => by
    unfold encB
    split
    · have := encB_len ms os (z + 1)
      simp only [List.length_cons]
      omega
    · have h1 := encB_len ms os 0
      have h2 := zrun_len z
      simp only [List.length_append, List.length_cons]
      split at h2 <;> omega
theorem xor_lt {a b : Nat} (ha : a < 256) (hb : b < 256) : a ^^^ b < 256 := Nat.xor_lt_two_pow (n := 8) ha hb
theorem encB_by : ∀ (ms os : List Nat) (z : Nat), By ms → By os → By (encB ms os z)
  | [], os, z, _, _ => by simp [encB, By]
  | m :: ms, [], z, _, _ => by simp [encB, By]
  | m :: ms, o :: os, z, hm, ho => by
    have hm' : By ms := fun b hb => hm b (List.mem_cons_of_mem _ hb)
    have ho' : By os := fun b hb => ho b (List.mem_cons_of_mem _ hb)
    unfold encB
    split
    · exact encB_by ms os _ hm' ho'
    · intro b hb
      rcases List.mem_append.mp hb with h | h
      · exact zrun_by z b h
      · rcases List.mem_cons.mp h with rfl | h
        · exact xor_lt (hm m List.mem_cons_self) (ho o List.mem_cons_self)
        · exact encB_by ms os 0 hm' ho' b h
theorem flat2_len (ws : List Nat) : (ws.flatMap (fun w => be w 2)).length = 2 * ws.length := by
  induction ws with
  | nil => rfl
  | cons w ws ih => rw [List.flatMap_cons, List.length_append, ih, be_len]; simp; omega
theorem encF_len (fm : Fm) : (encF fm).length = 8 + 2 * fm.2.2.2.2.length := by
  obtain ⟨bk, re, ar, nl, ws⟩ := fm
  simp only [encF, List.length_append, be_len, flat2_len, List.length_cons, List.length_nil]
  omega
theorem encF_by {fm : Fm} (hw : WFm fm) : By (encF fm) := by
  obtain ⟨bk, re, ar, nl, ws⟩ := fm
  obtain ⟨w1, w2, w3, w4, w5, w6, w7⟩ := hw
  intro b hb
  simp only [encF, List.mem_append] at hb
  rcases hb with h | h | h | h
  · exact be_lt _ _ b h
  · simp at h
    rcases h with rfl | rfl | rfl
    · split <;> omega
    · cases re with
      | none => simp
      | some r => simp; exact w2 r rfl
    · have : 2 ^ ar ≤ 2 ^ 7 := Nat.pow_le_pow_right (by decide) w3
      omega
  · exact be_lt _ _ b h
  · obtain ⟨w, hw, hb⟩ := List.mem_flatMap.mp h
    exact be_lt _ _ b hb
theorem encD_len : ∀ (fs : List Fm), (∀ fm ∈ fs, WFm fm) → (encD fs).length ≤ 118 * fs.length
  | [], _ => by simp [encD]
  | fm :: fs, h => by
    have h1 := encD_len fs (fun x hx => h x (List.mem_cons_of_mem _ hx))
    have h2 := encF_len fm
    have h3 := h fm List.mem_cons_self
    obtain ⟨bk, re, ar, nl, ws⟩ := fm
    obtain ⟨-, -, -, w4, -, w6, -⟩ := h3
    simp only at h2
    unfold encD at h1 ⊢
    rw [List.flatMap_cons, List.length_append, List.length_cons]
    omega
theorem encD_by (fs : List Fm) (h : ∀ fm ∈ fs, WFm fm) : By (encD fs) := by
  intro b hb
  obtain ⟨fm, hf, hb⟩ := List.mem_flatMap.mp hb
  exact encF_by (h fm hf) b hb
theorem encS_len {ow : List Nat} {s : Sn} (hs : WSn s) : (encS ow s).length ≤ 3860 := by
  obtain ⟨mm, pc, fs⟩ := s
  obtain ⟨w1, w2, w3, w4, w5⟩ := hs
  have h1 := encB_len mm ow 0
  have h2 := encD_len fs w5
  simp only [encS, List.length_append]
  omega
