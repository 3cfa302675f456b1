/-! ===== fields, rows, calls ===== -/
def am_ok (i : Int32) (n : Nat) : Bool := decide (0 ≤ i) && decide (i.toNatClampNeg < n)
theorem am_ok_in {i : Int32} {n : Nat} (h : am_ok i n = true) : vp_in i n := by
  simp only [am_ok, Bool.and_eq_true, decide_eq_true_eq] at h
  intro q
  rcases q with q | q
  · exact absurd h.1 (Int32.not_le.mpr q)
  · omega
def am_okc (sp dp n : Int32) (ns nd : Nat) : Bool := decide (0 ≤ sp) && decide (0 ≤ dp) && decide (0 ≤ n) && decide (sp.toNatClampNeg + n.toNatClampNeg ≤ ns) && decide (dp.toNatClampNeg + n.toNatClampNeg ≤ nd)
/-- what a class's fields are: of the table, and of the words -/
def am_FC (ci : Nat) (C : String) (T : u_T) (N : Nat) : Prop := ci < 10 ∧ vwCl[ci]? = some (C, T, N) ∧ N = am_nf ci ∧ ∀ w ∈ u_ws C T N, w ∈ am_T
def am_FL (own : String) (idx ci j : Nat) : Prop := ∃ (C : String) (T : u_T) (N : Nat), am_FC ci C T N ∧ j < N ∧ (Cond.fieldLink own idx (T j).1 (T j).2.1 (T j).2.2.1 ∈ am_T ∨ ∃ host, Cond.fieldLinkNest own idx (T j).1 (T j).2.1 (T j).2.2.1 host ∈ am_nw)
def am_FP (own : String) (idx ci j : Nat) (ty : FieldType) (fin : Bool) : Prop := ∃ (C : String) (T : u_T) (N : Nat) (ty0 : Nat → FieldType), am_FC ci C T N ∧ j < N ∧ (Cond.fieldLink own idx (T j).1 (T j).2.1 (T j).2.2.1 ∈ am_T ∨ ((∃ host, Cond.fieldLinkNest own idx (T j).1 (T j).2.1 (T j).2.2.1 host ∈ am_nw) ∧ fin = false)) ∧
  (∀ k, k < N → parseFieldDescriptor (T k).2.2.1 = some (ty0 k)) ∧ (∀ a, a < N → ∀ b, b < N → a ≠ b → (T a).2.1 ≠ (T b).2.1) ∧ parseFieldDescriptor (T j).2.2.1 = some ty ∧ (T j).2.2.2 = fin ∧ (fin = true → (T j).1 = own)
theorem am_fl_of_fp {own : String} {idx ci j : Nat} {ty : FieldType} {fin : Bool} (h : am_FP own idx ci j ty fin) : am_FL own idx ci j := by
  obtain ⟨C, T, N, ty0, h1, h2, h3, -⟩ := h
  exact ⟨C, T, N, h1, h2, h3.imp id (fun q => q.1)⟩
section AMH
variable {l : Launch} {M : AMt} {res : ARs} {k n pc q : Nat} {L : List (Option Value)} {st : List Value} {Γ : Gm} {h : AH} {ρ : Type} {A B : Option ρ} {rr : ρ}
theorem am_getV {idx ci j a nn : Nat} (fl : am_FL M.2.2.2.1 idx ci j) (hd : decode M.1 pc = .ok (.getfield idx, 3)) (hk : Γ[a]? = some (ci, nn)) {p : Program} {e : Env} {s : State} {m : MethodId} {args : Array Value} {below : List Frame} {meth : Method} {c : Code} {base : Nat} {D : va_G} {cI cF : ClassId} {H : Heap} {locs : List Loc} {ls : Array Slot} {Q : State → Prop} {R : Room} {rest : List Value}
    (C : am_Cx M p s m args meth c base D cI cF) (hW : am_Wd D cI cF base Γ h H) (kk : W p l e R s m args below meth c H locs k n Q (F0 m (pc + 3) ls (am_fld base ci a h j :: rest))) : W p l e R s m args below meth c H locs k n Q (F0 m pc ls (.ref (base + a) :: rest)) := by
  obtain ⟨CC, T, N, ⟨hc, hv, hN, hin⟩, hj, hl⟩ := fl
  have he : (am_ws cI cF base Γ h)[a]? = some (base + a, .inr (ci, (List.range (am_nf ci)).map (am_fld base ci a h))) := by rw [am_at hk, am_cell_O hc]
  rcases hl with hl | ⟨host, hl⟩
  · exact va_get C.1 C.2.1 C.2.2.2.2.2.1 hin C.2.2.2.2.1 C.2.2.2.2.2.2.2.2.1 hW.2 a he hv j hj (C.2.2.2.2.2.1 _ hl) (fun _ x => x) (am_fs_at (by rw [← hN]; exact hj)) hd kk
  · exact va_getN C.1 C.2.1 C.2.2.2.2.2.1 hin C.2.2.2.2.1 C.2.2.2.2.2.2.2.2.1 hW.2 a he hv j hj (va_Nw.use rfl (C.2.2.2.2.2.2.2.2.2.1.1 _ hl)) (fun _ x => x) (am_fs_at (by rw [← hN]; exact hj)) hd kk
theorem a_getI {idx ci j a nn : Nat} (fl : am_FL M.2.2.2.1 idx ci j) (hd : decode M.1 pc = .ok (.getfield idx, 3)) (hq : pc + 3 = q) (hk : Γ[a]? = some (ci, nn)) (h9 : am_fk ci j = 99) (kk : AW l M res k n q L (.int (h.1 a j) :: st) Γ h) : AW l M res k n pc L (.ref a :: st) Γ h := by
  subst hq
  intro p e s m args below meth c base D cI cF H locs ls C hW hS hL
  refine am_getV fl hd hk C hW ?_
  rw [show am_fld base ci a h j = .int (h.1 a j) by simp [am_fld, h9]]
  exact kk p e s m args below meth c base D cI cF H locs ls C hW hS hL
theorem a_getR {idx ci j a nn κ : Nat} {K : Nat → Option ρ} (fl : am_FL M.2.2.2.1 idx ci j) (hd : decode M.1 pc = .ok (.getfield idx, 3)) (hq : pc + 3 = q) (hk : Γ[a]? = some (ci, nn)) (h9 : am_fk ci j = κ) (h8 : κ ≠ 99) (hf : (h.2 a j).bind K = some rr) (kk : ∀ b nb : Nat, h.2 a j = some b → Γ[b]? = some (κ, nb) → K b = some rr → AW l M res k n q L (.ref b :: st) Γ h) : AW l M res k n pc L (.ref a :: st) Γ h := by
  subst hq
  subst h9
  intro p e s m args below meth c base D cI cF H locs ls C hW hS hL
  obtain ⟨b, hb, hf⟩ := Option.bind_eq_some_iff.mp hf
  obtain ⟨nb, hnb⟩ := hW.1 a _ j b hk hb h8
  refine am_getV fl hd hk C hW ?_
  rw [show am_fld base ci a h j = .ref (base + b) by simp [am_fld, h8, hb, va_rf]]
  exact kk b nb hb hnb hf p e s m args below meth c base D cI cF H locs ls C hW hS hL
theorem am_putV {idx ci j a nn : Nat} {ty : FieldType} {fin : Bool} {h' : AH} {v : Value} (fp : am_FP M.2.2.2.1 idx ci j ty fin) (hfi : fin = true → M.2.2.2.2.1 = true) (hd : decode M.1 pc = .ok (.putfield idx, 3)) (hk : Γ[a]? = some (ci, nn)) {p : Program} {e : Env} {s : State} {m : MethodId} {args : Array Value} {below : List Frame} {meth : Method} {c : Code} {base : Nat} {D : va_G} {cI cF : ClassId} {H : Heap} {locs : List Loc} {ls : Array Slot} {Q : State → Prop} {R : Room} {rest : List Value}
    (hn : narrow ty v = v) (hft : fits ty v = true) (hT : am_WT Γ h') (h1 : ∀ b, b ≠ a → h'.1 b = h.1 b) (h2 : ∀ b, b ≠ a → h'.2 b = h.2 b) (hv' : am_fld base ci a h' j = v) (ho : ∀ i, i ≠ j → am_fld base ci a h' i = am_fld base ci a h i)
    (C : am_Cx M p s m args meth c base D cI cF) (hW : am_Wd D cI cF base Γ h H) (hS : am_S base s k Γ H locs) (kk : ∀ H1 locs1, am_Wd D cI cF base Γ h' H1 → am_S base s k Γ H1 locs1 → W p l e R s m args below meth c H1 locs1 k n Q (F0 m (pc + 3) ls rest)) : W p l e R s m args below meth c H locs k n Q (F0 m pc ls (v :: .ref (base + a) :: rest)) := by
  obtain ⟨CC, T, N, ty0, ⟨hc, hv, hN, hin⟩, hj, hl, hty, hnm, hpd, hfn, hfo⟩ := fp
  have he : (am_ws cI cF base Γ h)[a]? = some (base + a, .inr (ci, (List.range (am_nf ci)).map (am_fld base ci a h))) := by rw [am_at hk, am_cell_O hc]
  have hset : (am_ws cI cF base Γ h).set a (base + a, .inr (ci, ((List.range (am_nf ci)).map (am_fld base ci a h)).set j v)) = am_ws cI cF base Γ h' := am_ws_set hk h1 h2 (by rw [am_cell_O hc, am_fs_set hv' ho])
  have hlen : j < ((List.range (am_nf ci)).map (am_fld base ci a h)).length := by simp; omega
  have go : ∀ (H1 : Heap) (locs1 : List Loc), va_P D vwCl ((am_ws cI cF base Γ h).set a (base + a, .inr (ci, ((List.range (am_nf ci)).map (am_fld base ci a h)).set j v))) H1 → va_S (fun q => base ≤ q) s.heap H1 locs1 → W p l e R s m args below meth c H1 locs1 k n Q (F0 m (pc + 3) ls rest) := fun H1 locs1 a1 a2 => kk H1 locs1 ⟨hT, hset ▸ a1⟩ ⟨a2, hS.2⟩
  cases fin with
  | false =>
    rcases hl with hl | ⟨⟨host, hl⟩, -⟩
    · exact va_put C.1 C.2.1 C.2.2.2.2.2.1 hin ty0 hty hnm C.2.2.2.2.1 C.2.2.2.2.2.2.2.2.1 hW.2 am_D hS.1 a he hv j hj (C.2.2.2.2.2.1 _ hl) (fun _ x => x) hfn hpd hn hft hlen hd (fun H1 locs1 a1 _ a3 => go H1 locs1 a1 a3)
    · exact va_putN C.1 C.2.1 C.2.2.2.2.2.1 hin ty0 hty hnm C.2.2.2.2.1 C.2.2.2.2.2.2.2.2.1 hW.2 am_D hS.1 a he hv j hj (va_Nw.use rfl (C.2.2.2.2.2.2.2.2.2.1.1 _ hl)) (fun _ x => x) hfn hpd hn hft hlen hd (fun H1 locs1 a1 _ a3 => go H1 locs1 a1 a3)
  | true =>
    rcases hl with hl | ⟨-, hl⟩
    · exact va_putF C.1 C.2.1 C.2.2.2.2.2.1 hin ty0 hty hnm C.2.2.2.2.1 C.2.2.2.2.2.2.2.2.1 hW.2 am_D hS.1 a he hv j hj (C.2.2.2.2.2.1 _ hl) (fun _ x => x) hfn (C.2.2.2.2.2.2.2.1 (hfi rfl)) (hfo rfl) hpd hn hft hlen hd (fun H1 locs1 a1 _ a3 => go H1 locs1 a1 a3)
    · cases hl
theorem am_fld_setI {base ci a j : Nat} {h : AH} {x : Int32} (h9 : am_fk ci j = 99) : am_fld base ci a (am_setI h a j x) j = .int x ∧ ∀ i, i ≠ j → am_fld base ci a (am_setI h a j x) i = am_fld base ci a h i := by
  refine ⟨by simp [am_fld, h9, am_setI, upd], fun i hi => ?_⟩
  simp [am_fld, am_setI, upd, hi]
theorem am_fld_setR {base ci a j b : Nat} {h : AH} (h9 : am_fk ci j ≠ 99) : am_fld base ci a (am_setR h a j (some b)) j = .ref (base + b) ∧ ∀ i, i ≠ j → am_fld base ci a (am_setR h a j (some b)) i = am_fld base ci a h i := by
  refine ⟨by simp [am_fld, h9, am_setR, va_up, va_rf], fun i hi => ?_⟩
  simp [am_fld, am_setR, va_up, hi]
theorem am_WT_setI {a j : Nat} {x : Int32} (hT : am_WT Γ h) : am_WT Γ (am_setI h a j x) := hT
theorem am_WT_cpy {a b i j m : Nat} (hT : am_WT Γ h) : am_WT Γ (am_cpy h a b i j m) := hT
theorem am_WT_setR {a j ci nn b nb : Nat} (hT : am_WT Γ h) (hk : Γ[a]? = some (ci, nn)) (hb : Γ[b]? = some (am_fk ci j, nb)) : am_WT Γ (am_setR h a j (some b)) := by
  intro a' kd j' b' h1 h2 h3
  by_cases ha : a' = a
  · subst ha
    rw [hk] at h1
    cases h1
    by_cases hj : j' = j
    · subst hj
      simp only [am_setR, va_up, if_true] at h2
      cases h2
      exact ⟨_, hb⟩
    · simp only [am_setR, va_up, if_true, if_neg hj] at h2
      exact hT _ _ _ _ hk h2 h3
  · simp only [am_setR, if_neg ha] at h2
    exact hT _ _ _ _ h1 h2 h3
theorem a_putI {idx ci j a nn : Nat} {x : Int32} (fp : am_FP M.2.2.2.1 idx ci j .int false) (hd : decode M.1 pc = .ok (.putfield idx, 3)) (hq : pc + 3 = q) (hk : Γ[a]? = some (ci, nn)) (h9 : am_fk ci j = 99) {K : AH → Option ρ} (hf : am_let (am_setI h a j x) K = some rr) (kk : ∀ h1 : AH, K h1 = some rr → AW l M res k n q L st Γ h1) : AW l M res k n pc L (.int x :: .ref a :: st) Γ h := by
  subst hq
  have kk := kk _ hf
  intro p e s m args below meth c base D cI cF H locs ls C hW hS hL
  exact am_putV (v := .int x) (h := h) (h' := am_setI h a j x) fp (fun z => by cases z) hd hk rfl rfl (am_WT_setI hW.1) (fun b hb => by simp [am_setI, hb]) (fun b hb => rfl) (am_fld_setI h9).1 (am_fld_setI h9).2 C hW hS (fun H1 locs1 a1 a2 => kk p e s m args below meth c base D cI cF H1 locs1 ls C a1 a2 hL)
theorem a_putZ {idx ci j a nn : Nat} {x : Int32} (fp : am_FP M.2.2.2.1 idx ci j .boolean false) (hd : decode M.1 pc = .ok (.putfield idx, 3)) (hq : pc + 3 = q) (hk : Γ[a]? = some (ci, nn)) (h9 : am_fk ci j = 99) (hx : x = 0 ∨ x = 1) {K : AH → Option ρ} (hf : am_let (am_setI h a j x) K = some rr) (kk : ∀ h1 : AH, K h1 = some rr → AW l M res k n q L st Γ h1) : AW l M res k n pc L (.int x :: .ref a :: st) Γ h := by
  subst hq
  have kk := kk _ hf
  intro p e s m args below meth c base D cI cF H locs ls C hW hS hL
  exact am_putV (v := .int x) (h := h) (h' := am_setI h a j x) fp (fun z => by cases z) hd hk (am_z hx) (by rcases hx with rfl | rfl <;> rfl) (am_WT_setI hW.1) (fun b hb => by simp [am_setI, hb]) (fun b hb => rfl) (am_fld_setI h9).1 (am_fld_setI h9).2 C hW hS (fun H1 locs1 a1 a2 => kk p e s m args below meth c base D cI cF H1 locs1 ls C a1 a2 hL)
theorem a_putR {idx ci j a nn b nb : Nat} {ty : FieldType} {fin : Bool} (fp : am_FP M.2.2.2.1 idx ci j ty fin) (hfi : fin = true → M.2.2.2.2.1 = true) (hn : ∀ z : Nat, narrow ty (.ref z) = .ref z) (hft : ∀ z : Nat, fits ty (.ref z) = true) (hd : decode M.1 pc = .ok (.putfield idx, 3)) (hq : pc + 3 = q) (hk : Γ[a]? = some (ci, nn)) (h9 : am_fk ci j ≠ 99) (hb : Γ[b]? = some (am_fk ci j, nb)) {K : AH → Option ρ} (hf : am_let (am_setR h a j (some b)) K = some rr) (kk : ∀ h1 : AH, K h1 = some rr → AW l M res k n q L st Γ h1) : AW l M res k n pc L (.ref b :: .ref a :: st) Γ h := by
  subst hq
  have kk := kk _ hf
  intro p e s m args below meth c base D cI cF H locs ls C hW hS hL
  exact am_putV (v := .ref (base + b)) (h := h) (h' := am_setR h a j (some b)) fp hfi hd hk (hn _) (hft _) (am_WT_setR hW.1 hk hb) (fun b hb => rfl) (fun b hb => by simp [am_setR, hb]) (am_fld_setR h9).1 (am_fld_setR h9).2 C hW hS (fun H1 locs1 a1 a2 => kk p e s m args below meth c base D cI cF H1 locs1 ls C a1 a2 hL)
/-! rows of ints -/
theorem a_alen {a nn : Nat} (hd : decode M.1 pc = .ok (.arraylength, 1)) (hq : pc + 1 = q) (hk : Γ[a]? = some (10, nn)) (kk : AW l M res k n q L (.int (nI (am_len Γ a)) :: st) Γ h) : AW l M res k n pc L (.ref a :: st) Γ h := by
  subst hq
  rw [am_len_of hk] at kk
  intro p e s m args below meth c base D cI cF H locs ls C hW hS hL
  exact va_alen C.1 C.2.1 C.2.2.2.2.2.2.2.2.1 hW.2 a 0 (by rw [am_at hk, am_cell_I]) rfl (v := nI nn) rfl hd (kk p e s m args below meth c base D cI cF H locs ls C hW hS hL)
theorem a_alenF {a nn : Nat} (hd : decode M.1 pc = .ok (.arraylength, 1)) (hq : pc + 1 = q) (hk : Γ[a]? = some (11, nn)) (kk : AW l M res k n q L (.int (nI (am_len Γ a)) :: st) Γ h) : AW l M res k n pc L (.ref a :: st) Γ h := by
  subst hq
  rw [am_len_of hk] at kk
  intro p e s m args below meth c base D cI cF H locs ls C hW hS hL
  exact va_alen C.1 C.2.1 C.2.2.2.2.2.2.2.2.1 hW.2 a 1 (by rw [am_at hk, am_cell_F]) rfl (v := nI nn) rfl hd (kk p e s m args below meth c base D cI cF H locs ls C hW hS hL)
theorem a_iald {a nn : Nat} {i : Int32} (hd : decode M.1 pc = .ok (.iaload, 1)) (hq : pc + 1 = q) (hk : Γ[a]? = some (10, nn)) (hf : (if am_ok i (am_len Γ a) then A else none) = some rr) (kk : A = some rr → AW l M res k n q L (.int (h.1 a i.toNatClampNeg) :: st) Γ h) : AW l M res k n pc L (.int i :: .ref a :: st) Γ h := by
  subst hq
  by_cases hok : am_ok i (am_len Γ a) = true
  · rw [if_pos hok] at hf
    rw [am_len_of hk] at hok
    intro p e s m args below meth c base D cI cF H locs ls C hW hS hL
    exact va_iald C.1 C.2.1 C.2.2.2.2.2.2.2.2.1 hW.2 a 0 (by rw [am_at hk, am_cell_I]) rfl (am_ok_in hok) hd (kk hf p e s m args below meth c base D cI cF H locs ls C hW hS hL)
  · rw [if_neg hok] at hf
    cases hf
theorem a_iast {a nn : Nat} {i x : Int32} (hd : decode M.1 pc = .ok (.iastore, 1)) (hq : pc + 1 = q) (hk : Γ[a]? = some (10, nn)) {K : AH → Option ρ} (hf : (if am_ok i (am_len Γ a) then am_let (am_setI h a i.toNatClampNeg x) K else none) = some rr) (kk : ∀ h1 : AH, K h1 = some rr → AW l M res k n q L st Γ h1) : AW l M res k n pc L (.int x :: .int i :: .ref a :: st) Γ h := by
  subst hq
  have kk := kk (am_setI h a i.toNatClampNeg x)
  by_cases hok : am_ok i (am_len Γ a) = true
  · rw [if_pos hok] at hf
    rw [am_len_of hk] at hok
    intro p e s m args below meth c base D cI cF H locs ls C hW hS hL
    refine va_iast C.1 C.2.1 C.2.2.2.2.2.2.2.2.1 hW.2 am_D hS.1 a 0 (by rw [am_at hk, am_cell_I]) rfl (am_ok_in hok) hd (fun H1 locs1 a1 _ a3 => ?_)
    refine kk hf p e s m args below meth c base D cI cF H1 locs1 ls C ⟨am_WT_setI hW.1, ?_⟩ ⟨a3, hS.2⟩ hL
    rw [← am_ws_set (h := h) (h' := am_setI h a i.toNatClampNeg x) hk (fun b hb => by simp [am_setI, hb]) (fun b hb => rfl) (by rw [am_cell_I])]
    have e : (am_setI h a i.toNatClampNeg x).1 a = upd (h.1 a) i.toNatClampNeg x := by simp [am_setI]
    rw [e]
    exact a1
  · rw [if_neg hok] at hf
    cases hf
theorem a_aald {a nn : Nat} {i : Int32} {K : Nat → Option ρ} (hd : decode M.1 pc = .ok (.aaload, 1)) (hq : pc + 1 = q) (hk : Γ[a]? = some (11, nn)) (hf : (if am_ok i (am_len Γ a) then (h.2 a i.toNatClampNeg).elim A K else none) = some rr) (kn : A = some rr → AW l M res k n q L (.null :: st) Γ h) (kk : ∀ b nb : Nat, h.2 a i.toNatClampNeg = some b → Γ[b]? = some (1, nb) → K b = some rr → AW l M res k n q L (.ref b :: st) Γ h) : AW l M res k n pc L (.int i :: .ref a :: st) Γ h := by
  subst hq
  by_cases hok : am_ok i (am_len Γ a) = true
  · rw [if_pos hok] at hf
    rw [am_len_of hk] at hok
    intro p e s m args below meth c base D cI cF H locs ls C hW hS hL
    refine va_aldq C.1 C.2.1 C.2.2.2.2.2.2.2.2.1 hW.2 a 1 (by rw [am_at hk, am_cell_F]) rfl (am_ok_in hok) hd ?_
    cases hb : h.2 a i.toNatClampNeg with
    | none =>
      rw [hb] at hf
      exact kn hf p e s m args below meth c base D cI cF H locs ls C hW hS hL
    | some b =>
      obtain ⟨nb, hnb⟩ := hW.1 a _ i.toNatClampNeg b hk hb (by simp [am_fk])
      have hf2 := hf
      rw [hb] at hf2
      exact kk b nb hb hnb hf2 p e s m args below meth c base D cI cF H locs ls C hW hS hL
  · rw [if_neg hok] at hf
    cases hf
theorem a_copy {idx a0 n0 a1 n1 : Nat} {sp dp z : Int32} (hd : decode M.1 pc = .ok (.invokestatic idx, 3)) (hq : pc + 3 = q) (hl : Cond.methodLink M.2.2.2.1 idx arraycopyName ∈ am_T) (hn : Cond.native arraycopyName ∈ am_T) (hs : Cond.static arraycopyName ∈ am_T) (hi : Cond.initialized "java/lang/System" ∈ am_T) (hR : 1 ≤ M.2.2.2.2.2.1.frames ∧ 32 ≤ M.2.2.2.2.2.1.locals) (hk0 : Γ[a0]? = some (10, n0)) (hk1 : Γ[a1]? = some (10, n1)) {K : AH → Option ρ} (hf : (if am_okc sp dp z (am_len Γ a0) (am_len Γ a1) then am_let (am_cpy h a0 a1 sp.toNatClampNeg dp.toNatClampNeg z.toNatClampNeg) K else none) = some rr) (kk : ∀ h1 : AH, K h1 = some rr → AW l M res k n q L [] Γ h1) : AW l M res k n pc L [.int z, .int dp, .ref a1, .int sp, .ref a0] Γ h := by
  subst hq
  have kk := kk (am_cpy h a0 a1 sp.toNatClampNeg dp.toNatClampNeg z.toNatClampNeg)
  by_cases hok : am_okc sp dp z (am_len Γ a0) (am_len Γ a1) = true
  · rw [if_pos hok] at hf
    rw [am_len_of hk0, am_len_of hk1] at hok
    simp only [am_okc, Bool.and_eq_true, decide_eq_true_eq] at hok
    obtain ⟨⟨⟨⟨o1, o2⟩, o3⟩, o4⟩, o5⟩ := hok
    intro p e s m args below meth c base D cI cF H locs ls C hW hS hL
    refine va_copyi (rest := []) C.1 C.2.1 (by rw [C.2.2.2.1]; exact hL.1.symm) C.2.2.2.2.1 (C.2.2.2.2.2.1 _ hl) (C.2.2.2.2.2.1 _ hn) (C.2.2.2.2.2.1 _ hs) (C.2.2.2.2.2.1 _ hi) C.2.2.2.2.2.2.2.2.1 hW.2 am_D hS.1 a0 a1 0 0 (by rw [am_at hk0, am_cell_I]) (by rw [am_at hk1, am_cell_I]) rfl rfl rfl (Int32.not_lt.mpr o1) (Int32.not_lt.mpr o2) (Int32.not_lt.mpr o3) o4 o5 (fun _ _ => rfl) hR.1 (Nat.le_trans (by decide) hR.2) hd (fun H1 locs1 b1 _ b3 => ?_)
    refine kk hf p e s m args below meth c base D cI cF H1 locs1 ls C ⟨am_WT_cpy hW.1, ?_⟩ ⟨b3, hS.2⟩ hL
    rw [← am_ws_set (h := h) (h' := am_cpy h a0 a1 sp.toNatClampNeg dp.toNatClampNeg z.toNatClampNeg) hk1 (fun b hb => by simp [am_cpy, hb]) (fun b hb => rfl) (by rw [am_cell_I])]
    have e : (am_cpy h a0 a1 sp.toNatClampNeg dp.toNatClampNeg z.toNatClampNeg).1 a1 = va_cpy (h.1 a0) (h.1 a1) sp.toNatClampNeg dp.toNatClampNeg z.toNatClampNeg := by simp [am_cpy]
    rw [e]
    exact b1
  · rw [if_neg hok] at hf
    cases hf
def am_max (x y : Int32) : Int32 := if x < y then y else x
def am_min (x y : Int32) : Int32 := if y < x then y else x
theorem am_cats {base : Nat} {st : List Value} : ((st.map (am_v base)).map fun v => v.category) = st.map fun v => v.category := by simp [am_v_cat]
theorem a_max {idx : Nat} {x y : Int32} (hd : decode M.1 pc = .ok (.invokestatic idx, 3)) (hq : pc + 3 = q) (hl : Cond.methodLink M.2.2.2.1 idx Lib.Math.max.name ∈ am_T) (hs : Cond.static Lib.Math.max.name ∈ am_T) (hi : Cond.initialized "java/lang/Math" ∈ am_T) (hc : Cond.code Lib.Math.max.name Lib.Math.max.code 2 (some .int) ∈ am_T) (hR : 1 ≤ M.2.2.2.2.2.1.frames ∧ (st.map fun v => v.category).sum + 13 ≤ M.2.2.2.2.2.1.locals ∧ k ≤ M.2.2.2.2.2.1.cells ∧ n ≤ M.2.2.2.2.2.1.slots) (kk : AW l M res k n q L (.int (am_max x y) :: st) Γ h) : AW l M res k n pc L (.int y :: .int x :: st) Γ h := by
  subst hq
  intro p e s m args below meth c base D cI cF H locs ls C hW hS hL
  exact va_mmax (rest := st.map (am_v base)) C.1 C.2.1 (by rw [C.2.2.2.1]; exact hL.1.symm) C.2.2.2.2.1 (C.2.2.2.2.2.1 _ hl) (C.2.2.2.2.2.1 _ hs) (C.2.2.2.2.2.1 _ hi) (C.2.2.2.2.2.1 _ hc) hR.1 (by rw [am_cats]; exact hR.2.1) hR.2.2.1 hR.2.2.2 hd (kk p e s m args below meth c base D cI cF H locs ls C hW hS hL)
theorem a_min {idx : Nat} {x y : Int32} (hd : decode M.1 pc = .ok (.invokestatic idx, 3)) (hq : pc + 3 = q) (hl : Cond.methodLink M.2.2.2.1 idx Lib.Math.min.name ∈ am_T) (hs : Cond.static Lib.Math.min.name ∈ am_T) (hi : Cond.initialized "java/lang/Math" ∈ am_T) (hc : Cond.code Lib.Math.min.name Lib.Math.min.code 2 (some .int) ∈ am_T) (hR : 1 ≤ M.2.2.2.2.2.1.frames ∧ (st.map fun v => v.category).sum + 13 ≤ M.2.2.2.2.2.1.locals ∧ k ≤ M.2.2.2.2.2.1.cells ∧ n ≤ M.2.2.2.2.2.1.slots) (kk : AW l M res k n q L (.int (am_min x y) :: st) Γ h) : AW l M res k n pc L (.int y :: .int x :: st) Γ h := by
  subst hq
  intro p e s m args below meth c base D cI cF H locs ls C hW hS hL
  exact va_mmin (rest := st.map (am_v base)) C.1 C.2.1 (by rw [C.2.2.2.1]; exact hL.1.symm) C.2.2.2.2.1 (C.2.2.2.2.2.1 _ hl) (C.2.2.2.2.2.1 _ hs) (C.2.2.2.2.2.1 _ hi) (C.2.2.2.2.2.1 _ hc) hR.1 (by rw [am_cats]; exact hR.2.1) hR.2.2.1 hR.2.2.2 hd (kk p e s m args below meth c base D cI cF H locs ls C hW hS hL)
/-! calls -/
theorem am_sz {p : Program} {e : Env} {R : Room} {s : State} {m : MethodId} {args : Array Value} {below : List Frame} {meth : Method} {c : Code} {H : Heap} {locs : List Loc} {Q : State → Prop} {g : JFrame} (kk : H.size ≤ s.heap.size + k → W p l e R s m args below meth c H locs k n Q g) : W p l e R s m args below meth c H locs k n Q g := by
  intro T hT X
  have h1 : (T.setVm s.vm).heap.size ≤ s.heap.size + k := X.same.2.2.1
  have h2 : (T.setVm s.vm).heap = T.heap := rfl
  rw [h2, hT] at h1
  exact kk h1 T hT X
theorem am_size {s : State} {base : Nat} {D : va_G} {cI cF : ClassId} {H : Heap} {locs : List Loc} (hW : am_Wd D cI cF base Γ h H) (hS : am_S base s k Γ H locs) (hb : base ≤ s.heap.size) (hu : H.size ≤ s.heap.size + k) : H.size = base + Γ.length := by
  have h1 : base + Γ.length ≤ H.size := by
    cases hl : Γ.length with
    | zero => have := hS.1.1; omega
    | succ z =>
      have hz : z < Γ.length := by omega
      have h2 := (hW.2 z _ (am_at (List.getElem?_eq_getElem hz))).lt
      simp only at h2
      omega
  have := hS.2
  omega
theorem am_N.same {u U : State} (hv : u.vm = U.vm) (hN : am_N u) : am_N U := by
  refine ⟨fun w hw => ?_, hN.2.moved (by rw [hv]; exact Vm.Alike.refl U.vm)⟩
  have h1 := hN.1 w hw
  have h2 : am_isN w = true := List.all_eq_true.mp am_nw_all w hw
  cases w <;> first | exact va_Nw.same rfl hv h1 | (exact absurd h2 (by simp [am_isN]))
def am_Pc (base : Nat) (D : va_G) (cI cF : ClassId) (Γ : Gm) (h : AH) (args : List Value) : Array Value → State → Prop := va_Pc (args.map (am_v base)) (fun U => va_K D vwCl (am_tys cI cF) U ∧ am_N U ∧ U.heap.size = base + Γ.length ∧ am_Wd D cI cF base Γ h U.heap)
theorem am_blind {base : Nat} {D : va_G} {cI cF : ClassId} {Γ : Gm} {h : AH} {args : List Value} : FrameBlind (am_Pc base D cI cF Γ h args) := by
  intro a U g mk hq
  obtain ⟨h1, h2, h3, h4, h5⟩ := hq
  exact ⟨h1, va_K.moved (u := U) (U := U.calling g mk a) (Vm.Alike.refl U.vm) h2, am_N.same (u := U) (U := U.calling g mk a) rfl h3, h4, h5⟩
theorem am_pre {p : Program} {s : State} {m : MethodId} {args : Array Value} {meth : Method} {c : Code} {base : Nat} {D : va_G} {cI cF : ClassId} {H : Heap} {locs : List Loc} {As : List Value} (C : am_Cx M p s m args meth c base D cI cF) (hW : am_Wd D cI cF base Γ h H) (hS : am_S base s k Γ H locs) (hu : H.size ≤ s.heap.size + k) : ∀ U : State, U.heap = H → s.WarmedH U.vm → am_Pc base D cI cF Γ h As (As.map (am_v base)).toArray U := by
  intro U hU hWm
  refine ⟨rfl, va_K.moved hWm.alike C.2.2.2.2.2.2.2.2.1, C.2.2.2.2.2.2.2.2.2.1.warm hWm, ?_, by rw [hU]; exact hW⟩
  rw [hU]
  exact am_size hW hS C.2.2.2.2.2.2.2.2.2.2 hu
theorem am_cont {p : Program} {e : Env} {R : Room} {s : State} {m : MethodId} {args : Array Value} {below : List Frame} {meth : Method} {c : Code} {base mc ms rk : Nat} {D : va_G} {cI cF : ClassId} {H : Heap} {locs : List Loc} {ls : Array Slot} {st0 rest : List Value} {Q : State → Prop} {a : Array Value} {r1 : ARs} {Γ : Gm}
    (hr : va_Run p l e R s m args below meth c H locs k n mc ms (F0 m pc ls st0) rest (am_Q D cI cF base rk r1 a) (fun q => base ≤ q)) (hS : am_S base s k Γ H locs) (hg : r1.2.1.length = Γ.length + mc)
    (kk : ∀ (H1 : Heap) (locs1 : List Loc), am_rk rk r1 → am_Wd D cI cF base r1.2.1 r1.2.2 H1 → am_S base s (k + mc) r1.2.1 H1 locs1 → W p l e R s m args below meth c H1 locs1 (k + mc) (n + ms) Q (F0 m (pc + 3) ls ((r1.1.map (am_v base)).toList ++ rest))) : W p l e R s m args below meth c H locs k n Q (F0 m pc ls st0) := by
  intro T hT X
  obtain ⟨v, st₀, t, T', Lc, h0, X', hLc, e1, e2, ⟨hv, hrk, hw, hz, hk⟩, stp⟩ := hr T hT X
  have hv := Outcome.returned.inj hv
  subst hv
  rw [h0] at hz hk
  have hS1 := hS.1
  obtain ⟨t2, a1, b1⟩ := kk T'.heap (locs ++ Lc) hrk (by rw [e1]; exact hw) ⟨⟨Nat.le_trans hS1.1 (by rw [e1]; exact hz), fun q h1 h2 => by rw [e1, hk q (Nat.lt_of_lt_of_le h1 hS1.1) h2]; exact hS1.2.1 q h1 h2, fun q hq => by
      rcases List.mem_append.mp hq with h | h
      · exact hS1.2.2 q h
      · exact hLc q h⟩, by rw [hg, ← Nat.add_assoc, hS.2, Nat.add_assoc]⟩ T' rfl X'
  exact ⟨t2, stp t2 a1, b1⟩
/-- what the words say of a callee: its code, its name, how many values it takes -/
def am_CC (y : MethodName) (M' : AMt) (ar : Nat) : Prop := Cond.code y M'.1 M'.2.1 M'.2.2.1 ∈ am_T ∧ Cond.initialized y.cls ∈ am_T ∧ (y.cls ≠ "java/lang/invoke/MethodHandle" ∧ y.cls ≠ "java/lang/invoke/VarHandle" ∧ (parseMethodDescriptor y.desc).map (fun d => d.parameters.length) = some ar) ∧ M'.2.2.2.2.2.1.cells = M'.2.2.2.2.2.2.1 ∧ M'.2.2.2.2.2.1.slots = M'.2.2.2.2.2.2.2.1
def am_CR (M M' : AMt) (k n : Nat) : Prop := M'.2.2.2.2.2.1.frames + 1 ≤ M.2.2.2.2.2.1.frames ∧ 8 + (M'.2.1 + 11) + M'.2.2.2.2.2.1.locals ≤ M.2.2.2.2.2.1.locals ∧ k + M'.2.2.2.2.2.2.1 ≤ M.2.2.2.2.2.1.cells ∧ n + M'.2.2.2.2.2.2.2.1 ≤ M.2.2.2.2.2.1.slots
theorem am_goodc {y : MethodName} {M' : AMt} {ar : Nat} (hc : am_CC y M' ar) : GoodIn am_T (.code y M'.1 M'.2.1 M'.2.2.1 :: am_T) := am_T_good (fun w hw => by
  rcases List.mem_cons.mp hw with rfl | hw
  · exact hc.1
  · exact hw)
theorem am_stk {base : Nat} {As st : List Value} : (As.reverse ++ st).map (am_v base) = (As.map (am_v base)).reverse ++ st.map (am_v base) := by simp
theorem am_room {base : Nat} {m : MethodId} {ls : Array Slot} {st st0 : List Value} (hs : (st.map fun v => v.category).sum ≤ 8) : 2 * (F0 m pc ls st0).monitorRoom + ((st.map (am_v base)).map fun v => v.category).sum ≤ 8 := by
  rw [am_cats]
  exact (by have : (F0 m pc ls st0).monitorRoom = 0 := rfl
            rw [this]; simpa using hs)
theorem a_callV {idx b ci nb ar : Nat} {y : MethodName} {M' : AMt} {As : List Value} {r1 : ARs} {CN : String} {T : u_T} {N : Nat} (hM : AR l y M' (.ref b :: As) Γ h r1) (hc : am_CC y M' ar) (hl : Cond.methodLink M.2.2.2.1 idx y ∈ am_T) (hi : Cond.instanceMethod y ∈ am_T) (hs : Cond.selects CN y y ∈ am_T) (hv : vwCl[ci]? = some (CN, T, N)) (hc10 : ci < 10) (hR : am_CR M M' k n)
    (hd : decode M.1 pc = .ok (.invokevirtual idx, 3)) (hq : pc + 3 = q) (hk : Γ[b]? = some (ci, nb)) (hn : As.length = ar) (hst : (st.map fun v => v.category).sum ≤ 8) (hg : r1.2.1.length = Γ.length + M'.2.2.2.2.2.2.1) {st0 : List Value} (hs0 : st0 = As.reverse ++ .ref b :: st)
    (kk : am_rk M'.2.2.2.2.2.2.2.2 r1 → AW l M res (k + M'.2.2.2.2.2.2.1) (n + M'.2.2.2.2.2.2.2.1) q L (r1.1.toList ++ st) r1.2.1 r1.2.2) : AW l M res k n pc L st0 Γ h := by
  subst hq
  subst hs0
  intro p e s m args below meth c base D cI cF H locs ls C hW hS hL
  refine am_sz (fun hu => ?_)
  have hpre := am_pre (As := .ref b :: As) C hW hS hu
  have hrc : ∃ cellB : Cell, H[base + b]? = some cellB ∧ cellB.vm.isStatics = false ∧ s.vm.findClass CN = some cellB.cls := va_recv C.2.2.2.2.2.2.2.2.1 hW.2 hv (by rw [am_at hk, am_cell_O hc10])
  have cb : CallB M.2.2.2.2.2.1 s args M.2.2.2.1 idx y M'.1 M'.2.1 M'.2.2.1 (.code y M'.1 M'.2.1 M'.2.2.1 :: am_T) M'.2.2.2.2.2.1 M'.2.2.2.2.2.2.1 M'.2.2.2.2.2.2.2.1 ar := callB_of ar C.2.2.2.2.2.1 (am_goodc hc) rfl hc.2.2.2.1 hc.2.2.2.2 (C.2.2.2.2.2.1 _ hc.2.1) (C.2.2.2.2.2.1 _ hl) hc.2.2.1 ⟨hR.1, hR.2.1⟩
  have run := va_runV (H := H) (locs := locs) (cells := k) (slots := n) (rest := st.map (am_v base)) (below := below) (meth := meth) (e := e) (g := F0 m pc ls ((As.reverse ++ .ref b :: st).map (am_v base))) (b := base + b) (As := As.map (am_v base)) ⟨C.1, C.2.1, C.2.2.2.1, C.2.2.2.2.1, C.2.2.2.2.2.1⟩ (hM base D cI cF) ⟨cb, C.2.2.2.2.2.1 _ hi, C.2.2.2.2.2.1 _ hs⟩ ⟨am_blind, hrc, hpre⟩ rfl (by simpa using hn) hL.1 (by simp [am_v]) (am_room hst) hd ⟨hR.2.2.1, hR.2.2.2⟩
  refine am_cont run hS hg (fun H1 locs1 a0 a1 a2 => ?_)
  have := kk a0 p e s m args below meth c base D cI cF H1 locs1 ls C a1 a2 hL
  rw [List.map_append] at this
  cases hr1 : r1.1 with
  | none => rw [hr1] at this; exact this
  | some v => rw [hr1] at this; exact this
theorem a_callS {idx ar : Nat} {y : MethodName} {M' : AMt} {As : List Value} {r1 : ARs} (hM : AR l y M' As Γ h r1) (hc : am_CC y M' ar) (hl : Cond.methodLink M.2.2.2.1 idx y ∈ am_T) (hi : Cond.static y ∈ am_T) (hR : am_CR M M' k n)
    (hd : decode M.1 pc = .ok (.invokestatic idx, 3)) (hq : pc + 3 = q) (hn : As.length = ar) (hst : (st.map fun v => v.category).sum ≤ 8) (hg : r1.2.1.length = Γ.length + M'.2.2.2.2.2.2.1) {st0 : List Value} (hs0 : st0 = As.reverse ++ st)
    (kk : am_rk M'.2.2.2.2.2.2.2.2 r1 → AW l M res (k + M'.2.2.2.2.2.2.1) (n + M'.2.2.2.2.2.2.2.1) q L (r1.1.toList ++ st) r1.2.1 r1.2.2) : AW l M res k n pc L st0 Γ h := by
  subst hq
  subst hs0
  intro p e s m args below meth c base D cI cF H locs ls C hW hS hL
  refine am_sz (fun hu => ?_)
  have hpre := am_pre (As := As) C hW hS hu
  have cb : CallB M.2.2.2.2.2.1 s args M.2.2.2.1 idx y M'.1 M'.2.1 M'.2.2.1 (.code y M'.1 M'.2.1 M'.2.2.1 :: am_T) M'.2.2.2.2.2.1 M'.2.2.2.2.2.2.1 M'.2.2.2.2.2.2.2.1 ar := callB_of ar C.2.2.2.2.2.1 (am_goodc hc) rfl hc.2.2.2.1 hc.2.2.2.2 (C.2.2.2.2.2.1 _ hc.2.1) (C.2.2.2.2.2.1 _ hl) hc.2.2.1 ⟨hR.1, hR.2.1⟩
  have run := va_runS (H := H) (locs := locs) (cells := k) (slots := n) (rest := st.map (am_v base)) (below := below) (meth := meth) (e := e) (g := F0 m pc ls ((As.reverse ++ st).map (am_v base))) (As := As.map (am_v base)) ⟨C.1, C.2.1, C.2.2.2.1, C.2.2.2.2.1, C.2.2.2.2.2.1⟩ (hM base D cI cF) ⟨cb, C.2.2.2.2.2.1 _ hi⟩ ⟨am_blind, hpre⟩ rfl (by simpa using hn) hL.1 (by simp) (am_room hst) hd ⟨hR.2.2.1, hR.2.2.2⟩
  refine am_cont run hS hg (fun H1 locs1 a0 a1 a2 => ?_)
  have := kk a0 p e s m args below meth c base D cI cF H1 locs1 ls C a1 a2 hL
  rw [List.map_append] at this
  cases hr1 : r1.1 with
  | none => rw [hr1] at this; exact this
  | some v => rw [hr1] at this; exact this
theorem a_callSN {idx ar : Nat} {y : MethodName} {M' : AMt} {As : List Value} {r1 : ARs} {host : String} (hM : AR l y M' As Γ h r1) (hc : am_CC y M' ar) (hl : Cond.methodLinkNest M.2.2.2.1 idx y host ∈ am_nw) (hi : Cond.static y ∈ am_T) (hR : am_CR M M' k n)
    (hd : decode M.1 pc = .ok (.invokestatic idx, 3)) (hq : pc + 3 = q) (hn : As.length = ar) (hst : (st.map fun v => v.category).sum ≤ 8) (hg : r1.2.1.length = Γ.length + M'.2.2.2.2.2.2.1) {st0 : List Value} (hs0 : st0 = As.reverse ++ st)
    (kk : am_rk M'.2.2.2.2.2.2.2.2 r1 → AW l M res (k + M'.2.2.2.2.2.2.1) (n + M'.2.2.2.2.2.2.2.1) q L (r1.1.toList ++ st) r1.2.1 r1.2.2) : AW l M res k n pc L st0 Γ h := by
  subst hq
  subst hs0
  intro p e s m args below meth c base D cI cF H locs ls C hW hS hL
  refine am_sz (fun hu => ?_)
  have hpre := am_pre (As := As) C hW hS hu
  have cb := va_cnB (R := M.2.2.2.2.2.1) (mc := M'.2.2.2.2.2.2.1) (ms := M'.2.2.2.2.2.2.2.1) ar C.2.2.2.2.2.1 (am_goodc hc) rfl hc.2.2.2.1 hc.2.2.2.2 (C.2.2.2.2.2.2.2.2.2.1.1 _ hl) (C.2.2.2.2.2.1 _ hc.2.1) hc.2.2.1 ⟨hR.1, hR.2.1⟩
  have run := va_runSN (H := H) (locs := locs) (cells := k) (slots := n) (rest := st.map (am_v base)) (below := below) (meth := meth) (e := e) (g := F0 m pc ls ((As.reverse ++ st).map (am_v base))) (As := As.map (am_v base)) ⟨C.1, C.2.1, C.2.2.2.1, C.2.2.2.2.1, C.2.2.2.2.2.1⟩ (hM base D cI cF) ⟨cb, C.2.2.2.2.2.1 _ hi, trivial⟩ ⟨am_blind, hpre⟩ rfl (by simpa using hn) hL.1 (by simp) (am_room hst) hd ⟨hR.2.2.1, hR.2.2.2⟩
  refine am_cont run hS hg (fun H1 locs1 a0 a1 a2 => ?_)
  have := kk a0 p e s m args below meth c base D cI cF H1 locs1 ls C a1 a2 hL
  rw [List.map_append] at this
  cases hr1 : r1.1 with
  | none => rw [hr1] at this; exact this
  | some v => rw [hr1] at this; exact this
end AMH
