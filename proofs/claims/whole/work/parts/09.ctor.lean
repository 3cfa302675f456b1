/-! ===== constructors: cells come ===== -/
def am_new (h : AH) (a : Nat) : AH := (fun b => if b = a then fun _ => 0 else h.1 b, fun b => if b = a then fun _ => none else h.2 b)
def am_up (Γ Γ1 : Gm) : Prop := ∀ (a : Nat) (kd : Nat × Nat), Γ[a]? = some kd → Γ1[a]? = some kd
def am_new3 {ρ : Type} (Γ : Gm) (h : AH) (kd : Nat × Nat) (K : Gm → Nat → AH → Option ρ) : Option ρ := K (Γ ++ [kd]) Γ.length (am_new h Γ.length)
def am_bindG {ρ : Type} (o : Option (Gm × AH)) (K : Gm → AH → Option ρ) : Option ρ := o.bind (fun p => K p.1 p.2)
theorem am_bindG_some {ρ : Type} {o : Option (Gm × AH)} {K : Gm → AH → Option ρ} {rr : ρ} (hf : am_bindG o K = some rr) : ∃ (Γ1 : Gm) (h1 : AH), o = some (Γ1, h1) ∧ K Γ1 h1 = some rr := by
  obtain ⟨⟨r, h1⟩, e1, e2⟩ := Option.bind_eq_some_iff.mp hf
  exact ⟨r, h1, e1, e2⟩
theorem am_new3_some {ρ : Type} {Γ : Gm} {h : AH} {kd : Nat × Nat} {K : Gm → Nat → AH → Option ρ} {rr : ρ} (hf : am_new3 Γ h kd K = some rr) : ∃ (Γ1 : Gm) (b : Nat) (h1 : AH), (am_up Γ Γ1 ∧ Γ1.length = Γ.length + 1) ∧ K Γ1 b h1 = some rr :=
  ⟨_, _, _, ⟨fun a kd h => by rw [List.getElem?_append_left (List.getElem?_eq_some_iff.mp h).1]; exact h, by simp⟩, hf⟩
theorem am_let_some {α ρ : Type} {x : α} {K : α → Option ρ} {rr : ρ} (hf : am_let x K = some rr) : ∃ y, K y = some rr := ⟨x, hf⟩
theorem am_ok_some {ρ : Type} {c : Prop} {d : Decidable c} {A : Option ρ} {rr : ρ} (hf : (@ite _ c d A none) = some rr) : A = some rr := by
  by_cases hc : c
  · rw [if_pos hc] at hf; exact hf
  · rw [if_neg hc] at hf; cases hf
theorem am_ws_push {cI cF : ClassId} {base : Nat} {Γ : Gm} {h : AH} {kd : Nat × Nat} : am_ws cI cF base (Γ ++ [kd]) (am_new h Γ.length) = am_ws cI cF base Γ h ++ [(base + Γ.length, am_cell cI cF base kd Γ.length (am_new h Γ.length))] := by
  unfold am_ws
  rw [List.mapIdx_concat]
  congr 1
  apply List.ext_getElem?
  intro i
  simp only [List.getElem?_mapIdx]
  cases hi : Γ[i]? with
  | none => rfl
  | some kd' =>
    have hlt := (List.getElem?_eq_some_iff.mp hi).1
    simp only [Option.map_some]
    rw [am_cell_eq]
    · simp [am_new, Nat.ne_of_lt hlt]
    · simp [am_new, Nat.ne_of_lt hlt]
theorem am_WT_new {Γ : Gm} {h : AH} {kd : Nat × Nat} (hT : am_WT Γ h) : am_WT (Γ ++ [kd]) (am_new h Γ.length) := by
  intro a kd' j b h1 h2 h3
  by_cases ha : a = Γ.length
  · simp [am_new, ha] at h2
  · simp only [am_new, if_neg ha] at h2
    have hlt : a < Γ.length := by
      have := (List.getElem?_eq_some_iff.mp h1).1
      simp at this
      omega
    rw [List.getElem?_append_left hlt] at h1
    obtain ⟨n, hn⟩ := hT a kd' j b h1 h2 h3
    exact ⟨n, by rw [List.getElem?_append_left (List.getElem?_eq_some_iff.mp hn).1]; exact hn⟩
theorem am_up_new {Γ : Gm} {kd : Nat × Nat} : am_up Γ (Γ ++ [kd]) := fun a kd' h => by rw [List.getElem?_append_left (List.getElem?_eq_some_iff.mp h).1]; exact h
section AMC
variable {l : Launch} {M : AMt} {res : ARs} {k n pc q : Nat} {L : List (Option Value)} {st : List Value} {Γ : Gm} {h : AH} {ρ : Type} {rr : ρ}
/-- the new cell's address: there is only one place for it -/
theorem am_place {s : State} {base z : Nat} {D : va_G} {cI cF : ClassId} {H1 : Heap} {e : va_E} (hP : va_P D vwCl (am_ws cI cF base Γ h ++ [(z, e)]) H1) (hD : va_D (fun q => base ≤ q) (am_ws cI cF base Γ h ++ [(z, e)])) (hz : s.heap.size + k = base + Γ.length) (hu : H1.size ≤ s.heap.size + (k + 1)) : z = base + Γ.length := by
  have hlen : (am_ws cI cF base Γ h).length = Γ.length := by simp [am_ws]
  have hat : (am_ws cI cF base Γ h ++ [(z, e)])[Γ.length]? = some (z, e) := by
    rw [List.getElem?_append_right (by omega), hlen]; simp
  have h1 := (hP _ _ hat).lt
  have h2 := hD.2 _ _ hat
  simp only at h1 h2
  by_cases hlt : z < base + Γ.length
  · exfalso
    obtain ⟨a, rfl⟩ : ∃ a, z = base + a := ⟨z - base, by omega⟩
    have ha : a < Γ.length := by omega
    have hat2 : (am_ws cI cF base Γ h ++ [(base + a, e)])[a]? = some (base + a, am_cell cI cF base Γ[a] a h) := by
      rw [List.getElem?_append_left (by omega)]
      exact am_at (List.getElem?_eq_getElem ha)
    have := hD.1 _ _ _ _ hat hat2 rfl
    omega
  · omega
theorem am_fs_new {base ci a : Nat} {h : AH} {ty : Nat → FieldType} {N : Nat} (hN : N = am_nf ci) (hd : ∀ j, j < N → defaultValue (ty j) = if am_fk ci j = 99 then .int 0 else .null) : ∀ j, j < N → defaultValue (ty j) = vp_V ((List.range (am_nf ci)).map (am_fld base ci a (am_new h a))) j := by
  intro j hj
  rw [hd j hj]
  unfold vp_V
  rw [List.getD_eq_getElem?_getD, am_fs_at (by omega)]
  simp only [am_fld, am_new, if_true, Option.map_none, Option.getD_some]
  rfl
theorem a_new {idx ci : Nat} {CN : String} {T : u_T} {N : Nat} {ty : Nat → FieldType} {K : Gm → Nat → AH → Option ρ} (hd : decode M.1 pc = .ok (.new idx, 3)) (hq : pc + 3 = q) (hcl : Cond.classLink M.2.2.2.1 idx CN ∈ am_T) (hit : Cond.instantiable CN N ∈ am_T) (hii : Cond.initialized CN ∈ am_T) (fc : am_FC ci CN T N) (hty : ∀ k, k < N → parseFieldDescriptor (T k).2.2.1 = some (ty k)) (hdv : ∀ j, j < N → defaultValue (ty j) = if am_fk ci j = 99 then .int 0 else .null) (hR : k + 1 ≤ M.2.2.2.2.2.1.cells ∧ n + N ≤ M.2.2.2.2.2.1.slots)
    (hf : am_new3 Γ h (ci, 0) K = some rr) (kk : ∀ (Γ1 : Gm) (b : Nat) (h1 : AH), Γ1[b]? = some (ci, 0) → am_up Γ Γ1 → K Γ1 b h1 = some rr → AW l M res (k + 1) (n + N) q L (.ref b :: st) Γ1 h1) : AW l M res k n pc L st Γ h := by
  subst hq
  intro p e s m args below meth c base D cI cF H locs ls C hW hS hL
  obtain ⟨hc10, hv, hN, hin⟩ := fc
  refine va_new (fs := (List.range (am_nf ci)).map (am_fld base ci Γ.length (am_new h Γ.length))) C.1 C.2.1 C.2.2.2.2.2.1 hin ty hty C.2.2.2.2.1 (C.2.2.2.2.2.1 _ hcl) (C.2.2.2.2.2.1 _ hit) (C.2.2.2.2.2.1 _ hii) C.2.2.2.2.2.2.2.2.1 hW.2 am_D hS.1 (fun z hz => Nat.le_trans C.2.2.2.2.2.2.2.2.2.2 hz) hv (am_fs_new hN hdv) hR.1 hR.2 hd (fun z H1 hP hD hS1 => ?_)
  refine am_sz (fun hu => ?_)
  have hz := am_place hP hD hS.2 hu
  subst hz
  refine kk _ _ _ (by simp) am_up_new hf p e s m args below meth c base D cI cF H1 locs ls C ⟨am_WT_new hW.1, ?_⟩ ⟨hS1, by have := hS.2; simp only [List.length_append, List.length_cons, List.length_nil]; omega⟩ hL
  rw [am_ws_push, am_cell_O hc10]
  exact hP
theorem a_newa {z : Int32} {N : Nat} {K : Gm → Nat → AH → Option ρ} (hd : decode M.1 pc = .ok (.newarray .int, 2)) (hq : pc + 2 = q) (harr : Cond.arrayClass .int ∈ am_T) (hz0 : ¬ z < 0) (hzN : z.toNatClampNeg = N) (hN : N * 4 ≤ 536870912) (hR : k + 1 ≤ M.2.2.2.2.2.1.cells ∧ n + N ≤ M.2.2.2.2.2.1.slots)
    (hf : am_new3 Γ h (10, N) K = some rr) (kk : ∀ (Γ1 : Gm) (b : Nat) (h1 : AH), Γ1[b]? = some (10, N) → am_up Γ Γ1 → K Γ1 b h1 = some rr → AW l M res (k + 1) (n + N) q L (.ref b :: st) Γ1 h1) : AW l M res k n pc L (.int z :: st) Γ h := by
  subst hq
  intro p e s m args below meth c base D cI cF H locs ls C hW hS hL
  refine va_newa (a0 := (N, .inl (fun _ => 0))) C.1 C.2.1 (atype := .int) (C.2.2.2.2.2.1 _ harr) rfl C.2.2.2.2.2.2.2.2.1 hW.2 am_D hS.1 (fun z hz => Nat.le_trans C.2.2.2.2.2.2.2.2.2.2 hz) (fun cA => rfl) hz0 hzN hN hR.1 hR.2 hd (fun w cA H1 hK1 hP hD hS1 => ?_)
  refine am_sz (fun hu => ?_)
  have hw := am_place hP hD hS.2 hu
  subst hw
  have hcA : cA = cI := by
    have e1 : s.vm.findClass _ = some cA := (hK1.2 2 _ rfl).2
    have e2 : s.vm.findClass _ = some cI := (C.2.2.2.2.2.2.2.2.1.2 0 _ rfl).2
    exact Option.some.inj (e1.symm.trans e2)
  subst hcA
  refine kk _ _ _ (by simp) am_up_new hf p e s m args below meth c base D cA cF H1 locs ls C ⟨am_WT_new hW.1, ?_⟩ ⟨hS1, by have := hS.2; simp only [List.length_append, List.length_cons, List.length_nil]; omega⟩ hL
  rw [am_ws_push, am_cell_I]
  have e0 : (am_new h Γ.length).1 Γ.length = fun _ => 0 := by simp [am_new]
  rw [e0]
  exact hP
theorem a_newq {idx : Nat} {z : Int32} {N : Nat} {K : Gm → Nat → AH → Option ρ} (hd : decode M.1 pc = .ok (.anewarray idx, 3)) (hq : pc + 3 = q) (hcl : Cond.classLink M.2.2.2.1 idx "ZSaves$Frame" ∈ am_T) (hz0 : ¬ z < 0) (hzN : z.toNatClampNeg = N) (hN : N * 4 ≤ 536870912) (hR : k + 1 ≤ M.2.2.2.2.2.1.cells ∧ n + N ≤ M.2.2.2.2.2.1.slots)
    (hf : am_new3 Γ h (11, N) K = some rr) (kk : ∀ (Γ1 : Gm) (b : Nat) (h1 : AH), Γ1[b]? = some (11, N) → am_up Γ Γ1 → K Γ1 b h1 = some rr → AW l M res (k + 1) (n + N) q L (.ref b :: st) Γ1 h1) : AW l M res k n pc L (.int z :: st) Γ h := by
  subst hq
  intro p e s m args below meth c base D cI cF H locs ls C hW hS hL
  refine va_newq C.1 C.2.1 C.2.2.2.2.1 (C.2.2.2.2.2.1 _ hcl) C.2.2.2.2.2.2.2.2.2.1.2 C.2.2.2.2.2.2.2.2.1 hW.2 am_D hS.1 (fun z hz => Nat.le_trans C.2.2.2.2.2.2.2.2.2.2 hz) hz0 hzN hN hR.1 hR.2 hd (fun w cA H1 hK1 hP hD hS1 => ?_)
  refine am_sz (fun hu => ?_)
  have hw := am_place hP hD hS.2 hu
  subst hw
  have hcA : cA = cF := by
    obtain ⟨_, _, _, _, _, e1⟩ := (hK1.2 2 _ rfl).2
    obtain ⟨_, _, _, _, _, e2⟩ := (C.2.2.2.2.2.2.2.2.1.2 1 _ rfl).2
    exact Option.some.inj (e1.symm.trans e2)
  subst hcA
  refine kk _ _ _ (by simp) am_up_new hf p e s m args below meth c base D cI cA H1 locs ls C ⟨am_WT_new hW.1, ?_⟩ ⟨hS1, by have := hS.2; simp only [List.length_append, List.length_cons, List.length_nil]; omega⟩ hL
  rw [am_ws_push, am_cell_F]
  have e0 : (fun i => ((am_new h Γ.length).2 Γ.length i).map (fun q => base + q)) = fun _ => (none : Option Nat) := by funext i; simp [am_new]
  rw [e0]
  exact hP
theorem am_WT_setF {a j nn b nb : Nat} {Γ : Gm} {h : AH} (hT : am_WT Γ h) (hk : Γ[a]? = some (11, nn)) (hb : Γ[b]? = some (1, nb)) : am_WT Γ (am_setR h a j (some b)) := am_WT_setR hT hk (by simpa [am_fk] using hb)
theorem a_aast {a nn b nb : Nat} {i : Int32} {K : AH → Option ρ} (hd : decode M.1 pc = .ok (.aastore, 1)) (hq : pc + 1 = q) (hk : Γ[a]? = some (11, nn)) (hb : Γ[b]? = some (1, nb)) (hf : (if am_ok i (am_len Γ a) then am_let (am_setR h a i.toNatClampNeg (some b)) K else none) = some rr) (kk : ∀ h1 : AH, K h1 = some rr → AW l M res k n q L st Γ h1) : AW l M res k n pc L (.ref b :: .int i :: .ref a :: st) Γ h := by
  subst hq
  have kk := kk (am_setR h a i.toNatClampNeg (some b))
  by_cases hok : am_ok i (am_len Γ a) = true
  · rw [if_pos hok] at hf
    rw [am_len_of hk] at hok
    intro p e s m args below meth c base D cI cF H locs ls C hW hS hL
    refine va_astq (r := (RX1, TX1, 6)) C.1 C.2.1 C.2.2.2.2.2.2.2.2.1 hW.2 am_D hS.1 a 1 b 1 (by rw [am_at hk, am_cell_F]) rfl (by rw [am_at hb, am_cell_O (by decide)]) rfl (am_ok_in hok) hd (fun H1 locs1 a1 _ a3 => ?_)
    refine kk hf p e s m args below meth c base D cI cF H1 locs1 ls C ⟨am_WT_setF hW.1 hk hb, ?_⟩ ⟨a3, hS.2⟩ hL
    rw [← am_ws_set (h := h) (h' := am_setR h a i.toNatClampNeg (some b)) hk (fun b hb => rfl) (fun b hb => by simp [am_setR, hb]) (by rw [am_cell_F])]
    have e : (fun z => ((am_setR h a i.toNatClampNeg (some b)).2 a z).map (fun q => base + q)) = va_up (fun z => (h.2 a z).map (fun q => base + q)) i.toNatClampNeg (some (base + b)) := by
      funext z
      by_cases hz : z = i.toNatClampNeg <;> simp [am_setR, va_up, hz]
    rw [e]
    exact a1
  · rw [if_neg hok] at hf
    cases hf
theorem a_objInit {idx a : Nat} (hd : decode M.1 pc = .ok (.invokespecial idx, 3)) (hq : pc + 3 = q) (hl : Cond.methodLink M.2.2.2.1 idx Lib.objectInit ∈ am_T) (hi : Cond.instanceMethod Lib.objectInit ∈ am_T) (hc : Cond.code Lib.objectInit ⟨#[0xb1]⟩ 1 none ∈ am_T) (hR : 1 ≤ M.2.2.2.2.2.1.frames ∧ (st.map fun v => v.category).sum + 12 ≤ M.2.2.2.2.2.1.locals) (kk : AW l M res k n q L st Γ h) : AW l M res k n pc L (.ref a :: st) Γ h := by
  subst hq
  intro p e s m args below meth c base D cI cF H locs ls C hW hS hL
  have hR2 := hR.2
  refine W.objInit (rest := st.map (am_v base)) C.1 C.2.1 C.2.2.2.2.1 (C.2.2.2.2.2.1 _ hl) (C.2.2.2.2.2.1 _ hi) (C.2.2.2.2.2.1 _ hc) rfl (by rw [C.2.2.2.1]; exact hL.1) rfl hd hR.1 ?_ (kk p e s m args below meth c base D cI cF H locs ls C hW hS hL)
  rw [am_cats]
  show 2 * 0 + (st.map fun v => v.category).sum + 12 ≤ _
  omega
theorem a_callI {idx b ar : Nat} {y : MethodName} {M' : AMt} {As : List Value} {r1 : ARs} (hM : AR l y M' (.ref b :: As) Γ h r1) (hc : am_CC y M' ar) (hret : M'.2.2.1 = none) (hl : Cond.methodLink M.2.2.2.1 idx y ∈ am_T) (hi : Cond.instanceMethod y ∈ am_T) (hy : y.name = "<init>") (hR : am_CR M M' k n)
    (hd : decode M.1 pc = .ok (.invokespecial idx, 3)) (hq : pc + 3 = q) (hn : As.length = ar) (hst : (st.map fun v => v.category).sum ≤ 8) (hg : r1.2.1.length = Γ.length + M'.2.2.2.2.2.2.1) {st0 : List Value} (hs0 : st0 = As.reverse ++ .ref b :: st)
    (kk : AW l M res (k + M'.2.2.2.2.2.2.1) (n + M'.2.2.2.2.2.2.2.1) q L (r1.1.toList ++ st) r1.2.1 r1.2.2) : AW l M res k n pc L st0 Γ h := by
  subst hq
  subst hs0
  intro p e s m args below meth c base D cI cF H locs ls C hW hS hL
  refine am_sz (fun hu => ?_)
  have hpre := am_pre (As := .ref b :: As) C hW hS hu
  have cb : CallB M.2.2.2.2.2.1 s args M.2.2.2.1 idx y M'.1 M'.2.1 none (.code y M'.1 M'.2.1 M'.2.2.1 :: am_T) M'.2.2.2.2.2.1 M'.2.2.2.2.2.2.1 M'.2.2.2.2.2.2.2.1 ar := callB_of (ws' := am_T) ar C.2.2.2.2.2.1 (am_goodc hc) (by rw [hret]) hc.2.2.2.1 hc.2.2.2.2 (C.2.2.2.2.2.1 _ hc.2.1) (C.2.2.2.2.2.1 _ hl) hc.2.2.1 ⟨hR.1, hR.2.1⟩
  have run := va_runI (H := H) (locs := locs) (cells := k) (slots := n) (rest := st.map (am_v base)) (below := below) (meth := meth) (e := e) (g := F0 m pc ls ((As.reverse ++ .ref b :: st).map (am_v base))) (b := base + b) (As := As.map (am_v base)) ⟨C.1, C.2.1, C.2.2.2.1, C.2.2.2.2.1, C.2.2.2.2.2.1⟩ (hM base D cI cF) ⟨cb, hy, C.2.2.2.2.2.1 _ hi⟩ ⟨am_blind, hpre⟩ rfl (by simpa using hn) hL.1 (by simp [am_v]) (am_room hst) hd ⟨hR.2.2.1, hR.2.2.2⟩
  refine am_cont run hS hg (fun H1 locs1 a0 a1 a2 => ?_)
  have := kk p e s m args below meth c base D cI cF H1 locs1 ls C a1 a2 hL
  rw [List.map_append] at this
  cases hr1 : r1.1 with
  | none => rw [hr1] at this; exact this
  | some v => rw [hr1] at this; exact this
theorem a_callIN {idx b ar : Nat} {y : MethodName} {M' : AMt} {As : List Value} {r1 : ARs} (hM : AR l y M' (.ref b :: As) Γ h r1) (hc : am_CC y M' ar) (hret : M'.2.2.1 = none) {host : String} (hl : Cond.methodLinkNest M.2.2.2.1 idx y host ∈ am_nw) (hi : Cond.instanceMethod y ∈ am_T) (hy : y.name = "<init>") (hR : am_CR M M' k n)
    (hd : decode M.1 pc = .ok (.invokespecial idx, 3)) (hq : pc + 3 = q) (hn : As.length = ar) (hst : (st.map fun v => v.category).sum ≤ 8) (hg : r1.2.1.length = Γ.length + M'.2.2.2.2.2.2.1) {st0 : List Value} (hs0 : st0 = As.reverse ++ .ref b :: st)
    (kk : AW l M res (k + M'.2.2.2.2.2.2.1) (n + M'.2.2.2.2.2.2.2.1) q L (r1.1.toList ++ st) r1.2.1 r1.2.2) : AW l M res k n pc L st0 Γ h := by
  subst hq
  subst hs0
  intro p e s m args below meth c base D cI cF H locs ls C hW hS hL
  refine am_sz (fun hu => ?_)
  have hpre := am_pre (As := .ref b :: As) C hW hS hu
  have cb := va_cnB (R := M.2.2.2.2.2.1) (mc := M'.2.2.2.2.2.2.1) (ms := M'.2.2.2.2.2.2.2.1) (ret := none) (ws := .code y M'.1 M'.2.1 M'.2.2.1 :: am_T) (ws' := am_T) ar C.2.2.2.2.2.1 (am_goodc hc) (by rw [hret]) hc.2.2.2.1 hc.2.2.2.2 (C.2.2.2.2.2.2.2.2.2.1.1 _ hl) (C.2.2.2.2.2.1 _ hc.2.1) hc.2.2.1 ⟨hR.1, hR.2.1⟩
  have run := va_runIN (H := H) (locs := locs) (cells := k) (slots := n) (rest := st.map (am_v base)) (below := below) (meth := meth) (e := e) (g := F0 m pc ls ((As.reverse ++ .ref b :: st).map (am_v base))) (b := base + b) (As := As.map (am_v base)) ⟨C.1, C.2.1, C.2.2.2.1, C.2.2.2.2.1, C.2.2.2.2.2.1⟩ (hM base D cI cF) ⟨cb, hy, C.2.2.2.2.2.1 _ hi⟩ ⟨am_blind, hpre⟩ rfl (by simpa using hn) hL.1 (by simp [am_v]) (am_room hst) hd ⟨hR.2.2.1, hR.2.2.2⟩
  refine am_cont run hS hg (fun H1 locs1 a0 a1 a2 => ?_)
  have := kk p e s m args below meth c base D cI cF H1 locs1 ls C a1 a2 hL
  rw [List.map_append] at this
  cases hr1 : r1.1 with
  | none => rw [hr1] at this; exact this
  | some v => rw [hr1] at this; exact this
end AMC

theorem fp_RX8_12 : am_FP RX8 12 8 0 (.object "ZSaves$Reader") true := ⟨RX8, TX8, 16, tyX8, ⟨by decide, rfl, rfl, am_in8⟩, by decide, Or.inl tw_228, tyX8_ok, nmX8, by decide +kernel, rfl, fun _ => rfl⟩
theorem fp_RX8_19 : am_FP RX8 19 8 1 (.object "ZSaves$Writer") true := ⟨RX8, TX8, 16, tyX8, ⟨by decide, rfl, rfl, am_in8⟩, by decide, Or.inl tw_229, tyX8_ok, nmX8, by decide +kernel, rfl, fun _ => rfl⟩
theorem fl_RX8_23 : am_FL RX8 23 3 0 := ⟨RX3, TX3, 5, ⟨by decide, rfl, rfl, am_in3⟩, by decide, Or.inr ⟨_, tn_51⟩⟩
theorem fp_RX8_27 : am_FP RX8 27 8 2 (.object "ZSaves$Bytes") true := ⟨RX8, TX8, 16, tyX8, ⟨by decide, rfl, rfl, am_in8⟩, by decide, Or.inl tw_230, tyX8_ok, nmX8, by decide +kernel, rfl, fun _ => rfl⟩
theorem fl_RX8_30 : am_FL RX8 30 7 0 := ⟨RX7, TX7, 5, ⟨by decide, rfl, rfl, am_in7⟩, by decide, Or.inr ⟨_, tn_76⟩⟩
theorem fp_RX8_31 : am_FP RX8 31 8 3 (.object "ZSaves$Bytes") true := ⟨RX8, TX8, 16, tyX8, ⟨by decide, rfl, rfl, am_in8⟩, by decide, Or.inl tw_231, tyX8_ok, nmX8, by decide +kernel, rfl, fun _ => rfl⟩
theorem fp_RX8_39 : am_FP RX8 39 8 4 (.object "ZSaves$Bytes") true := ⟨RX8, TX8, 16, tyX8, ⟨by decide, rfl, rfl, am_in8⟩, by decide, Or.inl tw_232, tyX8_ok, nmX8, by decide +kernel, rfl, fun _ => rfl⟩
theorem fp_RX8_42 : am_FP RX8 42 8 5 (.object "ZSaves$Bytes") true := ⟨RX8, TX8, 16, tyX8, ⟨by decide, rfl, rfl, am_in8⟩, by decide, Or.inl tw_233, tyX8_ok, nmX8, by decide +kernel, rfl, fun _ => rfl⟩
theorem fp_RX8_48 : am_FP RX8 48 8 6 (.object "ZSaves$Story") true := ⟨RX8, TX8, 16, tyX8, ⟨by decide, rfl, rfl, am_in8⟩, by decide, Or.inl tw_234, tyX8_ok, nmX8, by decide +kernel, rfl, fun _ => rfl⟩
theorem fp_RX8_55 : am_FP RX8 55 8 7 (.object "ZSaves$Kept") true := ⟨RX8, TX8, 16, tyX8, ⟨by decide, rfl, rfl, am_in8⟩, by decide, Or.inl tw_235, tyX8_ok, nmX8, by decide +kernel, rfl, fun _ => rfl⟩
theorem fp_RX0_15 : am_FP RX0 15 0 0 (.array .int) true := ⟨RX0, TX0, 2, tyX0, ⟨by decide, rfl, rfl, am_in0⟩, by decide, Or.inl tw_37, tyX0_ok, nmX0, by decide +kernel, rfl, fun _ => rfl⟩
theorem fp_RX1_9 : am_FP RX1 9 1 0 (.array .int) true := ⟨RX1, TX1, 6, tyX1, ⟨by decide, rfl, rfl, am_in1⟩, by decide, Or.inl tw_156, tyX1_ok, nmX1, by decide +kernel, rfl, fun _ => rfl⟩
theorem fp_RX2_14 : am_FP RX2 14 2 0 (.object "ZSaves$Bytes") true := ⟨RX2, TX2, 6, tyX2, ⟨by decide, rfl, rfl, am_in2⟩, by decide, Or.inl tw_121, tyX2_ok, nmX2, by decide +kernel, rfl, fun _ => rfl⟩
theorem fp_RX2_20 : am_FP RX2 20 2 1 (.array .int) true := ⟨RX2, TX2, 6, tyX2, ⟨by decide, rfl, rfl, am_in2⟩, by decide, Or.inl tw_123, tyX2_ok, nmX2, by decide +kernel, rfl, fun _ => rfl⟩
theorem fp_RX2_24 : am_FP RX2 24 2 2 (.array .int) true := ⟨RX2, TX2, 6, tyX2, ⟨by decide, rfl, rfl, am_in2⟩, by decide, Or.inl tw_124, tyX2_ok, nmX2, by decide +kernel, rfl, fun _ => rfl⟩
theorem fp_RX2_27 : am_FP RX2 27 2 3 (.array .int) true := ⟨RX2, TX2, 6, tyX2, ⟨by decide, rfl, rfl, am_in2⟩, by decide, Or.inl tw_125, tyX2_ok, nmX2, by decide +kernel, rfl, fun _ => rfl⟩
theorem fp_RX2_34 : am_FP RX2 34 2 5 (.int) false := ⟨RX2, TX2, 6, tyX2, ⟨by decide, rfl, rfl, am_in2⟩, by decide, Or.inl tw_128, tyX2_ok, nmX2, by decide +kernel, rfl, fun z => by cases z⟩
theorem fp_RX3_14 : am_FP RX3 14 3 0 (.object "ZSaves$Bytes") true := ⟨RX3, TX3, 5, tyX3, ⟨by decide, rfl, rfl, am_in3⟩, by decide, Or.inl tw_50, tyX3_ok, nmX3, by decide +kernel, rfl, fun _ => rfl⟩
theorem fp_RX4_9 : am_FP RX4 9 4 0 (.array .int) true := ⟨RX4, TX4, 5, tyX4, ⟨by decide, rfl, rfl, am_in4⟩, by decide, Or.inl tw_180, tyX4_ok, nmX4, by decide +kernel, rfl, fun _ => rfl⟩
theorem fp_RX4_17 : am_FP RX4 17 4 1 (.array (.object "ZSaves$Frame")) true := ⟨RX4, TX4, 5, tyX4, ⟨by decide, rfl, rfl, am_in4⟩, by decide, Or.inl tw_181, tyX4_ok, nmX4, by decide +kernel, rfl, fun _ => rfl⟩
theorem fp_RX5_9 : am_FP RX5 9 5 0 (.array .int) true := ⟨RX5, TX5, 3, tyX5, ⟨by decide, rfl, rfl, am_in5⟩, by decide, Or.inl tw_101, tyX5_ok, nmX5, by decide +kernel, rfl, fun _ => rfl⟩
theorem fp_RX5_15 : am_FP RX5 15 5 1 (.array .int) true := ⟨RX5, TX5, 3, tyX5, ⟨by decide, rfl, rfl, am_in5⟩, by decide, Or.inl tw_102, tyX5_ok, nmX5, by decide +kernel, rfl, fun _ => rfl⟩
theorem fp_RX6_14 : am_FP RX6 14 6 0 (.object "ZSaves$Bytes") true := ⟨RX6, TX6, 4, tyX6, ⟨by decide, rfl, rfl, am_in6⟩, by decide, Or.inl tw_210, tyX6_ok, nmX6, by decide +kernel, rfl, fun _ => rfl⟩
theorem fp_RX6_20 : am_FP RX6 20 6 1 (.array .int) true := ⟨RX6, TX6, 4, tyX6, ⟨by decide, rfl, rfl, am_in6⟩, by decide, Or.inl tw_212, tyX6_ok, nmX6, by decide +kernel, rfl, fun _ => rfl⟩
theorem fp_RX6_24 : am_FP RX6 24 6 2 (.array .int) true := ⟨RX6, TX6, 4, tyX6, ⟨by decide, rfl, rfl, am_in6⟩, by decide, Or.inl tw_214, tyX6_ok, nmX6, by decide +kernel, rfl, fun _ => rfl⟩
theorem fp_RX7_14 : am_FP RX7 14 7 0 (.object "ZSaves$Bytes") true := ⟨RX7, TX7, 5, tyX7, ⟨by decide, rfl, rfl, am_in7⟩, by decide, Or.inl tw_75, tyX7_ok, nmX7, by decide +kernel, rfl, fun _ => rfl⟩
theorem fp_RX7_20 : am_FP RX7 20 7 1 (.array .int) true := ⟨RX7, TX7, 5, tyX7, ⟨by decide, rfl, rfl, am_in7⟩, by decide, Or.inl tw_77, tyX7_ok, nmX7, by decide +kernel, rfl, fun _ => rfl⟩
theorem fp_RX7_24 : am_FP RX7 24 7 2 (.array .int) true := ⟨RX7, TX7, 5, tyX7, ⟨by decide, rfl, rfl, am_in7⟩, by decide, Or.inl tw_78, tyX7_ok, nmX7, by decide +kernel, rfl, fun _ => rfl⟩
theorem fp_RX7_27 : am_FP RX7 27 7 3 (.array .int) true := ⟨RX7, TX7, 5, tyX7, ⟨by decide, rfl, rfl, am_in7⟩, by decide, Or.inl tw_79, tyX7_ok, nmX7, by decide +kernel, rfl, fun _ => rfl⟩
theorem fp_RX9_9 : am_FP RX9 9 9 0 (.array .int) true := ⟨RX9, TX9, 29, tyX9, ⟨by decide, rfl, rfl, am_in9⟩, by decide, Or.inl tw_719, tyX9_ok, nmX9, by decide +kernel, rfl, fun _ => rfl⟩
theorem fp_RX9_13 : am_FP RX9 13 9 2 (.array .int) true := ⟨RX9, TX9, 29, tyX9, ⟨by decide, rfl, rfl, am_in9⟩, by decide, Or.inl tw_721, tyX9_ok, nmX9, by decide +kernel, rfl, fun _ => rfl⟩
theorem fp_RX9_16 : am_FP RX9 16 9 4 (.array .int) true := ⟨RX9, TX9, 29, tyX9, ⟨by decide, rfl, rfl, am_in9⟩, by decide, Or.inl tw_723, tyX9_ok, nmX9, by decide +kernel, rfl, fun _ => rfl⟩
theorem fp_RX9_26 : am_FP RX9 26 9 7 (.array .int) true := ⟨RX9, TX9, 29, tyX9, ⟨by decide, rfl, rfl, am_in9⟩, by decide, Or.inl tw_726, tyX9_ok, nmX9, by decide +kernel, rfl, fun _ => rfl⟩
theorem fp_RX9_29 : am_FP RX9 29 9 8 (.array .int) true := ⟨RX9, TX9, 29, tyX9, ⟨by decide, rfl, rfl, am_in9⟩, by decide, Or.inl tw_727, tyX9_ok, nmX9, by decide +kernel, rfl, fun _ => rfl⟩
theorem fp_RX9_32 : am_FP RX9 32 9 10 (.array .int) true := ⟨RX9, TX9, 29, tyX9, ⟨by decide, rfl, rfl, am_in9⟩, by decide, Or.inl tw_729, tyX9_ok, nmX9, by decide +kernel, rfl, fun _ => rfl⟩
theorem fp_RX9_35 : am_FP RX9 35 9 11 (.array .int) true := ⟨RX9, TX9, 29, tyX9, ⟨by decide, rfl, rfl, am_in9⟩, by decide, Or.inl tw_730, tyX9_ok, nmX9, by decide +kernel, rfl, fun _ => rfl⟩
theorem fp_RX9_38 : am_FP RX9 38 9 12 (.array .int) true := ⟨RX9, TX9, 29, tyX9, ⟨by decide, rfl, rfl, am_in9⟩, by decide, Or.inl tw_731, tyX9_ok, nmX9, by decide +kernel, rfl, fun _ => rfl⟩
theorem fp_RX9_41 : am_FP RX9 41 9 13 (.array .int) true := ⟨RX9, TX9, 29, tyX9, ⟨by decide, rfl, rfl, am_in9⟩, by decide, Or.inl tw_732, tyX9_ok, nmX9, by decide +kernel, rfl, fun _ => rfl⟩
theorem fp_RX9_47 : am_FP RX9 47 9 16 (.array .int) true := ⟨RX9, TX9, 29, tyX9, ⟨by decide, rfl, rfl, am_in9⟩, by decide, Or.inl tw_735, tyX9_ok, nmX9, by decide +kernel, rfl, fun _ => rfl⟩
theorem fp_RX9_50 : am_FP RX9 50 9 18 (.array .int) true := ⟨RX9, TX9, 29, tyX9, ⟨by decide, rfl, rfl, am_in9⟩, by decide, Or.inl tw_737, tyX9_ok, nmX9, by decide +kernel, rfl, fun _ => rfl⟩
theorem fp_RX9_56 : am_FP RX9 56 9 22 (.array .int) true := ⟨RX9, TX9, 29, tyX9, ⟨by decide, rfl, rfl, am_in9⟩, by decide, Or.inl tw_741, tyX9_ok, nmX9, by decide +kernel, rfl, fun _ => rfl⟩
theorem fp_RX9_59 : am_FP RX9 59 9 23 (.array .int) true := ⟨RX9, TX9, 29, tyX9, ⟨by decide, rfl, rfl, am_in9⟩, by decide, Or.inl tw_742, tyX9_ok, nmX9, by decide +kernel, rfl, fun _ => rfl⟩
theorem fp_RX9_62 : am_FP RX9 62 9 24 (.array .int) true := ⟨RX9, TX9, 29, tyX9, ⟨by decide, rfl, rfl, am_in9⟩, by decide, Or.inl tw_743, tyX9_ok, nmX9, by decide +kernel, rfl, fun _ => rfl⟩
theorem fp_RX9_65 : am_FP RX9 65 9 26 (.array .int) true := ⟨RX9, TX9, 29, tyX9, ⟨by decide, rfl, rfl, am_in9⟩, by decide, Or.inl tw_745, tyX9_ok, nmX9, by decide +kernel, rfl, fun _ => rfl⟩
abbrev mX0_init (N : Nat) : AMt := (cX0_init, 2, none, RX0, true, am_rm 1 1 N, 1, N, 99)
theorem ccX0_init (N : Nat) : am_CC yX0_init (mX0_init N) 1 := ⟨tw_32, tw_3, ⟨by decide +kernel, by decide +kernel, by decide +kernel⟩, rfl, rfl⟩
def fX0_init (Γ : Gm) (v0 : Nat) (N : Nat) (h : AH) : Option (Gm × AH) :=
  am_new3 Γ h (10, N) fun G1 b1 h1 =>
  am_let (am_setR h1 v0 0 (some b1)) fun h2 =>
  am_let (am_setI h2 v0 1 (nI 0)) fun h3 =>
  some (G1, h3)
theorem eX0_init {Γ Γ' : Gm} {v0 N : Nat} {h h' : AH} (hf : fX0_init Γ v0 N h = some (Γ', h')) : am_up Γ Γ' ∧ Γ'.length = Γ.length + 1 := by
  unfold fX0_init at hf
  obtain ⟨G1, b1, h1, u1, hf⟩ := am_new3_some hf
  obtain ⟨h2, hf⟩ := am_let_some hf
  obtain ⟨h3, hf⟩ := am_let_some hf
  cases hf
  exact u1
theorem am_max0 {N : Nat} (hN : N ≤ 100000) : am_max (nI N) (nI 0) = nI N := by
  unfold am_max
  rw [if_neg]
  exact nI_nlt (Nat.zero_le _) (by omega)
set_option maxRecDepth 100000 in
set_option maxHeartbeats 4000000 in
theorem sX0_init (l : Launch) {Γ Γ' : Gm} {h h' : AH} {v0 n_v0 N : Nat} (hN : N ≤ 100000) (k_v0 : Γ[v0]? = some (0, n_v0)) (hf : fX0_init Γ v0 N h = some (Γ', h')) : AR l yX0_init (mX0_init N) [.ref v0, .int (nI N)] Γ h (none, Γ', h') := by
  refine AR.of [some (.ref v0), some (.int (nI N))] (by decide +kernel) rfl (fun _ => rfl) (Nat.le_of_ble_eq_true rfl) ⟨rfl, ⟨rfl, trivial⟩⟩ ?_
  unfold fX0_init at hf
  refine a_aload_n dX0_init_0 rfl rfl ?_
  refine a_objInit dX0_init_1 rfl tw_33 tw_20 tw_21 ⟨Nat.le_of_ble_eq_true rfl, Nat.le_of_ble_eq_true rfl⟩ ?_
  refine a_aload_n dX0_init_4 rfl rfl ?_
  refine a_iload_n dX0_init_5 rfl rfl ?_
  refine a_iconst (v := nI 0) dX0_init_6 rfl (by decide) ?_
  refine a_max dX0_init_7 rfl tw_34 tw_35 tw_4 tw_36 ⟨Nat.le_of_ble_eq_true rfl, Nat.le_of_ble_eq_true rfl, Nat.zero_le _, Nat.zero_le _⟩ ?_
  rw [am_max0 hN]
  refine a_newa (N := N) dX0_init_10 rfl tw_49 (nI_pos (by omega)) (nI_clamp (by omega)) (by omega) ⟨Nat.le_of_ble_eq_true rfl, by show 0 + N ≤ N; omega⟩ hf (fun G1 b1 h1 k_b1 u1 hf => ?_)
  refine a_putR fp_RX0_15 (fun _ => rfl) (fun _ => rfl) (fun _ => rfl) dX0_init_12 rfl (u1 _ _ k_v0) (by decide) k_b1 hf (fun h2 hf => ?_)
  refine a_aload_n dX0_init_15 rfl rfl ?_
  refine a_iconst (v := nI 0) dX0_init_16 rfl (by decide) ?_
  refine a_putI fp_RX0_21 dX0_init_17 rfl (u1 _ _ k_v0) rfl hf (fun h3 hf => ?_)
  cases hf
  exact a_ret dX0_init_20 rfl rfl (by show N = 0 + N; omega)
abbrev mX1_init : AMt := (cX1_init, 1, none, RX1, true, am_rm 1 1 55, 1, 55, 99)
theorem ccX1_init : am_CC yX1_init mX1_init 0 := ⟨tw_154, tw_9, ⟨by decide +kernel, by decide +kernel, by decide +kernel⟩, rfl, rfl⟩
def fX1_init (Γ : Gm) (v0 : Nat) (h : AH) : Option (Gm × AH) :=
  am_new3 Γ h (10, 55) fun G1 b2 h3 =>
  am_let (am_setR h3 v0 0 (some b2)) fun h5 =>
  am_let (am_setI h5 v0 1 (nI 0)) fun h6 =>
  am_let (am_setI h6 v0 2 (nI 0)) fun h7 =>
  am_let (am_setI h7 v0 3 (nI 0)) fun h8 =>
  am_let (am_setI h8 v0 4 (nI 0)) fun h9 =>
  am_let (am_setI h9 v0 5 (nI 0)) fun h10 =>
  some (G1, h10)
set_option maxRecDepth 100000 in
set_option maxHeartbeats 4000000 in
theorem eX1_init {Γ Γ' : Gm} {v0 : Nat} {h h' : AH} (hf : fX1_init Γ v0 h = some (Γ', h')) : am_up Γ Γ' ∧ Γ'.length = Γ.length + 1 := by
  unfold fX1_init at hf
  obtain ⟨G1, b2, h3, u4, hf⟩ := am_new3_some hf
  obtain ⟨h5, hf⟩ := am_let_some hf
  obtain ⟨h6, hf⟩ := am_let_some hf
  obtain ⟨h7, hf⟩ := am_let_some hf
  obtain ⟨h8, hf⟩ := am_let_some hf
  obtain ⟨h9, hf⟩ := am_let_some hf
  obtain ⟨h10, hf⟩ := am_let_some hf
  cases hf
  exact ⟨fun a kd hx => u4.1 _ _ hx, by have := u4.2; omega⟩
set_option maxRecDepth 100000 in
set_option maxHeartbeats 8000000 in
theorem sX1_init (l : Launch) {Γ Γ' : Gm} {h h' : AH} {v0 n_v0 : Nat} (k_v0 : Γ[v0]? = some (1, n_v0)) (hf : fX1_init Γ v0 h = some (Γ', h')) : AR l yX1_init mX1_init [.ref v0] Γ h (none, Γ', h') := by
  refine AR.of [some (.ref v0)] (by decide +kernel) rfl (fun _ => rfl) (Nat.le_of_ble_eq_true rfl) ⟨rfl, trivial⟩ ?_
  unfold fX1_init at hf
  refine a_aload_n dX1_init_0 rfl rfl ?_
  refine a_objInit dX1_init_1 rfl tw_155 tw_20 tw_21 ⟨Nat.le_of_ble_eq_true rfl, Nat.le_of_ble_eq_true rfl⟩ ?_
  refine a_aload_n dX1_init_4 rfl rfl ?_
  refine a_bipush (v := nI 55) dX1_init_5 rfl (by decide) ?_
  refine a_newa (N := 55) dX1_init_7 rfl tw_49 (by decide) (by decide) (by decide) ⟨Nat.le_of_ble_eq_true rfl, Nat.le_of_ble_eq_true rfl⟩ hf (fun G1 b2 h3 k_b2 u4 hf => ?_)
  refine a_putR fp_RX1_9 (fun _ => rfl) (fun _ => rfl) (fun _ => rfl) dX1_init_9 rfl (u4 _ _ k_v0) (by decide) k_b2 hf (fun h5 hf => ?_)
  refine a_aload_n dX1_init_12 rfl rfl ?_
  refine a_iconst (v := nI 0) dX1_init_13 rfl (by decide) ?_
  refine a_putI fp_RX1_15 dX1_init_14 rfl (u4 _ _ k_v0) rfl hf (fun h6 hf => ?_)
  refine a_aload_n dX1_init_17 rfl rfl ?_
  refine a_iconst (v := nI 0) dX1_init_18 rfl (by decide) ?_
  refine a_putI fp_RX1_19 dX1_init_19 rfl (u4 _ _ k_v0) rfl hf (fun h7 hf => ?_)
  refine a_aload_n dX1_init_22 rfl rfl ?_
  refine a_iconst (v := nI 0) dX1_init_23 rfl (by decide) ?_
  refine a_putI fp_RX1_22 dX1_init_24 rfl (u4 _ _ k_v0) rfl hf (fun h8 hf => ?_)
  refine a_aload_n dX1_init_27 rfl rfl ?_
  refine a_iconst (v := nI 0) dX1_init_28 rfl (by decide) ?_
  refine a_putI fp_RX1_25 dX1_init_29 rfl (u4 _ _ k_v0) rfl hf (fun h9 hf => ?_)
  refine a_aload_n dX1_init_32 rfl rfl ?_
  refine a_iconst (v := nI 0) dX1_init_33 rfl (by decide) ?_
  refine a_putI fp_RX1_28 dX1_init_34 rfl (u4 _ _ k_v0) rfl hf (fun h10 hf => ?_)
  cases hf
  exact a_ret dX1_init_37 rfl rfl rfl
abbrev mX5_init : AMt := (cX5_init, 1, none, RX5, true, am_rm 1 2 1010, 2, 1010, 99)
theorem ccX5_init : am_CC yX5_init mX5_init 0 := ⟨tw_99, tw_6, ⟨by decide +kernel, by decide +kernel, by decide +kernel⟩, rfl, rfl⟩
def fX5_init (Γ : Gm) (v0 : Nat) (h : AH) : Option (Gm × AH) :=
  am_new3 Γ h (10, 10) fun G1 b2 h3 =>
  am_let (am_setR h3 v0 0 (some b2)) fun h5 =>
  am_new3 G1 h5 (10, 1000) fun G6 b7 h8 =>
  am_let (am_setR h8 v0 1 (some b7)) fun h10 =>
  am_let (am_setI h10 v0 2 (nI 0)) fun h11 =>
  some (G6, h11)
set_option maxRecDepth 100000 in
set_option maxHeartbeats 4000000 in
theorem eX5_init {Γ Γ' : Gm} {v0 : Nat} {h h' : AH} (hf : fX5_init Γ v0 h = some (Γ', h')) : am_up Γ Γ' ∧ Γ'.length = Γ.length + 2 := by
  unfold fX5_init at hf
  obtain ⟨G1, b2, h3, u4, hf⟩ := am_new3_some hf
  obtain ⟨h5, hf⟩ := am_let_some hf
  obtain ⟨G6, b7, h8, u9, hf⟩ := am_new3_some hf
  obtain ⟨h10, hf⟩ := am_let_some hf
  obtain ⟨h11, hf⟩ := am_let_some hf
  cases hf
  exact ⟨fun a kd hx => u9.1 _ _ (u4.1 _ _ hx), by have := u4.2; have := u9.2; omega⟩
set_option maxRecDepth 100000 in
set_option maxHeartbeats 8000000 in
theorem sX5_init (l : Launch) {Γ Γ' : Gm} {h h' : AH} {v0 n_v0 : Nat} (k_v0 : Γ[v0]? = some (5, n_v0)) (hf : fX5_init Γ v0 h = some (Γ', h')) : AR l yX5_init mX5_init [.ref v0] Γ h (none, Γ', h') := by
  refine AR.of [some (.ref v0)] (by decide +kernel) rfl (fun _ => rfl) (Nat.le_of_ble_eq_true rfl) ⟨rfl, trivial⟩ ?_
  unfold fX5_init at hf
  refine a_aload_n dX5_init_0 rfl rfl ?_
  refine a_objInit dX5_init_1 rfl tw_100 tw_20 tw_21 ⟨Nat.le_of_ble_eq_true rfl, Nat.le_of_ble_eq_true rfl⟩ ?_
  refine a_aload_n dX5_init_4 rfl rfl ?_
  refine a_bipush (v := nI 10) dX5_init_5 rfl (by decide) ?_
  refine a_newa (N := 10) dX5_init_7 rfl tw_49 (by decide) (by decide) (by decide) ⟨Nat.le_of_ble_eq_true rfl, Nat.le_of_ble_eq_true rfl⟩ hf (fun G1 b2 h3 k_b2 u4 hf => ?_)
  refine a_putR fp_RX5_9 (fun _ => rfl) (fun _ => rfl) (fun _ => rfl) dX5_init_9 rfl (u4 _ _ k_v0) (by decide) k_b2 hf (fun h5 hf => ?_)
  refine a_aload_n dX5_init_12 rfl rfl ?_
  refine a_sipush (v := nI 1000) dX5_init_13 rfl (by decide) ?_
  refine a_newa (N := 1000) dX5_init_16 rfl tw_49 (by decide) (by decide) (by decide) ⟨Nat.le_of_ble_eq_true rfl, Nat.le_of_ble_eq_true rfl⟩ hf (fun G6 b7 h8 k_b7 u9 hf => ?_)
  refine a_putR fp_RX5_15 (fun _ => rfl) (fun _ => rfl) (fun _ => rfl) dX5_init_18 rfl (u9 _ _ (u4 _ _ k_v0)) (by decide) k_b7 hf (fun h10 hf => ?_)
  refine a_aload_n dX5_init_21 rfl rfl ?_
  refine a_iconst (v := nI 0) dX5_init_22 rfl (by decide) ?_
  refine a_putI fp_RX5_18 dX5_init_23 rfl (u9 _ _ (u4 _ _ k_v0)) rfl hf (fun h11 hf => ?_)
  cases hf
  exact a_ret dX5_init_26 rfl rfl rfl
abbrev mX3_init : AMt := (cX3_init, 1, none, RX3, true, am_rm 2 2 2002, 2, 2002, 99)
theorem ccX3_init : am_CC yX3_init mX3_init 0 := ⟨tw_26, tw_2, ⟨by decide +kernel, by decide +kernel, by decide +kernel⟩, rfl, rfl⟩
def fX3_init (Γ : Gm) (v0 : Nat) (h : AH) : Option (Gm × AH) :=
  am_new3 Γ h (0, 0) fun G1 b2 h3 =>
  am_bindG (fX0_init G1 b2 2000 h3) fun G5 h6 =>
  am_let (am_setR h6 v0 0 (some b2)) fun h9 =>
  am_let (am_setI h9 v0 1 (nI 0)) fun h10 =>
  am_let (am_setI h10 v0 2 (nI 0)) fun h11 =>
  am_let (am_setI h11 v0 3 (nI 0)) fun h12 =>
  am_let (am_setI h12 v0 4 (nI 0)) fun h13 =>
  some (G5, h13)
set_option maxRecDepth 100000 in
set_option maxHeartbeats 4000000 in
theorem eX3_init {Γ Γ' : Gm} {v0 : Nat} {h h' : AH} (hf : fX3_init Γ v0 h = some (Γ', h')) : am_up Γ Γ' ∧ Γ'.length = Γ.length + 2 := by
  unfold fX3_init at hf
  obtain ⟨G1, b2, h3, u4, hf⟩ := am_new3_some hf
  obtain ⟨G5, h6, c7, hf⟩ := am_bindG_some hf
  have u8 := eX0_init c7
  obtain ⟨h9, hf⟩ := am_let_some hf
  obtain ⟨h10, hf⟩ := am_let_some hf
  obtain ⟨h11, hf⟩ := am_let_some hf
  obtain ⟨h12, hf⟩ := am_let_some hf
  obtain ⟨h13, hf⟩ := am_let_some hf
  cases hf
  exact ⟨fun a kd hx => u8.1 _ _ (u4.1 _ _ hx), by have := u4.2; have := u8.2; omega⟩
set_option maxRecDepth 100000 in
set_option maxHeartbeats 8000000 in
theorem sX3_init (l : Launch) {Γ Γ' : Gm} {h h' : AH} {v0 n_v0 : Nat} (k_v0 : Γ[v0]? = some (3, n_v0)) (hf : fX3_init Γ v0 h = some (Γ', h')) : AR l yX3_init mX3_init [.ref v0] Γ h (none, Γ', h') := by
  refine AR.of [some (.ref v0)] (by decide +kernel) rfl (fun _ => rfl) (Nat.le_of_ble_eq_true rfl) ⟨rfl, trivial⟩ ?_
  unfold fX3_init at hf
  refine a_aload_n dX3_init_0 rfl rfl ?_
  refine a_objInit dX3_init_1 rfl tw_27 tw_20 tw_21 ⟨Nat.le_of_ble_eq_true rfl, Nat.le_of_ble_eq_true rfl⟩ ?_
  refine a_aload_n dX3_init_4 rfl rfl ?_
  refine a_new dX3_init_5 rfl tw_28 tw_29 tw_3 ⟨by decide, rfl, rfl, am_in0⟩ tyX0_ok (by decide +kernel) ⟨Nat.le_of_ble_eq_true rfl, Nat.le_of_ble_eq_true rfl⟩ hf (fun G1 b2 h3 k_b2 u4 hf => ?_)
  refine a_dup dX3_init_8 rfl rfl ?_
  refine a_sipush (v := nI 2000) dX3_init_9 rfl (by decide) ?_
  obtain ⟨G5, h6, c7, hf⟩ := am_bindG_some hf
  have u8 := eX0_init c7
  refine a_callI (As := [.int (nI 2000)]) (r1 := (none, G5, h6)) (sX0_init l (by decide) k_b2 c7) (ccX0_init 2000) rfl tw_30 tw_31 rfl ⟨Nat.le_of_ble_eq_true rfl, Nat.le_of_ble_eq_true rfl, Nat.le_of_ble_eq_true rfl, Nat.le_of_ble_eq_true rfl⟩ dX3_init_12 rfl rfl (Nat.le_of_ble_eq_true rfl) u8.2 rfl ?_
  refine a_putR fp_RX3_14 (fun _ => rfl) (fun _ => rfl) (fun _ => rfl) dX3_init_15 rfl (u8.1 _ _ (u4 _ _ k_v0)) (by decide) (u8.1 _ _ k_b2) hf (fun h9 hf => ?_)
  refine a_aload_n dX3_init_18 rfl rfl ?_
  refine a_iconst (v := nI 0) dX3_init_19 rfl (by decide) ?_
  refine a_putZ fp_RX3_20 dX3_init_20 rfl (u8.1 _ _ (u4 _ _ k_v0)) rfl (by decide) hf (fun h10 hf => ?_)
  refine a_aload_n dX3_init_23 rfl rfl ?_
  refine a_iconst (v := nI 0) dX3_init_24 rfl (by decide) ?_
  refine a_putZ fp_RX3_24 dX3_init_25 rfl (u8.1 _ _ (u4 _ _ k_v0)) rfl (by decide) hf (fun h11 hf => ?_)
  refine a_aload_n dX3_init_28 rfl rfl ?_
  refine a_iconst (v := nI 0) dX3_init_29 rfl (by decide) ?_
  refine a_putZ fp_RX3_27 dX3_init_30 rfl (u8.1 _ _ (u4 _ _ k_v0)) rfl (by decide) hf (fun h12 hf => ?_)
  refine a_aload_n dX3_init_33 rfl rfl ?_
  refine a_iconst (v := nI 0) dX3_init_34 rfl (by decide) ?_
  refine a_putI fp_RX3_30 dX3_init_35 rfl (u8.1 _ _ (u4 _ _ k_v0)) rfl hf (fun h13 hf => ?_)
  cases hf
  exact a_ret dX3_init_38 rfl rfl rfl
abbrev mX7_init : AMt := (cX7_init, 1, none, RX7, true, am_rm 2 5 8035, 5, 8035, 99)
theorem ccX7_init : am_CC yX7_init mX7_init 0 := ⟨tw_71, tw_5, ⟨by decide +kernel, by decide +kernel, by decide +kernel⟩, rfl, rfl⟩
def fX7_init (Γ : Gm) (v0 : Nat) (h : AH) : Option (Gm × AH) :=
  am_new3 Γ h (0, 0) fun G1 b2 h3 =>
  am_bindG (fX0_init G1 b2 8000 h3) fun G5 h6 =>
  am_let (am_setR h6 v0 0 (some b2)) fun h9 =>
  am_new3 G5 h9 (10, 11) fun G10 b11 h12 =>
  am_let (am_setR h12 v0 1 (some b11)) fun h14 =>
  am_new3 G10 h14 (10, 11) fun G15 b16 h17 =>
  am_let (am_setR h17 v0 2 (some b16)) fun h19 =>
  am_new3 G15 h19 (10, 11) fun G20 b21 h22 =>
  am_let (am_setR h22 v0 3 (some b21)) fun h24 =>
  am_let (am_setI h24 v0 4 (nI 0)) fun h25 =>
  some (G20, h25)
set_option maxRecDepth 100000 in
set_option maxHeartbeats 4000000 in
theorem eX7_init {Γ Γ' : Gm} {v0 : Nat} {h h' : AH} (hf : fX7_init Γ v0 h = some (Γ', h')) : am_up Γ Γ' ∧ Γ'.length = Γ.length + 5 := by
  unfold fX7_init at hf
  obtain ⟨G1, b2, h3, u4, hf⟩ := am_new3_some hf
  obtain ⟨G5, h6, c7, hf⟩ := am_bindG_some hf
  have u8 := eX0_init c7
  obtain ⟨h9, hf⟩ := am_let_some hf
  obtain ⟨G10, b11, h12, u13, hf⟩ := am_new3_some hf
  obtain ⟨h14, hf⟩ := am_let_some hf
  obtain ⟨G15, b16, h17, u18, hf⟩ := am_new3_some hf
  obtain ⟨h19, hf⟩ := am_let_some hf
  obtain ⟨G20, b21, h22, u23, hf⟩ := am_new3_some hf
  obtain ⟨h24, hf⟩ := am_let_some hf
  obtain ⟨h25, hf⟩ := am_let_some hf
  cases hf
  exact ⟨fun a kd hx => u23.1 _ _ (u18.1 _ _ (u13.1 _ _ (u8.1 _ _ (u4.1 _ _ hx)))), by have := u4.2; have := u8.2; have := u13.2; have := u18.2; have := u23.2; omega⟩
set_option maxRecDepth 100000 in
set_option maxHeartbeats 8000000 in
theorem sX7_init (l : Launch) {Γ Γ' : Gm} {h h' : AH} {v0 n_v0 : Nat} (k_v0 : Γ[v0]? = some (7, n_v0)) (hf : fX7_init Γ v0 h = some (Γ', h')) : AR l yX7_init mX7_init [.ref v0] Γ h (none, Γ', h') := by
  refine AR.of [some (.ref v0)] (by decide +kernel) rfl (fun _ => rfl) (Nat.le_of_ble_eq_true rfl) ⟨rfl, trivial⟩ ?_
  unfold fX7_init at hf
  refine a_aload_n dX7_init_0 rfl rfl ?_
  refine a_objInit dX7_init_1 rfl tw_72 tw_20 tw_21 ⟨Nat.le_of_ble_eq_true rfl, Nat.le_of_ble_eq_true rfl⟩ ?_
  refine a_aload_n dX7_init_4 rfl rfl ?_
  refine a_new dX7_init_5 rfl tw_73 tw_29 tw_3 ⟨by decide, rfl, rfl, am_in0⟩ tyX0_ok (by decide +kernel) ⟨Nat.le_of_ble_eq_true rfl, Nat.le_of_ble_eq_true rfl⟩ hf (fun G1 b2 h3 k_b2 u4 hf => ?_)
  refine a_dup dX7_init_8 rfl rfl ?_
  refine a_sipush (v := nI 8000) dX7_init_9 rfl (by decide) ?_
  obtain ⟨G5, h6, c7, hf⟩ := am_bindG_some hf
  have u8 := eX0_init c7
  refine a_callI (As := [.int (nI 8000)]) (r1 := (none, G5, h6)) (sX0_init l (by decide) k_b2 c7) (ccX0_init 8000) rfl tw_74 tw_31 rfl ⟨Nat.le_of_ble_eq_true rfl, Nat.le_of_ble_eq_true rfl, Nat.le_of_ble_eq_true rfl, Nat.le_of_ble_eq_true rfl⟩ dX7_init_12 rfl rfl (Nat.le_of_ble_eq_true rfl) u8.2 rfl ?_
  refine a_putR fp_RX7_14 (fun _ => rfl) (fun _ => rfl) (fun _ => rfl) dX7_init_15 rfl (u8.1 _ _ (u4 _ _ k_v0)) (by decide) (u8.1 _ _ k_b2) hf (fun h9 hf => ?_)
  refine a_aload_n dX7_init_18 rfl rfl ?_
  refine a_bipush (v := nI 11) dX7_init_19 rfl (by decide) ?_
  refine a_newa (N := 11) dX7_init_21 rfl tw_49 (by decide) (by decide) (by decide) ⟨Nat.le_of_ble_eq_true rfl, Nat.le_of_ble_eq_true rfl⟩ hf (fun G10 b11 h12 k_b11 u13 hf => ?_)
  refine a_putR fp_RX7_20 (fun _ => rfl) (fun _ => rfl) (fun _ => rfl) dX7_init_23 rfl (u13 _ _ (u8.1 _ _ (u4 _ _ k_v0))) (by decide) k_b11 hf (fun h14 hf => ?_)
  refine a_aload_n dX7_init_26 rfl rfl ?_
  refine a_bipush (v := nI 11) dX7_init_27 rfl (by decide) ?_
  refine a_newa (N := 11) dX7_init_29 rfl tw_49 (by decide) (by decide) (by decide) ⟨Nat.le_of_ble_eq_true rfl, Nat.le_of_ble_eq_true rfl⟩ hf (fun G15 b16 h17 k_b16 u18 hf => ?_)
  refine a_putR fp_RX7_24 (fun _ => rfl) (fun _ => rfl) (fun _ => rfl) dX7_init_31 rfl (u18 _ _ (u13 _ _ (u8.1 _ _ (u4 _ _ k_v0)))) (by decide) k_b16 hf (fun h19 hf => ?_)
  refine a_aload_n dX7_init_34 rfl rfl ?_
  refine a_bipush (v := nI 11) dX7_init_35 rfl (by decide) ?_
  refine a_newa (N := 11) dX7_init_37 rfl tw_49 (by decide) (by decide) (by decide) ⟨Nat.le_of_ble_eq_true rfl, Nat.le_of_ble_eq_true rfl⟩ hf (fun G20 b21 h22 k_b21 u23 hf => ?_)
  refine a_putR fp_RX7_27 (fun _ => rfl) (fun _ => rfl) (fun _ => rfl) dX7_init_39 rfl (u23 _ _ (u18 _ _ (u13 _ _ (u8.1 _ _ (u4 _ _ k_v0))))) (by decide) k_b21 hf (fun h24 hf => ?_)
  refine a_aload_n dX7_init_42 rfl rfl ?_
  refine a_iconst (v := nI 0) dX7_init_43 rfl (by decide) ?_
  refine a_putI fp_RX7_30 dX7_init_44 rfl (u23 _ _ (u18 _ _ (u13 _ _ (u8.1 _ _ (u4 _ _ k_v0))))) rfl hf (fun h25 hf => ?_)
  cases hf
  exact a_ret dX7_init_47 rfl rfl rfl
abbrev mX2_init : AMt := (cX2_init, 1, none, RX2, true, am_rm 2 5 10026, 5, 10026, 99)
theorem ccX2_init : am_CC yX2_init mX2_init 0 := ⟨tw_117, tw_7, ⟨by decide +kernel, by decide +kernel, by decide +kernel⟩, rfl, rfl⟩
def fX2_init (Γ : Gm) (v0 : Nat) (h : AH) : Option (Gm × AH) :=
  am_new3 Γ h (0, 0) fun G1 b2 h3 =>
  am_bindG (fX0_init G1 b2 10000 h3) fun G5 h6 =>
  am_let (am_setR h6 v0 0 (some b2)) fun h9 =>
  am_new3 G5 h9 (10, 8) fun G10 b11 h12 =>
  am_let (am_setR h12 v0 1 (some b11)) fun h14 =>
  am_new3 G10 h14 (10, 8) fun G15 b16 h17 =>
  am_let (am_setR h17 v0 2 (some b16)) fun h19 =>
  am_new3 G15 h19 (10, 8) fun G20 b21 h22 =>
  am_let (am_setR h22 v0 3 (some b21)) fun h24 =>
  am_let (am_setI h24 v0 4 (nI 0)) fun h25 =>
  am_let (am_setI h25 v0 5 (nI 1000)) fun h26 =>
  some (G20, h26)
set_option maxRecDepth 100000 in
set_option maxHeartbeats 4000000 in
theorem eX2_init {Γ Γ' : Gm} {v0 : Nat} {h h' : AH} (hf : fX2_init Γ v0 h = some (Γ', h')) : am_up Γ Γ' ∧ Γ'.length = Γ.length + 5 := by
  unfold fX2_init at hf
  obtain ⟨G1, b2, h3, u4, hf⟩ := am_new3_some hf
  obtain ⟨G5, h6, c7, hf⟩ := am_bindG_some hf
  have u8 := eX0_init c7
  obtain ⟨h9, hf⟩ := am_let_some hf
  obtain ⟨G10, b11, h12, u13, hf⟩ := am_new3_some hf
  obtain ⟨h14, hf⟩ := am_let_some hf
  obtain ⟨G15, b16, h17, u18, hf⟩ := am_new3_some hf
  obtain ⟨h19, hf⟩ := am_let_some hf
  obtain ⟨G20, b21, h22, u23, hf⟩ := am_new3_some hf
  obtain ⟨h24, hf⟩ := am_let_some hf
  obtain ⟨h25, hf⟩ := am_let_some hf
  obtain ⟨h26, hf⟩ := am_let_some hf
  cases hf
  exact ⟨fun a kd hx => u23.1 _ _ (u18.1 _ _ (u13.1 _ _ (u8.1 _ _ (u4.1 _ _ hx)))), by have := u4.2; have := u8.2; have := u13.2; have := u18.2; have := u23.2; omega⟩
set_option maxRecDepth 100000 in
set_option maxHeartbeats 8000000 in
theorem sX2_init (l : Launch) {Γ Γ' : Gm} {h h' : AH} {v0 n_v0 : Nat} (k_v0 : Γ[v0]? = some (2, n_v0)) (hf : fX2_init Γ v0 h = some (Γ', h')) : AR l yX2_init mX2_init [.ref v0] Γ h (none, Γ', h') := by
  refine AR.of [some (.ref v0)] (by decide +kernel) rfl (fun _ => rfl) (Nat.le_of_ble_eq_true rfl) ⟨rfl, trivial⟩ ?_
  unfold fX2_init at hf
  refine a_aload_n dX2_init_0 rfl rfl ?_
  refine a_objInit dX2_init_1 rfl tw_118 tw_20 tw_21 ⟨Nat.le_of_ble_eq_true rfl, Nat.le_of_ble_eq_true rfl⟩ ?_
  refine a_aload_n dX2_init_4 rfl rfl ?_
  refine a_new dX2_init_5 rfl tw_119 tw_29 tw_3 ⟨by decide, rfl, rfl, am_in0⟩ tyX0_ok (by decide +kernel) ⟨Nat.le_of_ble_eq_true rfl, Nat.le_of_ble_eq_true rfl⟩ hf (fun G1 b2 h3 k_b2 u4 hf => ?_)
  refine a_dup dX2_init_8 rfl rfl ?_
  refine a_sipush (v := nI 10000) dX2_init_9 rfl (by decide) ?_
  obtain ⟨G5, h6, c7, hf⟩ := am_bindG_some hf
  have u8 := eX0_init c7
  refine a_callI (As := [.int (nI 10000)]) (r1 := (none, G5, h6)) (sX0_init l (by decide) k_b2 c7) (ccX0_init 10000) rfl tw_120 tw_31 rfl ⟨Nat.le_of_ble_eq_true rfl, Nat.le_of_ble_eq_true rfl, Nat.le_of_ble_eq_true rfl, Nat.le_of_ble_eq_true rfl⟩ dX2_init_12 rfl rfl (Nat.le_of_ble_eq_true rfl) u8.2 rfl ?_
  refine a_putR fp_RX2_14 (fun _ => rfl) (fun _ => rfl) (fun _ => rfl) dX2_init_15 rfl (u8.1 _ _ (u4 _ _ k_v0)) (by decide) (u8.1 _ _ k_b2) hf (fun h9 hf => ?_)
  refine a_aload_n dX2_init_18 rfl rfl ?_
  refine a_bipush (v := nI 8) dX2_init_19 rfl (by decide) ?_
  refine a_newa (N := 8) dX2_init_21 rfl tw_49 (by decide) (by decide) (by decide) ⟨Nat.le_of_ble_eq_true rfl, Nat.le_of_ble_eq_true rfl⟩ hf (fun G10 b11 h12 k_b11 u13 hf => ?_)
  refine a_putR fp_RX2_20 (fun _ => rfl) (fun _ => rfl) (fun _ => rfl) dX2_init_23 rfl (u13 _ _ (u8.1 _ _ (u4 _ _ k_v0))) (by decide) k_b11 hf (fun h14 hf => ?_)
  refine a_aload_n dX2_init_26 rfl rfl ?_
  refine a_bipush (v := nI 8) dX2_init_27 rfl (by decide) ?_
  refine a_newa (N := 8) dX2_init_29 rfl tw_49 (by decide) (by decide) (by decide) ⟨Nat.le_of_ble_eq_true rfl, Nat.le_of_ble_eq_true rfl⟩ hf (fun G15 b16 h17 k_b16 u18 hf => ?_)
  refine a_putR fp_RX2_24 (fun _ => rfl) (fun _ => rfl) (fun _ => rfl) dX2_init_31 rfl (u18 _ _ (u13 _ _ (u8.1 _ _ (u4 _ _ k_v0)))) (by decide) k_b16 hf (fun h19 hf => ?_)
  refine a_aload_n dX2_init_34 rfl rfl ?_
  refine a_bipush (v := nI 8) dX2_init_35 rfl (by decide) ?_
  refine a_newa (N := 8) dX2_init_37 rfl tw_49 (by decide) (by decide) (by decide) ⟨Nat.le_of_ble_eq_true rfl, Nat.le_of_ble_eq_true rfl⟩ hf (fun G20 b21 h22 k_b21 u23 hf => ?_)
  refine a_putR fp_RX2_27 (fun _ => rfl) (fun _ => rfl) (fun _ => rfl) dX2_init_39 rfl (u23 _ _ (u18 _ _ (u13 _ _ (u8.1 _ _ (u4 _ _ k_v0))))) (by decide) k_b21 hf (fun h24 hf => ?_)
  refine a_aload_n dX2_init_42 rfl rfl ?_
  refine a_iconst (v := nI 0) dX2_init_43 rfl (by decide) ?_
  refine a_putI fp_RX2_30 dX2_init_44 rfl (u23 _ _ (u18 _ _ (u13 _ _ (u8.1 _ _ (u4 _ _ k_v0))))) rfl hf (fun h25 hf => ?_)
  refine a_aload_n dX2_init_47 rfl rfl ?_
  refine a_sipush (v := nI 1000) dX2_init_48 rfl (by decide) ?_
  refine a_putI fp_RX2_34 dX2_init_51 rfl (u23 _ _ (u18 _ _ (u13 _ _ (u8.1 _ _ (u4 _ _ k_v0))))) rfl hf (fun h26 hf => ?_)
  cases hf
  exact a_ret dX2_init_54 rfl rfl rfl
abbrev mX6_init : AMt := (cX6_init, 1, none, RX6, true, am_rm 2 4 1618, 4, 1618, 99)
theorem ccX6_init : am_CC yX6_init mX6_init 0 := ⟨tw_206, tw_10, ⟨by decide +kernel, by decide +kernel, by decide +kernel⟩, rfl, rfl⟩
def fX6_init (Γ : Gm) (v0 : Nat) (h : AH) : Option (Gm × AH) :=
  am_new3 Γ h (0, 0) fun G1 b2 h3 =>
  am_bindG (fX0_init G1 b2 1600 h3) fun G5 h6 =>
  am_let (am_setR h6 v0 0 (some b2)) fun h9 =>
  am_new3 G5 h9 (10, 8) fun G10 b11 h12 =>
  am_let (am_setR h12 v0 1 (some b11)) fun h14 =>
  am_new3 G10 h14 (10, 8) fun G15 b16 h17 =>
  am_let (am_setR h17 v0 2 (some b16)) fun h19 =>
  am_let (am_setI h19 v0 3 (nI 0)) fun h20 =>
  some (G15, h20)
set_option maxRecDepth 100000 in
set_option maxHeartbeats 4000000 in
theorem eX6_init {Γ Γ' : Gm} {v0 : Nat} {h h' : AH} (hf : fX6_init Γ v0 h = some (Γ', h')) : am_up Γ Γ' ∧ Γ'.length = Γ.length + 4 := by
  unfold fX6_init at hf
  obtain ⟨G1, b2, h3, u4, hf⟩ := am_new3_some hf
  obtain ⟨G5, h6, c7, hf⟩ := am_bindG_some hf
  have u8 := eX0_init c7
  obtain ⟨h9, hf⟩ := am_let_some hf
  obtain ⟨G10, b11, h12, u13, hf⟩ := am_new3_some hf
  obtain ⟨h14, hf⟩ := am_let_some hf
  obtain ⟨G15, b16, h17, u18, hf⟩ := am_new3_some hf
  obtain ⟨h19, hf⟩ := am_let_some hf
  obtain ⟨h20, hf⟩ := am_let_some hf
  cases hf
  exact ⟨fun a kd hx => u18.1 _ _ (u13.1 _ _ (u8.1 _ _ (u4.1 _ _ hx))), by have := u4.2; have := u8.2; have := u13.2; have := u18.2; omega⟩
set_option maxRecDepth 100000 in
set_option maxHeartbeats 8000000 in
theorem sX6_init (l : Launch) {Γ Γ' : Gm} {h h' : AH} {v0 n_v0 : Nat} (k_v0 : Γ[v0]? = some (6, n_v0)) (hf : fX6_init Γ v0 h = some (Γ', h')) : AR l yX6_init mX6_init [.ref v0] Γ h (none, Γ', h') := by
  refine AR.of [some (.ref v0)] (by decide +kernel) rfl (fun _ => rfl) (Nat.le_of_ble_eq_true rfl) ⟨rfl, trivial⟩ ?_
  unfold fX6_init at hf
  refine a_aload_n dX6_init_0 rfl rfl ?_
  refine a_objInit dX6_init_1 rfl tw_207 tw_20 tw_21 ⟨Nat.le_of_ble_eq_true rfl, Nat.le_of_ble_eq_true rfl⟩ ?_
  refine a_aload_n dX6_init_4 rfl rfl ?_
  refine a_new dX6_init_5 rfl tw_208 tw_29 tw_3 ⟨by decide, rfl, rfl, am_in0⟩ tyX0_ok (by decide +kernel) ⟨Nat.le_of_ble_eq_true rfl, Nat.le_of_ble_eq_true rfl⟩ hf (fun G1 b2 h3 k_b2 u4 hf => ?_)
  refine a_dup dX6_init_8 rfl rfl ?_
  refine a_sipush (v := nI 1600) dX6_init_9 rfl (by decide) ?_
  obtain ⟨G5, h6, c7, hf⟩ := am_bindG_some hf
  have u8 := eX0_init c7
  refine a_callI (As := [.int (nI 1600)]) (r1 := (none, G5, h6)) (sX0_init l (by decide) k_b2 c7) (ccX0_init 1600) rfl tw_209 tw_31 rfl ⟨Nat.le_of_ble_eq_true rfl, Nat.le_of_ble_eq_true rfl, Nat.le_of_ble_eq_true rfl, Nat.le_of_ble_eq_true rfl⟩ dX6_init_12 rfl rfl (Nat.le_of_ble_eq_true rfl) u8.2 rfl ?_
  refine a_putR fp_RX6_14 (fun _ => rfl) (fun _ => rfl) (fun _ => rfl) dX6_init_15 rfl (u8.1 _ _ (u4 _ _ k_v0)) (by decide) (u8.1 _ _ k_b2) hf (fun h9 hf => ?_)
  refine a_aload_n dX6_init_18 rfl rfl ?_
  refine a_bipush (v := nI 8) dX6_init_19 rfl (by decide) ?_
  refine a_newa (N := 8) dX6_init_21 rfl tw_49 (by decide) (by decide) (by decide) ⟨Nat.le_of_ble_eq_true rfl, Nat.le_of_ble_eq_true rfl⟩ hf (fun G10 b11 h12 k_b11 u13 hf => ?_)
  refine a_putR fp_RX6_20 (fun _ => rfl) (fun _ => rfl) (fun _ => rfl) dX6_init_23 rfl (u13 _ _ (u8.1 _ _ (u4 _ _ k_v0))) (by decide) k_b11 hf (fun h14 hf => ?_)
  refine a_aload_n dX6_init_26 rfl rfl ?_
  refine a_bipush (v := nI 8) dX6_init_27 rfl (by decide) ?_
  refine a_newa (N := 8) dX6_init_29 rfl tw_49 (by decide) (by decide) (by decide) ⟨Nat.le_of_ble_eq_true rfl, Nat.le_of_ble_eq_true rfl⟩ hf (fun G15 b16 h17 k_b16 u18 hf => ?_)
  refine a_putR fp_RX6_24 (fun _ => rfl) (fun _ => rfl) (fun _ => rfl) dX6_init_31 rfl (u18 _ _ (u13 _ _ (u8.1 _ _ (u4 _ _ k_v0)))) (by decide) k_b16 hf (fun h19 hf => ?_)
  refine a_aload_n dX6_init_34 rfl rfl ?_
  refine a_iconst (v := nI 0) dX6_init_35 rfl (by decide) ?_
  refine a_putI fp_RX6_27 dX6_init_36 rfl (u18 _ _ (u13 _ _ (u8.1 _ _ (u4 _ _ k_v0)))) rfl hf (fun h20 hf => ?_)
  cases hf
  exact a_ret dX6_init_39 rfl rfl rfl
abbrev mX4_init : AMt := (cX4_init, 2, none, RX4, true, am_rm 2 42 2240, 42, 2240, 99)
theorem ccX4_init : am_CC yX4_init mX4_init 0 := ⟨tw_147, tw_8, ⟨by decide +kernel, by decide +kernel, by decide +kernel⟩, rfl, rfl⟩
def fX4_init (Γ : Gm) (v0 : Nat) (h : AH) : Option (Gm × AH) :=
  am_new3 Γ h (10, 1000) fun G1 b2 h3 =>
  am_let (am_setR h3 v0 0 (some b2)) fun h5 =>
  am_new3 G1 h5 (11, 20) fun G6 b7 h8 =>
  am_let (am_setR h8 v0 1 (some b7)) fun h10 =>
  am_let (am_setI h10 v0 2 (nI 0)) fun h11 =>
  am_let (am_setI h11 v0 3 (nI 0)) fun h12 =>
  am_let (am_setI h12 v0 4 (nI 0)) fun h13 =>
  (h13.2 v0 1).bind fun b14 =>
  am_new3 G6 h13 (1, 0) fun G15 b16 h17 =>
  am_bindG (fX1_init G15 b16 h17) fun G19 h20 =>
  if am_ok (nI 0) (am_len G19 b14) then am_let (am_setR h20 b14 (nI 0).toNatClampNeg (some b16)) fun h23 =>
  (h23.2 v0 1).bind fun b24 =>
  am_new3 G19 h23 (1, 0) fun G25 b26 h27 =>
  am_bindG (fX1_init G25 b26 h27) fun G29 h30 =>
  if am_ok (nI 1) (am_len G29 b24) then am_let (am_setR h30 b24 (nI 1).toNatClampNeg (some b26)) fun h33 =>
  (h33.2 v0 1).bind fun b34 =>
  am_new3 G29 h33 (1, 0) fun G35 b36 h37 =>
  am_bindG (fX1_init G35 b36 h37) fun G39 h40 =>
  if am_ok (nI 2) (am_len G39 b34) then am_let (am_setR h40 b34 (nI 2).toNatClampNeg (some b36)) fun h43 =>
  (h43.2 v0 1).bind fun b44 =>
  am_new3 G39 h43 (1, 0) fun G45 b46 h47 =>
  am_bindG (fX1_init G45 b46 h47) fun G49 h50 =>
  if am_ok (nI 3) (am_len G49 b44) then am_let (am_setR h50 b44 (nI 3).toNatClampNeg (some b46)) fun h53 =>
  (h53.2 v0 1).bind fun b54 =>
  am_new3 G49 h53 (1, 0) fun G55 b56 h57 =>
  am_bindG (fX1_init G55 b56 h57) fun G59 h60 =>
  if am_ok (nI 4) (am_len G59 b54) then am_let (am_setR h60 b54 (nI 4).toNatClampNeg (some b56)) fun h63 =>
  (h63.2 v0 1).bind fun b64 =>
  am_new3 G59 h63 (1, 0) fun G65 b66 h67 =>
  am_bindG (fX1_init G65 b66 h67) fun G69 h70 =>
  if am_ok (nI 5) (am_len G69 b64) then am_let (am_setR h70 b64 (nI 5).toNatClampNeg (some b66)) fun h73 =>
  (h73.2 v0 1).bind fun b74 =>
  am_new3 G69 h73 (1, 0) fun G75 b76 h77 =>
  am_bindG (fX1_init G75 b76 h77) fun G79 h80 =>
  if am_ok (nI 6) (am_len G79 b74) then am_let (am_setR h80 b74 (nI 6).toNatClampNeg (some b76)) fun h83 =>
  (h83.2 v0 1).bind fun b84 =>
  am_new3 G79 h83 (1, 0) fun G85 b86 h87 =>
  am_bindG (fX1_init G85 b86 h87) fun G89 h90 =>
  if am_ok (nI 7) (am_len G89 b84) then am_let (am_setR h90 b84 (nI 7).toNatClampNeg (some b86)) fun h93 =>
  (h93.2 v0 1).bind fun b94 =>
  am_new3 G89 h93 (1, 0) fun G95 b96 h97 =>
  am_bindG (fX1_init G95 b96 h97) fun G99 h100 =>
  if am_ok (nI 8) (am_len G99 b94) then am_let (am_setR h100 b94 (nI 8).toNatClampNeg (some b96)) fun h103 =>
  (h103.2 v0 1).bind fun b104 =>
  am_new3 G99 h103 (1, 0) fun G105 b106 h107 =>
  am_bindG (fX1_init G105 b106 h107) fun G109 h110 =>
  if am_ok (nI 9) (am_len G109 b104) then am_let (am_setR h110 b104 (nI 9).toNatClampNeg (some b106)) fun h113 =>
  (h113.2 v0 1).bind fun b114 =>
  am_new3 G109 h113 (1, 0) fun G115 b116 h117 =>
  am_bindG (fX1_init G115 b116 h117) fun G119 h120 =>
  if am_ok (nI 10) (am_len G119 b114) then am_let (am_setR h120 b114 (nI 10).toNatClampNeg (some b116)) fun h123 =>
  (h123.2 v0 1).bind fun b124 =>
  am_new3 G119 h123 (1, 0) fun G125 b126 h127 =>
  am_bindG (fX1_init G125 b126 h127) fun G129 h130 =>
  if am_ok (nI 11) (am_len G129 b124) then am_let (am_setR h130 b124 (nI 11).toNatClampNeg (some b126)) fun h133 =>
  (h133.2 v0 1).bind fun b134 =>
  am_new3 G129 h133 (1, 0) fun G135 b136 h137 =>
  am_bindG (fX1_init G135 b136 h137) fun G139 h140 =>
  if am_ok (nI 12) (am_len G139 b134) then am_let (am_setR h140 b134 (nI 12).toNatClampNeg (some b136)) fun h143 =>
  (h143.2 v0 1).bind fun b144 =>
  am_new3 G139 h143 (1, 0) fun G145 b146 h147 =>
  am_bindG (fX1_init G145 b146 h147) fun G149 h150 =>
  if am_ok (nI 13) (am_len G149 b144) then am_let (am_setR h150 b144 (nI 13).toNatClampNeg (some b146)) fun h153 =>
  (h153.2 v0 1).bind fun b154 =>
  am_new3 G149 h153 (1, 0) fun G155 b156 h157 =>
  am_bindG (fX1_init G155 b156 h157) fun G159 h160 =>
  if am_ok (nI 14) (am_len G159 b154) then am_let (am_setR h160 b154 (nI 14).toNatClampNeg (some b156)) fun h163 =>
  (h163.2 v0 1).bind fun b164 =>
  am_new3 G159 h163 (1, 0) fun G165 b166 h167 =>
  am_bindG (fX1_init G165 b166 h167) fun G169 h170 =>
  if am_ok (nI 15) (am_len G169 b164) then am_let (am_setR h170 b164 (nI 15).toNatClampNeg (some b166)) fun h173 =>
  (h173.2 v0 1).bind fun b174 =>
  am_new3 G169 h173 (1, 0) fun G175 b176 h177 =>
  am_bindG (fX1_init G175 b176 h177) fun G179 h180 =>
  if am_ok (nI 16) (am_len G179 b174) then am_let (am_setR h180 b174 (nI 16).toNatClampNeg (some b176)) fun h183 =>
  (h183.2 v0 1).bind fun b184 =>
  am_new3 G179 h183 (1, 0) fun G185 b186 h187 =>
  am_bindG (fX1_init G185 b186 h187) fun G189 h190 =>
  if am_ok (nI 17) (am_len G189 b184) then am_let (am_setR h190 b184 (nI 17).toNatClampNeg (some b186)) fun h193 =>
  (h193.2 v0 1).bind fun b194 =>
  am_new3 G189 h193 (1, 0) fun G195 b196 h197 =>
  am_bindG (fX1_init G195 b196 h197) fun G199 h200 =>
  if am_ok (nI 18) (am_len G199 b194) then am_let (am_setR h200 b194 (nI 18).toNatClampNeg (some b196)) fun h203 =>
  (h203.2 v0 1).bind fun b204 =>
  am_new3 G199 h203 (1, 0) fun G205 b206 h207 =>
  am_bindG (fX1_init G205 b206 h207) fun G209 h210 =>
  if am_ok (nI 19) (am_len G209 b204) then am_let (am_setR h210 b204 (nI 19).toNatClampNeg (some b206)) fun h213 =>
  some (G209, h213)
  else none
  else none
  else none
  else none
  else none
  else none
  else none
  else none
  else none
  else none
  else none
  else none
  else none
  else none
  else none
  else none
  else none
  else none
  else none
  else none
set_option maxRecDepth 100000 in
set_option maxHeartbeats 4000000 in
theorem eX4_init {Γ Γ' : Gm} {v0 : Nat} {h h' : AH} (hf : fX4_init Γ v0 h = some (Γ', h')) : am_up Γ Γ' ∧ Γ'.length = Γ.length + 42 := by
  unfold fX4_init at hf
  obtain ⟨G1, b2, h3, u4, hf⟩ := am_new3_some hf
  obtain ⟨h5, hf⟩ := am_let_some hf
  obtain ⟨G6, b7, h8, u9, hf⟩ := am_new3_some hf
  obtain ⟨h10, hf⟩ := am_let_some hf
  obtain ⟨h11, hf⟩ := am_let_some hf
  obtain ⟨h12, hf⟩ := am_let_some hf
  obtain ⟨h13, hf⟩ := am_let_some hf
  obtain ⟨b14, -, hf⟩ := Option.bind_eq_some_iff.mp hf
  obtain ⟨G15, b16, h17, u18, hf⟩ := am_new3_some hf
  obtain ⟨G19, h20, c21, hf⟩ := am_bindG_some hf
  have u22 := eX1_init c21
  have hf := am_ok_some hf
  obtain ⟨h23, hf⟩ := am_let_some hf
  obtain ⟨b24, -, hf⟩ := Option.bind_eq_some_iff.mp hf
  obtain ⟨G25, b26, h27, u28, hf⟩ := am_new3_some hf
  obtain ⟨G29, h30, c31, hf⟩ := am_bindG_some hf
  have u32 := eX1_init c31
  have hf := am_ok_some hf
  obtain ⟨h33, hf⟩ := am_let_some hf
  obtain ⟨b34, -, hf⟩ := Option.bind_eq_some_iff.mp hf
  obtain ⟨G35, b36, h37, u38, hf⟩ := am_new3_some hf
  obtain ⟨G39, h40, c41, hf⟩ := am_bindG_some hf
  have u42 := eX1_init c41
  have hf := am_ok_some hf
  obtain ⟨h43, hf⟩ := am_let_some hf
  obtain ⟨b44, -, hf⟩ := Option.bind_eq_some_iff.mp hf
  obtain ⟨G45, b46, h47, u48, hf⟩ := am_new3_some hf
  obtain ⟨G49, h50, c51, hf⟩ := am_bindG_some hf
  have u52 := eX1_init c51
  have hf := am_ok_some hf
  obtain ⟨h53, hf⟩ := am_let_some hf
  obtain ⟨b54, -, hf⟩ := Option.bind_eq_some_iff.mp hf
  obtain ⟨G55, b56, h57, u58, hf⟩ := am_new3_some hf
  obtain ⟨G59, h60, c61, hf⟩ := am_bindG_some hf
  have u62 := eX1_init c61
  have hf := am_ok_some hf
  obtain ⟨h63, hf⟩ := am_let_some hf
  obtain ⟨b64, -, hf⟩ := Option.bind_eq_some_iff.mp hf
  obtain ⟨G65, b66, h67, u68, hf⟩ := am_new3_some hf
  obtain ⟨G69, h70, c71, hf⟩ := am_bindG_some hf
  have u72 := eX1_init c71
  have hf := am_ok_some hf
  obtain ⟨h73, hf⟩ := am_let_some hf
  obtain ⟨b74, -, hf⟩ := Option.bind_eq_some_iff.mp hf
  obtain ⟨G75, b76, h77, u78, hf⟩ := am_new3_some hf
  obtain ⟨G79, h80, c81, hf⟩ := am_bindG_some hf
  have u82 := eX1_init c81
  have hf := am_ok_some hf
  obtain ⟨h83, hf⟩ := am_let_some hf
  obtain ⟨b84, -, hf⟩ := Option.bind_eq_some_iff.mp hf
  obtain ⟨G85, b86, h87, u88, hf⟩ := am_new3_some hf
  obtain ⟨G89, h90, c91, hf⟩ := am_bindG_some hf
  have u92 := eX1_init c91
  have hf := am_ok_some hf
  obtain ⟨h93, hf⟩ := am_let_some hf
  obtain ⟨b94, -, hf⟩ := Option.bind_eq_some_iff.mp hf
  obtain ⟨G95, b96, h97, u98, hf⟩ := am_new3_some hf
  obtain ⟨G99, h100, c101, hf⟩ := am_bindG_some hf
  have u102 := eX1_init c101
  have hf := am_ok_some hf
  obtain ⟨h103, hf⟩ := am_let_some hf
  obtain ⟨b104, -, hf⟩ := Option.bind_eq_some_iff.mp hf
  obtain ⟨G105, b106, h107, u108, hf⟩ := am_new3_some hf
  obtain ⟨G109, h110, c111, hf⟩ := am_bindG_some hf
  have u112 := eX1_init c111
  have hf := am_ok_some hf
  obtain ⟨h113, hf⟩ := am_let_some hf
  obtain ⟨b114, -, hf⟩ := Option.bind_eq_some_iff.mp hf
  obtain ⟨G115, b116, h117, u118, hf⟩ := am_new3_some hf
  obtain ⟨G119, h120, c121, hf⟩ := am_bindG_some hf
  have u122 := eX1_init c121
  have hf := am_ok_some hf
  obtain ⟨h123, hf⟩ := am_let_some hf
  obtain ⟨b124, -, hf⟩ := Option.bind_eq_some_iff.mp hf
  obtain ⟨G125, b126, h127, u128, hf⟩ := am_new3_some hf
  obtain ⟨G129, h130, c131, hf⟩ := am_bindG_some hf
  have u132 := eX1_init c131
  have hf := am_ok_some hf
  obtain ⟨h133, hf⟩ := am_let_some hf
  obtain ⟨b134, -, hf⟩ := Option.bind_eq_some_iff.mp hf
  obtain ⟨G135, b136, h137, u138, hf⟩ := am_new3_some hf
  obtain ⟨G139, h140, c141, hf⟩ := am_bindG_some hf
  have u142 := eX1_init c141
  have hf := am_ok_some hf
  obtain ⟨h143, hf⟩ := am_let_some hf
  obtain ⟨b144, -, hf⟩ := Option.bind_eq_some_iff.mp hf
  obtain ⟨G145, b146, h147, u148, hf⟩ := am_new3_some hf
  obtain ⟨G149, h150, c151, hf⟩ := am_bindG_some hf
  have u152 := eX1_init c151
  have hf := am_ok_some hf
  obtain ⟨h153, hf⟩ := am_let_some hf
  obtain ⟨b154, -, hf⟩ := Option.bind_eq_some_iff.mp hf
  obtain ⟨G155, b156, h157, u158, hf⟩ := am_new3_some hf
  obtain ⟨G159, h160, c161, hf⟩ := am_bindG_some hf
  have u162 := eX1_init c161
  have hf := am_ok_some hf
  obtain ⟨h163, hf⟩ := am_let_some hf
  obtain ⟨b164, -, hf⟩ := Option.bind_eq_some_iff.mp hf
  obtain ⟨G165, b166, h167, u168, hf⟩ := am_new3_some hf
  obtain ⟨G169, h170, c171, hf⟩ := am_bindG_some hf
  have u172 := eX1_init c171
  have hf := am_ok_some hf
  obtain ⟨h173, hf⟩ := am_let_some hf
  obtain ⟨b174, -, hf⟩ := Option.bind_eq_some_iff.mp hf
  obtain ⟨G175, b176, h177, u178, hf⟩ := am_new3_some hf
  obtain ⟨G179, h180, c181, hf⟩ := am_bindG_some hf
  have u182 := eX1_init c181
  have hf := am_ok_some hf
  obtain ⟨h183, hf⟩ := am_let_some hf
  obtain ⟨b184, -, hf⟩ := Option.bind_eq_some_iff.mp hf
  obtain ⟨G185, b186, h187, u188, hf⟩ := am_new3_some hf
  obtain ⟨G189, h190, c191, hf⟩ := am_bindG_some hf
  have u192 := eX1_init c191
  have hf := am_ok_some hf
  obtain ⟨h193, hf⟩ := am_let_some hf
  obtain ⟨b194, -, hf⟩ := Option.bind_eq_some_iff.mp hf
  obtain ⟨G195, b196, h197, u198, hf⟩ := am_new3_some hf
  obtain ⟨G199, h200, c201, hf⟩ := am_bindG_some hf
  have u202 := eX1_init c201
  have hf := am_ok_some hf
  obtain ⟨h203, hf⟩ := am_let_some hf
  obtain ⟨b204, -, hf⟩ := Option.bind_eq_some_iff.mp hf
  obtain ⟨G205, b206, h207, u208, hf⟩ := am_new3_some hf
  obtain ⟨G209, h210, c211, hf⟩ := am_bindG_some hf
  have u212 := eX1_init c211
  have hf := am_ok_some hf
  obtain ⟨h213, hf⟩ := am_let_some hf
  cases hf
  exact ⟨fun a kd hx => u212.1 _ _ (u208.1 _ _ (u202.1 _ _ (u198.1 _ _ (u192.1 _ _ (u188.1 _ _ (u182.1 _ _ (u178.1 _ _ (u172.1 _ _ (u168.1 _ _ (u162.1 _ _ (u158.1 _ _ (u152.1 _ _ (u148.1 _ _ (u142.1 _ _ (u138.1 _ _ (u132.1 _ _ (u128.1 _ _ (u122.1 _ _ (u118.1 _ _ (u112.1 _ _ (u108.1 _ _ (u102.1 _ _ (u98.1 _ _ (u92.1 _ _ (u88.1 _ _ (u82.1 _ _ (u78.1 _ _ (u72.1 _ _ (u68.1 _ _ (u62.1 _ _ (u58.1 _ _ (u52.1 _ _ (u48.1 _ _ (u42.1 _ _ (u38.1 _ _ (u32.1 _ _ (u28.1 _ _ (u22.1 _ _ (u18.1 _ _ (u9.1 _ _ (u4.1 _ _ hx))))))))))))))))))))))))))))))))))))))))), by have := u4.2; have := u9.2; have := u18.2; have := u22.2; have := u28.2; have := u32.2; have := u38.2; have := u42.2; have := u48.2; have := u52.2; have := u58.2; have := u62.2; have := u68.2; have := u72.2; have := u78.2; have := u82.2; have := u88.2; have := u92.2; have := u98.2; have := u102.2; have := u108.2; have := u112.2; have := u118.2; have := u122.2; have := u128.2; have := u132.2; have := u138.2; have := u142.2; have := u148.2; have := u152.2; have := u158.2; have := u162.2; have := u168.2; have := u172.2; have := u178.2; have := u182.2; have := u188.2; have := u192.2; have := u198.2; have := u202.2; have := u208.2; have := u212.2; omega⟩
set_option maxRecDepth 100000 in
set_option maxHeartbeats 8000000 in
theorem sX4_init (l : Launch) {Γ Γ' : Gm} {h h' : AH} {v0 n_v0 : Nat} (k_v0 : Γ[v0]? = some (4, n_v0)) (hf : fX4_init Γ v0 h = some (Γ', h')) : AR l yX4_init mX4_init [.ref v0] Γ h (none, Γ', h') := by
  refine AR.of [some (.ref v0), none] (by decide +kernel) rfl (fun _ => rfl) (Nat.le_of_ble_eq_true rfl) ⟨rfl, trivial⟩ ?_
  unfold fX4_init at hf
  refine a_aload_n dX4_init_0 rfl rfl ?_
  refine a_objInit dX4_init_1 rfl tw_148 tw_20 tw_21 ⟨Nat.le_of_ble_eq_true rfl, Nat.le_of_ble_eq_true rfl⟩ ?_
  refine a_aload_n dX4_init_4 rfl rfl ?_
  refine a_sipush (v := nI 1000) dX4_init_5 rfl (by decide) ?_
  refine a_newa (N := 1000) dX4_init_8 rfl tw_49 (by decide) (by decide) (by decide) ⟨Nat.le_of_ble_eq_true rfl, Nat.le_of_ble_eq_true rfl⟩ hf (fun G1 b2 h3 k_b2 u4 hf => ?_)
  refine a_putR fp_RX4_9 (fun _ => rfl) (fun _ => rfl) (fun _ => rfl) dX4_init_10 rfl (u4 _ _ k_v0) (by decide) k_b2 hf (fun h5 hf => ?_)
  refine a_aload_n dX4_init_13 rfl rfl ?_
  refine a_bipush (v := nI 20) dX4_init_14 rfl (by decide) ?_
  refine a_newq (N := 20) dX4_init_16 rfl tw_149 (by decide) (by decide) (by decide) ⟨Nat.le_of_ble_eq_true rfl, Nat.le_of_ble_eq_true rfl⟩ hf (fun G6 b7 h8 k_b7 u9 hf => ?_)
  refine a_putR fp_RX4_17 (fun _ => rfl) (fun _ => rfl) (fun _ => rfl) dX4_init_19 rfl (u9 _ _ (u4 _ _ k_v0)) (by decide) k_b7 hf (fun h10 hf => ?_)
  refine a_aload_n dX4_init_22 rfl rfl ?_
  refine a_iconst (v := nI 0) dX4_init_23 rfl (by decide) ?_
  refine a_putI fp_RX4_21 dX4_init_24 rfl (u9 _ _ (u4 _ _ k_v0)) rfl hf (fun h11 hf => ?_)
  refine a_aload_n dX4_init_27 rfl rfl ?_
  refine a_iconst (v := nI 0) dX4_init_28 rfl (by decide) ?_
  refine a_putI fp_RX4_25 dX4_init_29 rfl (u9 _ _ (u4 _ _ k_v0)) rfl hf (fun h12 hf => ?_)
  refine a_aload_n dX4_init_32 rfl rfl ?_
  refine a_iconst (v := nI 0) dX4_init_33 rfl (by decide) ?_
  refine a_putI fp_RX4_28 dX4_init_34 rfl (u9 _ _ (u4 _ _ k_v0)) rfl hf (fun h13 hf => ?_)
  refine a_iconst (v := nI 0) dX4_init_37 rfl (by decide) ?_
  refine a_istore_n (L' := [some (.ref v0), some (.int (nI 0))]) dX4_init_38 rfl (Nat.le_of_ble_eq_true rfl) (fun _ _ hv => by cases hv; rfl) rfl ?_
  refine a_iload_n dX4_init_39 rfl rfl ?_
  refine a_bipush (v := nI 20) dX4_init_40 rfl (by decide) ?_
  refine a_icmp_ge_f (t := 64) dX4_init_42 rfl rfl (by decide) ?_
  refine a_aload_n dX4_init_45 rfl rfl ?_
  refine a_getR fl_RX4_17 dX4_init_46 rfl (u9 _ _ (u4 _ _ k_v0)) rfl (by decide) hf (fun b14 n_b14 _ k_b14 hf => ?_)
  refine a_iload_n dX4_init_49 rfl rfl ?_
  refine a_new dX4_init_50 rfl tw_149 tw_151 tw_9 ⟨by decide, rfl, rfl, am_in1⟩ tyX1_ok (by decide +kernel) ⟨Nat.le_of_ble_eq_true rfl, Nat.le_of_ble_eq_true rfl⟩ hf (fun G15 b16 h17 k_b16 u18 hf => ?_)
  refine a_dup dX4_init_53 rfl rfl ?_
  obtain ⟨G19, h20, c21, hf⟩ := am_bindG_some hf
  have u22 := eX1_init c21
  refine a_callIN (As := []) (r1 := (none, G19, h20)) (sX1_init l k_b16 c21) ccX1_init rfl tn_152 tw_153 rfl ⟨Nat.le_of_ble_eq_true rfl, Nat.le_of_ble_eq_true rfl, Nat.le_of_ble_eq_true rfl, Nat.le_of_ble_eq_true rfl⟩ dX4_init_54 rfl rfl (Nat.le_of_ble_eq_true rfl) u22.2 rfl ?_
  refine a_aast dX4_init_57 rfl (u22.1 _ _ (u18 _ _ k_b14)) (u22.1 _ _ k_b16) hf (fun h23 hf => ?_)
  refine a_iinc (v := nI 1) (L' := [some (.ref v0), some (.int (nI 1))]) dX4_init_58 rfl rfl (by decide) (Nat.le_of_ble_eq_true rfl) (fun _ _ hv => by cases hv; rfl) rfl ?_
  refine a_goto (t := 39) dX4_init_61 rfl ?_
  refine a_iload_n dX4_init_39 rfl rfl ?_
  refine a_bipush (v := nI 20) dX4_init_40 rfl (by decide) ?_
  refine a_icmp_ge_f (t := 64) dX4_init_42 rfl rfl (by decide) ?_
  refine a_aload_n dX4_init_45 rfl rfl ?_
  refine a_getR fl_RX4_17 dX4_init_46 rfl (u22.1 _ _ (u18 _ _ (u9 _ _ (u4 _ _ k_v0)))) rfl (by decide) hf (fun b24 n_b24 _ k_b24 hf => ?_)
  refine a_iload_n dX4_init_49 rfl rfl ?_
  refine a_new dX4_init_50 rfl tw_149 tw_151 tw_9 ⟨by decide, rfl, rfl, am_in1⟩ tyX1_ok (by decide +kernel) ⟨Nat.le_of_ble_eq_true rfl, Nat.le_of_ble_eq_true rfl⟩ hf (fun G25 b26 h27 k_b26 u28 hf => ?_)
  refine a_dup dX4_init_53 rfl rfl ?_
  obtain ⟨G29, h30, c31, hf⟩ := am_bindG_some hf
  have u32 := eX1_init c31
  refine a_callIN (As := []) (r1 := (none, G29, h30)) (sX1_init l k_b26 c31) ccX1_init rfl tn_152 tw_153 rfl ⟨Nat.le_of_ble_eq_true rfl, Nat.le_of_ble_eq_true rfl, Nat.le_of_ble_eq_true rfl, Nat.le_of_ble_eq_true rfl⟩ dX4_init_54 rfl rfl (Nat.le_of_ble_eq_true rfl) u32.2 rfl ?_
  refine a_aast dX4_init_57 rfl (u32.1 _ _ (u28 _ _ k_b24)) (u32.1 _ _ k_b26) hf (fun h33 hf => ?_)
  refine a_iinc (v := nI 2) (L' := [some (.ref v0), some (.int (nI 2))]) dX4_init_58 rfl rfl (by decide) (Nat.le_of_ble_eq_true rfl) (fun _ _ hv => by cases hv; rfl) rfl ?_
  refine a_goto (t := 39) dX4_init_61 rfl ?_
  refine a_iload_n dX4_init_39 rfl rfl ?_
  refine a_bipush (v := nI 20) dX4_init_40 rfl (by decide) ?_
  refine a_icmp_ge_f (t := 64) dX4_init_42 rfl rfl (by decide) ?_
  refine a_aload_n dX4_init_45 rfl rfl ?_
  refine a_getR fl_RX4_17 dX4_init_46 rfl (u32.1 _ _ (u28 _ _ (u22.1 _ _ (u18 _ _ (u9 _ _ (u4 _ _ k_v0)))))) rfl (by decide) hf (fun b34 n_b34 _ k_b34 hf => ?_)
  refine a_iload_n dX4_init_49 rfl rfl ?_
  refine a_new dX4_init_50 rfl tw_149 tw_151 tw_9 ⟨by decide, rfl, rfl, am_in1⟩ tyX1_ok (by decide +kernel) ⟨Nat.le_of_ble_eq_true rfl, Nat.le_of_ble_eq_true rfl⟩ hf (fun G35 b36 h37 k_b36 u38 hf => ?_)
  refine a_dup dX4_init_53 rfl rfl ?_
  obtain ⟨G39, h40, c41, hf⟩ := am_bindG_some hf
  have u42 := eX1_init c41
  refine a_callIN (As := []) (r1 := (none, G39, h40)) (sX1_init l k_b36 c41) ccX1_init rfl tn_152 tw_153 rfl ⟨Nat.le_of_ble_eq_true rfl, Nat.le_of_ble_eq_true rfl, Nat.le_of_ble_eq_true rfl, Nat.le_of_ble_eq_true rfl⟩ dX4_init_54 rfl rfl (Nat.le_of_ble_eq_true rfl) u42.2 rfl ?_
  refine a_aast dX4_init_57 rfl (u42.1 _ _ (u38 _ _ k_b34)) (u42.1 _ _ k_b36) hf (fun h43 hf => ?_)
  refine a_iinc (v := nI 3) (L' := [some (.ref v0), some (.int (nI 3))]) dX4_init_58 rfl rfl (by decide) (Nat.le_of_ble_eq_true rfl) (fun _ _ hv => by cases hv; rfl) rfl ?_
  refine a_goto (t := 39) dX4_init_61 rfl ?_
  refine a_iload_n dX4_init_39 rfl rfl ?_
  refine a_bipush (v := nI 20) dX4_init_40 rfl (by decide) ?_
  refine a_icmp_ge_f (t := 64) dX4_init_42 rfl rfl (by decide) ?_
  refine a_aload_n dX4_init_45 rfl rfl ?_
  refine a_getR fl_RX4_17 dX4_init_46 rfl (u42.1 _ _ (u38 _ _ (u32.1 _ _ (u28 _ _ (u22.1 _ _ (u18 _ _ (u9 _ _ (u4 _ _ k_v0)))))))) rfl (by decide) hf (fun b44 n_b44 _ k_b44 hf => ?_)
  refine a_iload_n dX4_init_49 rfl rfl ?_
  refine a_new dX4_init_50 rfl tw_149 tw_151 tw_9 ⟨by decide, rfl, rfl, am_in1⟩ tyX1_ok (by decide +kernel) ⟨Nat.le_of_ble_eq_true rfl, Nat.le_of_ble_eq_true rfl⟩ hf (fun G45 b46 h47 k_b46 u48 hf => ?_)
  refine a_dup dX4_init_53 rfl rfl ?_
  obtain ⟨G49, h50, c51, hf⟩ := am_bindG_some hf
  have u52 := eX1_init c51
  refine a_callIN (As := []) (r1 := (none, G49, h50)) (sX1_init l k_b46 c51) ccX1_init rfl tn_152 tw_153 rfl ⟨Nat.le_of_ble_eq_true rfl, Nat.le_of_ble_eq_true rfl, Nat.le_of_ble_eq_true rfl, Nat.le_of_ble_eq_true rfl⟩ dX4_init_54 rfl rfl (Nat.le_of_ble_eq_true rfl) u52.2 rfl ?_
  refine a_aast dX4_init_57 rfl (u52.1 _ _ (u48 _ _ k_b44)) (u52.1 _ _ k_b46) hf (fun h53 hf => ?_)
  refine a_iinc (v := nI 4) (L' := [some (.ref v0), some (.int (nI 4))]) dX4_init_58 rfl rfl (by decide) (Nat.le_of_ble_eq_true rfl) (fun _ _ hv => by cases hv; rfl) rfl ?_
  refine a_goto (t := 39) dX4_init_61 rfl ?_
  refine a_iload_n dX4_init_39 rfl rfl ?_
  refine a_bipush (v := nI 20) dX4_init_40 rfl (by decide) ?_
  refine a_icmp_ge_f (t := 64) dX4_init_42 rfl rfl (by decide) ?_
  refine a_aload_n dX4_init_45 rfl rfl ?_
  refine a_getR fl_RX4_17 dX4_init_46 rfl (u52.1 _ _ (u48 _ _ (u42.1 _ _ (u38 _ _ (u32.1 _ _ (u28 _ _ (u22.1 _ _ (u18 _ _ (u9 _ _ (u4 _ _ k_v0)))))))))) rfl (by decide) hf (fun b54 n_b54 _ k_b54 hf => ?_)
  refine a_iload_n dX4_init_49 rfl rfl ?_
  refine a_new dX4_init_50 rfl tw_149 tw_151 tw_9 ⟨by decide, rfl, rfl, am_in1⟩ tyX1_ok (by decide +kernel) ⟨Nat.le_of_ble_eq_true rfl, Nat.le_of_ble_eq_true rfl⟩ hf (fun G55 b56 h57 k_b56 u58 hf => ?_)
  refine a_dup dX4_init_53 rfl rfl ?_
  obtain ⟨G59, h60, c61, hf⟩ := am_bindG_some hf
  have u62 := eX1_init c61
  refine a_callIN (As := []) (r1 := (none, G59, h60)) (sX1_init l k_b56 c61) ccX1_init rfl tn_152 tw_153 rfl ⟨Nat.le_of_ble_eq_true rfl, Nat.le_of_ble_eq_true rfl, Nat.le_of_ble_eq_true rfl, Nat.le_of_ble_eq_true rfl⟩ dX4_init_54 rfl rfl (Nat.le_of_ble_eq_true rfl) u62.2 rfl ?_
  refine a_aast dX4_init_57 rfl (u62.1 _ _ (u58 _ _ k_b54)) (u62.1 _ _ k_b56) hf (fun h63 hf => ?_)
  refine a_iinc (v := nI 5) (L' := [some (.ref v0), some (.int (nI 5))]) dX4_init_58 rfl rfl (by decide) (Nat.le_of_ble_eq_true rfl) (fun _ _ hv => by cases hv; rfl) rfl ?_
  refine a_goto (t := 39) dX4_init_61 rfl ?_
  refine a_iload_n dX4_init_39 rfl rfl ?_
  refine a_bipush (v := nI 20) dX4_init_40 rfl (by decide) ?_
  refine a_icmp_ge_f (t := 64) dX4_init_42 rfl rfl (by decide) ?_
  refine a_aload_n dX4_init_45 rfl rfl ?_
  refine a_getR fl_RX4_17 dX4_init_46 rfl (u62.1 _ _ (u58 _ _ (u52.1 _ _ (u48 _ _ (u42.1 _ _ (u38 _ _ (u32.1 _ _ (u28 _ _ (u22.1 _ _ (u18 _ _ (u9 _ _ (u4 _ _ k_v0)))))))))))) rfl (by decide) hf (fun b64 n_b64 _ k_b64 hf => ?_)
  refine a_iload_n dX4_init_49 rfl rfl ?_
  refine a_new dX4_init_50 rfl tw_149 tw_151 tw_9 ⟨by decide, rfl, rfl, am_in1⟩ tyX1_ok (by decide +kernel) ⟨Nat.le_of_ble_eq_true rfl, Nat.le_of_ble_eq_true rfl⟩ hf (fun G65 b66 h67 k_b66 u68 hf => ?_)
  refine a_dup dX4_init_53 rfl rfl ?_
  obtain ⟨G69, h70, c71, hf⟩ := am_bindG_some hf
  have u72 := eX1_init c71
  refine a_callIN (As := []) (r1 := (none, G69, h70)) (sX1_init l k_b66 c71) ccX1_init rfl tn_152 tw_153 rfl ⟨Nat.le_of_ble_eq_true rfl, Nat.le_of_ble_eq_true rfl, Nat.le_of_ble_eq_true rfl, Nat.le_of_ble_eq_true rfl⟩ dX4_init_54 rfl rfl (Nat.le_of_ble_eq_true rfl) u72.2 rfl ?_
  refine a_aast dX4_init_57 rfl (u72.1 _ _ (u68 _ _ k_b64)) (u72.1 _ _ k_b66) hf (fun h73 hf => ?_)
  refine a_iinc (v := nI 6) (L' := [some (.ref v0), some (.int (nI 6))]) dX4_init_58 rfl rfl (by decide) (Nat.le_of_ble_eq_true rfl) (fun _ _ hv => by cases hv; rfl) rfl ?_
  refine a_goto (t := 39) dX4_init_61 rfl ?_
  refine a_iload_n dX4_init_39 rfl rfl ?_
  refine a_bipush (v := nI 20) dX4_init_40 rfl (by decide) ?_
  refine a_icmp_ge_f (t := 64) dX4_init_42 rfl rfl (by decide) ?_
  refine a_aload_n dX4_init_45 rfl rfl ?_
  refine a_getR fl_RX4_17 dX4_init_46 rfl (u72.1 _ _ (u68 _ _ (u62.1 _ _ (u58 _ _ (u52.1 _ _ (u48 _ _ (u42.1 _ _ (u38 _ _ (u32.1 _ _ (u28 _ _ (u22.1 _ _ (u18 _ _ (u9 _ _ (u4 _ _ k_v0)))))))))))))) rfl (by decide) hf (fun b74 n_b74 _ k_b74 hf => ?_)
  refine a_iload_n dX4_init_49 rfl rfl ?_
  refine a_new dX4_init_50 rfl tw_149 tw_151 tw_9 ⟨by decide, rfl, rfl, am_in1⟩ tyX1_ok (by decide +kernel) ⟨Nat.le_of_ble_eq_true rfl, Nat.le_of_ble_eq_true rfl⟩ hf (fun G75 b76 h77 k_b76 u78 hf => ?_)
  refine a_dup dX4_init_53 rfl rfl ?_
  obtain ⟨G79, h80, c81, hf⟩ := am_bindG_some hf
  have u82 := eX1_init c81
  refine a_callIN (As := []) (r1 := (none, G79, h80)) (sX1_init l k_b76 c81) ccX1_init rfl tn_152 tw_153 rfl ⟨Nat.le_of_ble_eq_true rfl, Nat.le_of_ble_eq_true rfl, Nat.le_of_ble_eq_true rfl, Nat.le_of_ble_eq_true rfl⟩ dX4_init_54 rfl rfl (Nat.le_of_ble_eq_true rfl) u82.2 rfl ?_
  refine a_aast dX4_init_57 rfl (u82.1 _ _ (u78 _ _ k_b74)) (u82.1 _ _ k_b76) hf (fun h83 hf => ?_)
  refine a_iinc (v := nI 7) (L' := [some (.ref v0), some (.int (nI 7))]) dX4_init_58 rfl rfl (by decide) (Nat.le_of_ble_eq_true rfl) (fun _ _ hv => by cases hv; rfl) rfl ?_
  refine a_goto (t := 39) dX4_init_61 rfl ?_
  refine a_iload_n dX4_init_39 rfl rfl ?_
  refine a_bipush (v := nI 20) dX4_init_40 rfl (by decide) ?_
  refine a_icmp_ge_f (t := 64) dX4_init_42 rfl rfl (by decide) ?_
  refine a_aload_n dX4_init_45 rfl rfl ?_
  refine a_getR fl_RX4_17 dX4_init_46 rfl (u82.1 _ _ (u78 _ _ (u72.1 _ _ (u68 _ _ (u62.1 _ _ (u58 _ _ (u52.1 _ _ (u48 _ _ (u42.1 _ _ (u38 _ _ (u32.1 _ _ (u28 _ _ (u22.1 _ _ (u18 _ _ (u9 _ _ (u4 _ _ k_v0)))))))))))))))) rfl (by decide) hf (fun b84 n_b84 _ k_b84 hf => ?_)
  refine a_iload_n dX4_init_49 rfl rfl ?_
  refine a_new dX4_init_50 rfl tw_149 tw_151 tw_9 ⟨by decide, rfl, rfl, am_in1⟩ tyX1_ok (by decide +kernel) ⟨Nat.le_of_ble_eq_true rfl, Nat.le_of_ble_eq_true rfl⟩ hf (fun G85 b86 h87 k_b86 u88 hf => ?_)
  refine a_dup dX4_init_53 rfl rfl ?_
  obtain ⟨G89, h90, c91, hf⟩ := am_bindG_some hf
  have u92 := eX1_init c91
  refine a_callIN (As := []) (r1 := (none, G89, h90)) (sX1_init l k_b86 c91) ccX1_init rfl tn_152 tw_153 rfl ⟨Nat.le_of_ble_eq_true rfl, Nat.le_of_ble_eq_true rfl, Nat.le_of_ble_eq_true rfl, Nat.le_of_ble_eq_true rfl⟩ dX4_init_54 rfl rfl (Nat.le_of_ble_eq_true rfl) u92.2 rfl ?_
  refine a_aast dX4_init_57 rfl (u92.1 _ _ (u88 _ _ k_b84)) (u92.1 _ _ k_b86) hf (fun h93 hf => ?_)
  refine a_iinc (v := nI 8) (L' := [some (.ref v0), some (.int (nI 8))]) dX4_init_58 rfl rfl (by decide) (Nat.le_of_ble_eq_true rfl) (fun _ _ hv => by cases hv; rfl) rfl ?_
  refine a_goto (t := 39) dX4_init_61 rfl ?_
  refine a_iload_n dX4_init_39 rfl rfl ?_
  refine a_bipush (v := nI 20) dX4_init_40 rfl (by decide) ?_
  refine a_icmp_ge_f (t := 64) dX4_init_42 rfl rfl (by decide) ?_
  refine a_aload_n dX4_init_45 rfl rfl ?_
  refine a_getR fl_RX4_17 dX4_init_46 rfl (u92.1 _ _ (u88 _ _ (u82.1 _ _ (u78 _ _ (u72.1 _ _ (u68 _ _ (u62.1 _ _ (u58 _ _ (u52.1 _ _ (u48 _ _ (u42.1 _ _ (u38 _ _ (u32.1 _ _ (u28 _ _ (u22.1 _ _ (u18 _ _ (u9 _ _ (u4 _ _ k_v0)))))))))))))))))) rfl (by decide) hf (fun b94 n_b94 _ k_b94 hf => ?_)
  refine a_iload_n dX4_init_49 rfl rfl ?_
  refine a_new dX4_init_50 rfl tw_149 tw_151 tw_9 ⟨by decide, rfl, rfl, am_in1⟩ tyX1_ok (by decide +kernel) ⟨Nat.le_of_ble_eq_true rfl, Nat.le_of_ble_eq_true rfl⟩ hf (fun G95 b96 h97 k_b96 u98 hf => ?_)
  refine a_dup dX4_init_53 rfl rfl ?_
  obtain ⟨G99, h100, c101, hf⟩ := am_bindG_some hf
  have u102 := eX1_init c101
  refine a_callIN (As := []) (r1 := (none, G99, h100)) (sX1_init l k_b96 c101) ccX1_init rfl tn_152 tw_153 rfl ⟨Nat.le_of_ble_eq_true rfl, Nat.le_of_ble_eq_true rfl, Nat.le_of_ble_eq_true rfl, Nat.le_of_ble_eq_true rfl⟩ dX4_init_54 rfl rfl (Nat.le_of_ble_eq_true rfl) u102.2 rfl ?_
  refine a_aast dX4_init_57 rfl (u102.1 _ _ (u98 _ _ k_b94)) (u102.1 _ _ k_b96) hf (fun h103 hf => ?_)
  refine a_iinc (v := nI 9) (L' := [some (.ref v0), some (.int (nI 9))]) dX4_init_58 rfl rfl (by decide) (Nat.le_of_ble_eq_true rfl) (fun _ _ hv => by cases hv; rfl) rfl ?_
  refine a_goto (t := 39) dX4_init_61 rfl ?_
  refine a_iload_n dX4_init_39 rfl rfl ?_
  refine a_bipush (v := nI 20) dX4_init_40 rfl (by decide) ?_
  refine a_icmp_ge_f (t := 64) dX4_init_42 rfl rfl (by decide) ?_
  refine a_aload_n dX4_init_45 rfl rfl ?_
  refine a_getR fl_RX4_17 dX4_init_46 rfl (u102.1 _ _ (u98 _ _ (u92.1 _ _ (u88 _ _ (u82.1 _ _ (u78 _ _ (u72.1 _ _ (u68 _ _ (u62.1 _ _ (u58 _ _ (u52.1 _ _ (u48 _ _ (u42.1 _ _ (u38 _ _ (u32.1 _ _ (u28 _ _ (u22.1 _ _ (u18 _ _ (u9 _ _ (u4 _ _ k_v0)))))))))))))))))))) rfl (by decide) hf (fun b104 n_b104 _ k_b104 hf => ?_)
  refine a_iload_n dX4_init_49 rfl rfl ?_
  refine a_new dX4_init_50 rfl tw_149 tw_151 tw_9 ⟨by decide, rfl, rfl, am_in1⟩ tyX1_ok (by decide +kernel) ⟨Nat.le_of_ble_eq_true rfl, Nat.le_of_ble_eq_true rfl⟩ hf (fun G105 b106 h107 k_b106 u108 hf => ?_)
  refine a_dup dX4_init_53 rfl rfl ?_
  obtain ⟨G109, h110, c111, hf⟩ := am_bindG_some hf
  have u112 := eX1_init c111
  refine a_callIN (As := []) (r1 := (none, G109, h110)) (sX1_init l k_b106 c111) ccX1_init rfl tn_152 tw_153 rfl ⟨Nat.le_of_ble_eq_true rfl, Nat.le_of_ble_eq_true rfl, Nat.le_of_ble_eq_true rfl, Nat.le_of_ble_eq_true rfl⟩ dX4_init_54 rfl rfl (Nat.le_of_ble_eq_true rfl) u112.2 rfl ?_
  refine a_aast dX4_init_57 rfl (u112.1 _ _ (u108 _ _ k_b104)) (u112.1 _ _ k_b106) hf (fun h113 hf => ?_)
  refine a_iinc (v := nI 10) (L' := [some (.ref v0), some (.int (nI 10))]) dX4_init_58 rfl rfl (by decide) (Nat.le_of_ble_eq_true rfl) (fun _ _ hv => by cases hv; rfl) rfl ?_
  refine a_goto (t := 39) dX4_init_61 rfl ?_
  refine a_iload_n dX4_init_39 rfl rfl ?_
  refine a_bipush (v := nI 20) dX4_init_40 rfl (by decide) ?_
  refine a_icmp_ge_f (t := 64) dX4_init_42 rfl rfl (by decide) ?_
  refine a_aload_n dX4_init_45 rfl rfl ?_
  refine a_getR fl_RX4_17 dX4_init_46 rfl (u112.1 _ _ (u108 _ _ (u102.1 _ _ (u98 _ _ (u92.1 _ _ (u88 _ _ (u82.1 _ _ (u78 _ _ (u72.1 _ _ (u68 _ _ (u62.1 _ _ (u58 _ _ (u52.1 _ _ (u48 _ _ (u42.1 _ _ (u38 _ _ (u32.1 _ _ (u28 _ _ (u22.1 _ _ (u18 _ _ (u9 _ _ (u4 _ _ k_v0)))))))))))))))))))))) rfl (by decide) hf (fun b114 n_b114 _ k_b114 hf => ?_)
  refine a_iload_n dX4_init_49 rfl rfl ?_
  refine a_new dX4_init_50 rfl tw_149 tw_151 tw_9 ⟨by decide, rfl, rfl, am_in1⟩ tyX1_ok (by decide +kernel) ⟨Nat.le_of_ble_eq_true rfl, Nat.le_of_ble_eq_true rfl⟩ hf (fun G115 b116 h117 k_b116 u118 hf => ?_)
  refine a_dup dX4_init_53 rfl rfl ?_
  obtain ⟨G119, h120, c121, hf⟩ := am_bindG_some hf
  have u122 := eX1_init c121
  refine a_callIN (As := []) (r1 := (none, G119, h120)) (sX1_init l k_b116 c121) ccX1_init rfl tn_152 tw_153 rfl ⟨Nat.le_of_ble_eq_true rfl, Nat.le_of_ble_eq_true rfl, Nat.le_of_ble_eq_true rfl, Nat.le_of_ble_eq_true rfl⟩ dX4_init_54 rfl rfl (Nat.le_of_ble_eq_true rfl) u122.2 rfl ?_
  refine a_aast dX4_init_57 rfl (u122.1 _ _ (u118 _ _ k_b114)) (u122.1 _ _ k_b116) hf (fun h123 hf => ?_)
  refine a_iinc (v := nI 11) (L' := [some (.ref v0), some (.int (nI 11))]) dX4_init_58 rfl rfl (by decide) (Nat.le_of_ble_eq_true rfl) (fun _ _ hv => by cases hv; rfl) rfl ?_
  refine a_goto (t := 39) dX4_init_61 rfl ?_
  refine a_iload_n dX4_init_39 rfl rfl ?_
  refine a_bipush (v := nI 20) dX4_init_40 rfl (by decide) ?_
  refine a_icmp_ge_f (t := 64) dX4_init_42 rfl rfl (by decide) ?_
  refine a_aload_n dX4_init_45 rfl rfl ?_
  refine a_getR fl_RX4_17 dX4_init_46 rfl (u122.1 _ _ (u118 _ _ (u112.1 _ _ (u108 _ _ (u102.1 _ _ (u98 _ _ (u92.1 _ _ (u88 _ _ (u82.1 _ _ (u78 _ _ (u72.1 _ _ (u68 _ _ (u62.1 _ _ (u58 _ _ (u52.1 _ _ (u48 _ _ (u42.1 _ _ (u38 _ _ (u32.1 _ _ (u28 _ _ (u22.1 _ _ (u18 _ _ (u9 _ _ (u4 _ _ k_v0)))))))))))))))))))))))) rfl (by decide) hf (fun b124 n_b124 _ k_b124 hf => ?_)
  refine a_iload_n dX4_init_49 rfl rfl ?_
  refine a_new dX4_init_50 rfl tw_149 tw_151 tw_9 ⟨by decide, rfl, rfl, am_in1⟩ tyX1_ok (by decide +kernel) ⟨Nat.le_of_ble_eq_true rfl, Nat.le_of_ble_eq_true rfl⟩ hf (fun G125 b126 h127 k_b126 u128 hf => ?_)
  refine a_dup dX4_init_53 rfl rfl ?_
  obtain ⟨G129, h130, c131, hf⟩ := am_bindG_some hf
  have u132 := eX1_init c131
  refine a_callIN (As := []) (r1 := (none, G129, h130)) (sX1_init l k_b126 c131) ccX1_init rfl tn_152 tw_153 rfl ⟨Nat.le_of_ble_eq_true rfl, Nat.le_of_ble_eq_true rfl, Nat.le_of_ble_eq_true rfl, Nat.le_of_ble_eq_true rfl⟩ dX4_init_54 rfl rfl (Nat.le_of_ble_eq_true rfl) u132.2 rfl ?_
  refine a_aast dX4_init_57 rfl (u132.1 _ _ (u128 _ _ k_b124)) (u132.1 _ _ k_b126) hf (fun h133 hf => ?_)
  refine a_iinc (v := nI 12) (L' := [some (.ref v0), some (.int (nI 12))]) dX4_init_58 rfl rfl (by decide) (Nat.le_of_ble_eq_true rfl) (fun _ _ hv => by cases hv; rfl) rfl ?_
  refine a_goto (t := 39) dX4_init_61 rfl ?_
  refine a_iload_n dX4_init_39 rfl rfl ?_
  refine a_bipush (v := nI 20) dX4_init_40 rfl (by decide) ?_
  refine a_icmp_ge_f (t := 64) dX4_init_42 rfl rfl (by decide) ?_
  refine a_aload_n dX4_init_45 rfl rfl ?_
  refine a_getR fl_RX4_17 dX4_init_46 rfl (u132.1 _ _ (u128 _ _ (u122.1 _ _ (u118 _ _ (u112.1 _ _ (u108 _ _ (u102.1 _ _ (u98 _ _ (u92.1 _ _ (u88 _ _ (u82.1 _ _ (u78 _ _ (u72.1 _ _ (u68 _ _ (u62.1 _ _ (u58 _ _ (u52.1 _ _ (u48 _ _ (u42.1 _ _ (u38 _ _ (u32.1 _ _ (u28 _ _ (u22.1 _ _ (u18 _ _ (u9 _ _ (u4 _ _ k_v0)))))))))))))))))))))))))) rfl (by decide) hf (fun b134 n_b134 _ k_b134 hf => ?_)
  refine a_iload_n dX4_init_49 rfl rfl ?_
  refine a_new dX4_init_50 rfl tw_149 tw_151 tw_9 ⟨by decide, rfl, rfl, am_in1⟩ tyX1_ok (by decide +kernel) ⟨Nat.le_of_ble_eq_true rfl, Nat.le_of_ble_eq_true rfl⟩ hf (fun G135 b136 h137 k_b136 u138 hf => ?_)
  refine a_dup dX4_init_53 rfl rfl ?_
  obtain ⟨G139, h140, c141, hf⟩ := am_bindG_some hf
  have u142 := eX1_init c141
  refine a_callIN (As := []) (r1 := (none, G139, h140)) (sX1_init l k_b136 c141) ccX1_init rfl tn_152 tw_153 rfl ⟨Nat.le_of_ble_eq_true rfl, Nat.le_of_ble_eq_true rfl, Nat.le_of_ble_eq_true rfl, Nat.le_of_ble_eq_true rfl⟩ dX4_init_54 rfl rfl (Nat.le_of_ble_eq_true rfl) u142.2 rfl ?_
  refine a_aast dX4_init_57 rfl (u142.1 _ _ (u138 _ _ k_b134)) (u142.1 _ _ k_b136) hf (fun h143 hf => ?_)
  refine a_iinc (v := nI 13) (L' := [some (.ref v0), some (.int (nI 13))]) dX4_init_58 rfl rfl (by decide) (Nat.le_of_ble_eq_true rfl) (fun _ _ hv => by cases hv; rfl) rfl ?_
  refine a_goto (t := 39) dX4_init_61 rfl ?_
  refine a_iload_n dX4_init_39 rfl rfl ?_
  refine a_bipush (v := nI 20) dX4_init_40 rfl (by decide) ?_
  refine a_icmp_ge_f (t := 64) dX4_init_42 rfl rfl (by decide) ?_
  refine a_aload_n dX4_init_45 rfl rfl ?_
  refine a_getR fl_RX4_17 dX4_init_46 rfl (u142.1 _ _ (u138 _ _ (u132.1 _ _ (u128 _ _ (u122.1 _ _ (u118 _ _ (u112.1 _ _ (u108 _ _ (u102.1 _ _ (u98 _ _ (u92.1 _ _ (u88 _ _ (u82.1 _ _ (u78 _ _ (u72.1 _ _ (u68 _ _ (u62.1 _ _ (u58 _ _ (u52.1 _ _ (u48 _ _ (u42.1 _ _ (u38 _ _ (u32.1 _ _ (u28 _ _ (u22.1 _ _ (u18 _ _ (u9 _ _ (u4 _ _ k_v0)))))))))))))))))))))))))))) rfl (by decide) hf (fun b144 n_b144 _ k_b144 hf => ?_)
  refine a_iload_n dX4_init_49 rfl rfl ?_
  refine a_new dX4_init_50 rfl tw_149 tw_151 tw_9 ⟨by decide, rfl, rfl, am_in1⟩ tyX1_ok (by decide +kernel) ⟨Nat.le_of_ble_eq_true rfl, Nat.le_of_ble_eq_true rfl⟩ hf (fun G145 b146 h147 k_b146 u148 hf => ?_)
  refine a_dup dX4_init_53 rfl rfl ?_
  obtain ⟨G149, h150, c151, hf⟩ := am_bindG_some hf
  have u152 := eX1_init c151
  refine a_callIN (As := []) (r1 := (none, G149, h150)) (sX1_init l k_b146 c151) ccX1_init rfl tn_152 tw_153 rfl ⟨Nat.le_of_ble_eq_true rfl, Nat.le_of_ble_eq_true rfl, Nat.le_of_ble_eq_true rfl, Nat.le_of_ble_eq_true rfl⟩ dX4_init_54 rfl rfl (Nat.le_of_ble_eq_true rfl) u152.2 rfl ?_
  refine a_aast dX4_init_57 rfl (u152.1 _ _ (u148 _ _ k_b144)) (u152.1 _ _ k_b146) hf (fun h153 hf => ?_)
  refine a_iinc (v := nI 14) (L' := [some (.ref v0), some (.int (nI 14))]) dX4_init_58 rfl rfl (by decide) (Nat.le_of_ble_eq_true rfl) (fun _ _ hv => by cases hv; rfl) rfl ?_
  refine a_goto (t := 39) dX4_init_61 rfl ?_
  refine a_iload_n dX4_init_39 rfl rfl ?_
  refine a_bipush (v := nI 20) dX4_init_40 rfl (by decide) ?_
  refine a_icmp_ge_f (t := 64) dX4_init_42 rfl rfl (by decide) ?_
  refine a_aload_n dX4_init_45 rfl rfl ?_
  refine a_getR fl_RX4_17 dX4_init_46 rfl (u152.1 _ _ (u148 _ _ (u142.1 _ _ (u138 _ _ (u132.1 _ _ (u128 _ _ (u122.1 _ _ (u118 _ _ (u112.1 _ _ (u108 _ _ (u102.1 _ _ (u98 _ _ (u92.1 _ _ (u88 _ _ (u82.1 _ _ (u78 _ _ (u72.1 _ _ (u68 _ _ (u62.1 _ _ (u58 _ _ (u52.1 _ _ (u48 _ _ (u42.1 _ _ (u38 _ _ (u32.1 _ _ (u28 _ _ (u22.1 _ _ (u18 _ _ (u9 _ _ (u4 _ _ k_v0)))))))))))))))))))))))))))))) rfl (by decide) hf (fun b154 n_b154 _ k_b154 hf => ?_)
  refine a_iload_n dX4_init_49 rfl rfl ?_
  refine a_new dX4_init_50 rfl tw_149 tw_151 tw_9 ⟨by decide, rfl, rfl, am_in1⟩ tyX1_ok (by decide +kernel) ⟨Nat.le_of_ble_eq_true rfl, Nat.le_of_ble_eq_true rfl⟩ hf (fun G155 b156 h157 k_b156 u158 hf => ?_)
  refine a_dup dX4_init_53 rfl rfl ?_
  obtain ⟨G159, h160, c161, hf⟩ := am_bindG_some hf
  have u162 := eX1_init c161
  refine a_callIN (As := []) (r1 := (none, G159, h160)) (sX1_init l k_b156 c161) ccX1_init rfl tn_152 tw_153 rfl ⟨Nat.le_of_ble_eq_true rfl, Nat.le_of_ble_eq_true rfl, Nat.le_of_ble_eq_true rfl, Nat.le_of_ble_eq_true rfl⟩ dX4_init_54 rfl rfl (Nat.le_of_ble_eq_true rfl) u162.2 rfl ?_
  refine a_aast dX4_init_57 rfl (u162.1 _ _ (u158 _ _ k_b154)) (u162.1 _ _ k_b156) hf (fun h163 hf => ?_)
  refine a_iinc (v := nI 15) (L' := [some (.ref v0), some (.int (nI 15))]) dX4_init_58 rfl rfl (by decide) (Nat.le_of_ble_eq_true rfl) (fun _ _ hv => by cases hv; rfl) rfl ?_
  refine a_goto (t := 39) dX4_init_61 rfl ?_
  refine a_iload_n dX4_init_39 rfl rfl ?_
  refine a_bipush (v := nI 20) dX4_init_40 rfl (by decide) ?_
  refine a_icmp_ge_f (t := 64) dX4_init_42 rfl rfl (by decide) ?_
  refine a_aload_n dX4_init_45 rfl rfl ?_
  refine a_getR fl_RX4_17 dX4_init_46 rfl (u162.1 _ _ (u158 _ _ (u152.1 _ _ (u148 _ _ (u142.1 _ _ (u138 _ _ (u132.1 _ _ (u128 _ _ (u122.1 _ _ (u118 _ _ (u112.1 _ _ (u108 _ _ (u102.1 _ _ (u98 _ _ (u92.1 _ _ (u88 _ _ (u82.1 _ _ (u78 _ _ (u72.1 _ _ (u68 _ _ (u62.1 _ _ (u58 _ _ (u52.1 _ _ (u48 _ _ (u42.1 _ _ (u38 _ _ (u32.1 _ _ (u28 _ _ (u22.1 _ _ (u18 _ _ (u9 _ _ (u4 _ _ k_v0)))))))))))))))))))))))))))))))) rfl (by decide) hf (fun b164 n_b164 _ k_b164 hf => ?_)
  refine a_iload_n dX4_init_49 rfl rfl ?_
  refine a_new dX4_init_50 rfl tw_149 tw_151 tw_9 ⟨by decide, rfl, rfl, am_in1⟩ tyX1_ok (by decide +kernel) ⟨Nat.le_of_ble_eq_true rfl, Nat.le_of_ble_eq_true rfl⟩ hf (fun G165 b166 h167 k_b166 u168 hf => ?_)
  refine a_dup dX4_init_53 rfl rfl ?_
  obtain ⟨G169, h170, c171, hf⟩ := am_bindG_some hf
  have u172 := eX1_init c171
  refine a_callIN (As := []) (r1 := (none, G169, h170)) (sX1_init l k_b166 c171) ccX1_init rfl tn_152 tw_153 rfl ⟨Nat.le_of_ble_eq_true rfl, Nat.le_of_ble_eq_true rfl, Nat.le_of_ble_eq_true rfl, Nat.le_of_ble_eq_true rfl⟩ dX4_init_54 rfl rfl (Nat.le_of_ble_eq_true rfl) u172.2 rfl ?_
  refine a_aast dX4_init_57 rfl (u172.1 _ _ (u168 _ _ k_b164)) (u172.1 _ _ k_b166) hf (fun h173 hf => ?_)
  refine a_iinc (v := nI 16) (L' := [some (.ref v0), some (.int (nI 16))]) dX4_init_58 rfl rfl (by decide) (Nat.le_of_ble_eq_true rfl) (fun _ _ hv => by cases hv; rfl) rfl ?_
  refine a_goto (t := 39) dX4_init_61 rfl ?_
  refine a_iload_n dX4_init_39 rfl rfl ?_
  refine a_bipush (v := nI 20) dX4_init_40 rfl (by decide) ?_
  refine a_icmp_ge_f (t := 64) dX4_init_42 rfl rfl (by decide) ?_
  refine a_aload_n dX4_init_45 rfl rfl ?_
  refine a_getR fl_RX4_17 dX4_init_46 rfl (u172.1 _ _ (u168 _ _ (u162.1 _ _ (u158 _ _ (u152.1 _ _ (u148 _ _ (u142.1 _ _ (u138 _ _ (u132.1 _ _ (u128 _ _ (u122.1 _ _ (u118 _ _ (u112.1 _ _ (u108 _ _ (u102.1 _ _ (u98 _ _ (u92.1 _ _ (u88 _ _ (u82.1 _ _ (u78 _ _ (u72.1 _ _ (u68 _ _ (u62.1 _ _ (u58 _ _ (u52.1 _ _ (u48 _ _ (u42.1 _ _ (u38 _ _ (u32.1 _ _ (u28 _ _ (u22.1 _ _ (u18 _ _ (u9 _ _ (u4 _ _ k_v0)))))))))))))))))))))))))))))))))) rfl (by decide) hf (fun b174 n_b174 _ k_b174 hf => ?_)
  refine a_iload_n dX4_init_49 rfl rfl ?_
  refine a_new dX4_init_50 rfl tw_149 tw_151 tw_9 ⟨by decide, rfl, rfl, am_in1⟩ tyX1_ok (by decide +kernel) ⟨Nat.le_of_ble_eq_true rfl, Nat.le_of_ble_eq_true rfl⟩ hf (fun G175 b176 h177 k_b176 u178 hf => ?_)
  refine a_dup dX4_init_53 rfl rfl ?_
  obtain ⟨G179, h180, c181, hf⟩ := am_bindG_some hf
  have u182 := eX1_init c181
  refine a_callIN (As := []) (r1 := (none, G179, h180)) (sX1_init l k_b176 c181) ccX1_init rfl tn_152 tw_153 rfl ⟨Nat.le_of_ble_eq_true rfl, Nat.le_of_ble_eq_true rfl, Nat.le_of_ble_eq_true rfl, Nat.le_of_ble_eq_true rfl⟩ dX4_init_54 rfl rfl (Nat.le_of_ble_eq_true rfl) u182.2 rfl ?_
  refine a_aast dX4_init_57 rfl (u182.1 _ _ (u178 _ _ k_b174)) (u182.1 _ _ k_b176) hf (fun h183 hf => ?_)
  refine a_iinc (v := nI 17) (L' := [some (.ref v0), some (.int (nI 17))]) dX4_init_58 rfl rfl (by decide) (Nat.le_of_ble_eq_true rfl) (fun _ _ hv => by cases hv; rfl) rfl ?_
  refine a_goto (t := 39) dX4_init_61 rfl ?_
  refine a_iload_n dX4_init_39 rfl rfl ?_
  refine a_bipush (v := nI 20) dX4_init_40 rfl (by decide) ?_
  refine a_icmp_ge_f (t := 64) dX4_init_42 rfl rfl (by decide) ?_
  refine a_aload_n dX4_init_45 rfl rfl ?_
  refine a_getR fl_RX4_17 dX4_init_46 rfl (u182.1 _ _ (u178 _ _ (u172.1 _ _ (u168 _ _ (u162.1 _ _ (u158 _ _ (u152.1 _ _ (u148 _ _ (u142.1 _ _ (u138 _ _ (u132.1 _ _ (u128 _ _ (u122.1 _ _ (u118 _ _ (u112.1 _ _ (u108 _ _ (u102.1 _ _ (u98 _ _ (u92.1 _ _ (u88 _ _ (u82.1 _ _ (u78 _ _ (u72.1 _ _ (u68 _ _ (u62.1 _ _ (u58 _ _ (u52.1 _ _ (u48 _ _ (u42.1 _ _ (u38 _ _ (u32.1 _ _ (u28 _ _ (u22.1 _ _ (u18 _ _ (u9 _ _ (u4 _ _ k_v0)))))))))))))))))))))))))))))))))))) rfl (by decide) hf (fun b184 n_b184 _ k_b184 hf => ?_)
  refine a_iload_n dX4_init_49 rfl rfl ?_
  refine a_new dX4_init_50 rfl tw_149 tw_151 tw_9 ⟨by decide, rfl, rfl, am_in1⟩ tyX1_ok (by decide +kernel) ⟨Nat.le_of_ble_eq_true rfl, Nat.le_of_ble_eq_true rfl⟩ hf (fun G185 b186 h187 k_b186 u188 hf => ?_)
  refine a_dup dX4_init_53 rfl rfl ?_
  obtain ⟨G189, h190, c191, hf⟩ := am_bindG_some hf
  have u192 := eX1_init c191
  refine a_callIN (As := []) (r1 := (none, G189, h190)) (sX1_init l k_b186 c191) ccX1_init rfl tn_152 tw_153 rfl ⟨Nat.le_of_ble_eq_true rfl, Nat.le_of_ble_eq_true rfl, Nat.le_of_ble_eq_true rfl, Nat.le_of_ble_eq_true rfl⟩ dX4_init_54 rfl rfl (Nat.le_of_ble_eq_true rfl) u192.2 rfl ?_
  refine a_aast dX4_init_57 rfl (u192.1 _ _ (u188 _ _ k_b184)) (u192.1 _ _ k_b186) hf (fun h193 hf => ?_)
  refine a_iinc (v := nI 18) (L' := [some (.ref v0), some (.int (nI 18))]) dX4_init_58 rfl rfl (by decide) (Nat.le_of_ble_eq_true rfl) (fun _ _ hv => by cases hv; rfl) rfl ?_
  refine a_goto (t := 39) dX4_init_61 rfl ?_
  refine a_iload_n dX4_init_39 rfl rfl ?_
  refine a_bipush (v := nI 20) dX4_init_40 rfl (by decide) ?_
  refine a_icmp_ge_f (t := 64) dX4_init_42 rfl rfl (by decide) ?_
  refine a_aload_n dX4_init_45 rfl rfl ?_
  refine a_getR fl_RX4_17 dX4_init_46 rfl (u192.1 _ _ (u188 _ _ (u182.1 _ _ (u178 _ _ (u172.1 _ _ (u168 _ _ (u162.1 _ _ (u158 _ _ (u152.1 _ _ (u148 _ _ (u142.1 _ _ (u138 _ _ (u132.1 _ _ (u128 _ _ (u122.1 _ _ (u118 _ _ (u112.1 _ _ (u108 _ _ (u102.1 _ _ (u98 _ _ (u92.1 _ _ (u88 _ _ (u82.1 _ _ (u78 _ _ (u72.1 _ _ (u68 _ _ (u62.1 _ _ (u58 _ _ (u52.1 _ _ (u48 _ _ (u42.1 _ _ (u38 _ _ (u32.1 _ _ (u28 _ _ (u22.1 _ _ (u18 _ _ (u9 _ _ (u4 _ _ k_v0)))))))))))))))))))))))))))))))))))))) rfl (by decide) hf (fun b194 n_b194 _ k_b194 hf => ?_)
  refine a_iload_n dX4_init_49 rfl rfl ?_
  refine a_new dX4_init_50 rfl tw_149 tw_151 tw_9 ⟨by decide, rfl, rfl, am_in1⟩ tyX1_ok (by decide +kernel) ⟨Nat.le_of_ble_eq_true rfl, Nat.le_of_ble_eq_true rfl⟩ hf (fun G195 b196 h197 k_b196 u198 hf => ?_)
  refine a_dup dX4_init_53 rfl rfl ?_
  obtain ⟨G199, h200, c201, hf⟩ := am_bindG_some hf
  have u202 := eX1_init c201
  refine a_callIN (As := []) (r1 := (none, G199, h200)) (sX1_init l k_b196 c201) ccX1_init rfl tn_152 tw_153 rfl ⟨Nat.le_of_ble_eq_true rfl, Nat.le_of_ble_eq_true rfl, Nat.le_of_ble_eq_true rfl, Nat.le_of_ble_eq_true rfl⟩ dX4_init_54 rfl rfl (Nat.le_of_ble_eq_true rfl) u202.2 rfl ?_
  refine a_aast dX4_init_57 rfl (u202.1 _ _ (u198 _ _ k_b194)) (u202.1 _ _ k_b196) hf (fun h203 hf => ?_)
  refine a_iinc (v := nI 19) (L' := [some (.ref v0), some (.int (nI 19))]) dX4_init_58 rfl rfl (by decide) (Nat.le_of_ble_eq_true rfl) (fun _ _ hv => by cases hv; rfl) rfl ?_
  refine a_goto (t := 39) dX4_init_61 rfl ?_
  refine a_iload_n dX4_init_39 rfl rfl ?_
  refine a_bipush (v := nI 20) dX4_init_40 rfl (by decide) ?_
  refine a_icmp_ge_f (t := 64) dX4_init_42 rfl rfl (by decide) ?_
  refine a_aload_n dX4_init_45 rfl rfl ?_
  refine a_getR fl_RX4_17 dX4_init_46 rfl (u202.1 _ _ (u198 _ _ (u192.1 _ _ (u188 _ _ (u182.1 _ _ (u178 _ _ (u172.1 _ _ (u168 _ _ (u162.1 _ _ (u158 _ _ (u152.1 _ _ (u148 _ _ (u142.1 _ _ (u138 _ _ (u132.1 _ _ (u128 _ _ (u122.1 _ _ (u118 _ _ (u112.1 _ _ (u108 _ _ (u102.1 _ _ (u98 _ _ (u92.1 _ _ (u88 _ _ (u82.1 _ _ (u78 _ _ (u72.1 _ _ (u68 _ _ (u62.1 _ _ (u58 _ _ (u52.1 _ _ (u48 _ _ (u42.1 _ _ (u38 _ _ (u32.1 _ _ (u28 _ _ (u22.1 _ _ (u18 _ _ (u9 _ _ (u4 _ _ k_v0)))))))))))))))))))))))))))))))))))))))) rfl (by decide) hf (fun b204 n_b204 _ k_b204 hf => ?_)
  refine a_iload_n dX4_init_49 rfl rfl ?_
  refine a_new dX4_init_50 rfl tw_149 tw_151 tw_9 ⟨by decide, rfl, rfl, am_in1⟩ tyX1_ok (by decide +kernel) ⟨Nat.le_of_ble_eq_true rfl, Nat.le_of_ble_eq_true rfl⟩ hf (fun G205 b206 h207 k_b206 u208 hf => ?_)
  refine a_dup dX4_init_53 rfl rfl ?_
  obtain ⟨G209, h210, c211, hf⟩ := am_bindG_some hf
  have u212 := eX1_init c211
  refine a_callIN (As := []) (r1 := (none, G209, h210)) (sX1_init l k_b206 c211) ccX1_init rfl tn_152 tw_153 rfl ⟨Nat.le_of_ble_eq_true rfl, Nat.le_of_ble_eq_true rfl, Nat.le_of_ble_eq_true rfl, Nat.le_of_ble_eq_true rfl⟩ dX4_init_54 rfl rfl (Nat.le_of_ble_eq_true rfl) u212.2 rfl ?_
  refine a_aast dX4_init_57 rfl (u212.1 _ _ (u208 _ _ k_b204)) (u212.1 _ _ k_b206) hf (fun h213 hf => ?_)
  refine a_iinc (v := nI 20) (L' := [some (.ref v0), some (.int (nI 20))]) dX4_init_58 rfl rfl (by decide) (Nat.le_of_ble_eq_true rfl) (fun _ _ hv => by cases hv; rfl) rfl ?_
  refine a_goto (t := 39) dX4_init_61 rfl ?_
  refine a_iload_n dX4_init_39 rfl rfl ?_
  refine a_bipush (v := nI 20) dX4_init_40 rfl (by decide) ?_
  refine a_icmp_ge_t (t := 64) dX4_init_42 rfl (by decide) ?_
  cases hf
  exact a_ret dX4_init_64 rfl rfl rfl
abbrev mX8_init : AMt := (cX8_init, 1, none, RX8, true, am_rm 3 118 40690, 118, 40690, 99)
theorem ccX8_init : am_CC yX8_init mX8_init 0 := ⟨tw_18, tw_1, ⟨by decide +kernel, by decide +kernel, by decide +kernel⟩, rfl, rfl⟩
def fX8_init (Γ : Gm) (v0 : Nat) (h : AH) : Option (Gm × AH) :=
  am_new3 Γ h (3, 0) fun G1 b2 h3 =>
  am_bindG (fX3_init G1 b2 h3) fun G5 h6 =>
  am_let (am_setR h6 v0 0 (some b2)) fun h9 =>
  am_new3 G5 h9 (7, 0) fun G10 b11 h12 =>
  am_bindG (fX7_init G10 b11 h12) fun G14 h15 =>
  am_let (am_setR h15 v0 1 (some b11)) fun h18 =>
  (h18.2 v0 0).bind fun b19 =>
  (h18.2 b19 0).bind fun b20 =>
  am_let (am_setR h18 v0 2 (some b20)) fun h21 =>
  (h21.2 v0 1).bind fun b22 =>
  (h21.2 b22 0).bind fun b23 =>
  am_let (am_setR h21 v0 3 (some b23)) fun h24 =>
  am_new3 G14 h24 (0, 0) fun G25 b26 h27 =>
  am_bindG (fX0_init G25 b26 8000 h27) fun G29 h30 =>
  am_let (am_setR h30 v0 4 (some b26)) fun h33 =>
  am_new3 G29 h33 (0, 0) fun G34 b35 h36 =>
  am_bindG (fX0_init G34 b35 3860 h36) fun G38 h39 =>
  am_let (am_setR h39 v0 5 (some b35)) fun h42 =>
  am_new3 G38 h42 (5, 0) fun G43 b44 h45 =>
  am_bindG (fX5_init G43 b44 h45) fun G47 h48 =>
  am_let (am_setR h48 v0 6 (some b44)) fun h51 =>
  am_new3 G47 h51 (2, 0) fun G52 b53 h54 =>
  am_bindG (fX2_init G52 b53 h54) fun G56 h57 =>
  am_let (am_setR h57 v0 7 (some b53)) fun h60 =>
  am_new3 G56 h60 (4, 0) fun G61 b62 h63 =>
  am_bindG (fX4_init G61 b62 h63) fun G65 h66 =>
  am_let (am_setR h66 v0 8 (some b62)) fun h69 =>
  am_new3 G65 h69 (4, 0) fun G70 b71 h72 =>
  am_bindG (fX4_init G70 b71 h72) fun G74 h75 =>
  am_let (am_setR h75 v0 9 (some b71)) fun h78 =>
  am_new3 G74 h78 (6, 0) fun G79 b80 h81 =>
  am_bindG (fX6_init G79 b80 h81) fun G83 h84 =>
  am_let (am_setR h84 v0 10 (some b80)) fun h87 =>
  am_new3 G83 h87 (6, 0) fun G88 b89 h90 =>
  am_bindG (fX6_init G88 b89 h90) fun G92 h93 =>
  am_let (am_setR h93 v0 11 (some b89)) fun h96 =>
  am_let (am_setI h96 v0 12 (nI 0)) fun h97 =>
  am_let (am_setI h97 v0 13 ((-2 : Int32))) fun h98 =>
  am_let (am_setI h98 v0 14 (nI 0)) fun h99 =>
  am_let (am_setI h99 v0 15 ((-2 : Int32))) fun h100 =>
  some (G92, h100)
set_option maxRecDepth 100000 in
set_option maxHeartbeats 4000000 in
theorem eX8_init {Γ Γ' : Gm} {v0 : Nat} {h h' : AH} (hf : fX8_init Γ v0 h = some (Γ', h')) : am_up Γ Γ' ∧ Γ'.length = Γ.length + 118 := by
  unfold fX8_init at hf
  obtain ⟨G1, b2, h3, u4, hf⟩ := am_new3_some hf
  obtain ⟨G5, h6, c7, hf⟩ := am_bindG_some hf
  have u8 := eX3_init c7
  obtain ⟨h9, hf⟩ := am_let_some hf
  obtain ⟨G10, b11, h12, u13, hf⟩ := am_new3_some hf
  obtain ⟨G14, h15, c16, hf⟩ := am_bindG_some hf
  have u17 := eX7_init c16
  obtain ⟨h18, hf⟩ := am_let_some hf
  obtain ⟨b19, -, hf⟩ := Option.bind_eq_some_iff.mp hf
  obtain ⟨b20, -, hf⟩ := Option.bind_eq_some_iff.mp hf
  obtain ⟨h21, hf⟩ := am_let_some hf
  obtain ⟨b22, -, hf⟩ := Option.bind_eq_some_iff.mp hf
  obtain ⟨b23, -, hf⟩ := Option.bind_eq_some_iff.mp hf
  obtain ⟨h24, hf⟩ := am_let_some hf
  obtain ⟨G25, b26, h27, u28, hf⟩ := am_new3_some hf
  obtain ⟨G29, h30, c31, hf⟩ := am_bindG_some hf
  have u32 := eX0_init c31
  obtain ⟨h33, hf⟩ := am_let_some hf
  obtain ⟨G34, b35, h36, u37, hf⟩ := am_new3_some hf
  obtain ⟨G38, h39, c40, hf⟩ := am_bindG_some hf
  have u41 := eX0_init c40
  obtain ⟨h42, hf⟩ := am_let_some hf
  obtain ⟨G43, b44, h45, u46, hf⟩ := am_new3_some hf
  obtain ⟨G47, h48, c49, hf⟩ := am_bindG_some hf
  have u50 := eX5_init c49
  obtain ⟨h51, hf⟩ := am_let_some hf
  obtain ⟨G52, b53, h54, u55, hf⟩ := am_new3_some hf
  obtain ⟨G56, h57, c58, hf⟩ := am_bindG_some hf
  have u59 := eX2_init c58
  obtain ⟨h60, hf⟩ := am_let_some hf
  obtain ⟨G61, b62, h63, u64, hf⟩ := am_new3_some hf
  obtain ⟨G65, h66, c67, hf⟩ := am_bindG_some hf
  have u68 := eX4_init c67
  obtain ⟨h69, hf⟩ := am_let_some hf
  obtain ⟨G70, b71, h72, u73, hf⟩ := am_new3_some hf
  obtain ⟨G74, h75, c76, hf⟩ := am_bindG_some hf
  have u77 := eX4_init c76
  obtain ⟨h78, hf⟩ := am_let_some hf
  obtain ⟨G79, b80, h81, u82, hf⟩ := am_new3_some hf
  obtain ⟨G83, h84, c85, hf⟩ := am_bindG_some hf
  have u86 := eX6_init c85
  obtain ⟨h87, hf⟩ := am_let_some hf
  obtain ⟨G88, b89, h90, u91, hf⟩ := am_new3_some hf
  obtain ⟨G92, h93, c94, hf⟩ := am_bindG_some hf
  have u95 := eX6_init c94
  obtain ⟨h96, hf⟩ := am_let_some hf
  obtain ⟨h97, hf⟩ := am_let_some hf
  obtain ⟨h98, hf⟩ := am_let_some hf
  obtain ⟨h99, hf⟩ := am_let_some hf
  obtain ⟨h100, hf⟩ := am_let_some hf
  cases hf
  exact ⟨fun a kd hx => u95.1 _ _ (u91.1 _ _ (u86.1 _ _ (u82.1 _ _ (u77.1 _ _ (u73.1 _ _ (u68.1 _ _ (u64.1 _ _ (u59.1 _ _ (u55.1 _ _ (u50.1 _ _ (u46.1 _ _ (u41.1 _ _ (u37.1 _ _ (u32.1 _ _ (u28.1 _ _ (u17.1 _ _ (u13.1 _ _ (u8.1 _ _ (u4.1 _ _ hx))))))))))))))))))), by have := u4.2; have := u8.2; have := u13.2; have := u17.2; have := u28.2; have := u32.2; have := u37.2; have := u41.2; have := u46.2; have := u50.2; have := u55.2; have := u59.2; have := u64.2; have := u68.2; have := u73.2; have := u77.2; have := u82.2; have := u86.2; have := u91.2; have := u95.2; omega⟩
set_option maxRecDepth 100000 in
set_option maxHeartbeats 8000000 in
theorem sX8_init (l : Launch) {Γ Γ' : Gm} {h h' : AH} {v0 n_v0 : Nat} (k_v0 : Γ[v0]? = some (8, n_v0)) (hf : fX8_init Γ v0 h = some (Γ', h')) : AR l yX8_init mX8_init [.ref v0] Γ h (none, Γ', h') := by
  refine AR.of [some (.ref v0)] (by decide +kernel) rfl (fun _ => rfl) (Nat.le_of_ble_eq_true rfl) ⟨rfl, trivial⟩ ?_
  unfold fX8_init at hf
  refine a_aload_n dX8_init_0 rfl rfl ?_
  refine a_objInit dX8_init_1 rfl tw_19 tw_20 tw_21 ⟨Nat.le_of_ble_eq_true rfl, Nat.le_of_ble_eq_true rfl⟩ ?_
  refine a_aload_n dX8_init_4 rfl rfl ?_
  refine a_new dX8_init_5 rfl tw_22 tw_23 tw_2 ⟨by decide, rfl, rfl, am_in3⟩ tyX3_ok (by decide +kernel) ⟨Nat.le_of_ble_eq_true rfl, Nat.le_of_ble_eq_true rfl⟩ hf (fun G1 b2 h3 k_b2 u4 hf => ?_)
  refine a_dup dX8_init_8 rfl rfl ?_
  obtain ⟨G5, h6, c7, hf⟩ := am_bindG_some hf
  have u8 := eX3_init c7
  refine a_callIN (As := []) (r1 := (none, G5, h6)) (sX3_init l k_b2 c7) ccX3_init rfl tn_24 tw_25 rfl ⟨Nat.le_of_ble_eq_true rfl, Nat.le_of_ble_eq_true rfl, Nat.le_of_ble_eq_true rfl, Nat.le_of_ble_eq_true rfl⟩ dX8_init_9 rfl rfl (Nat.le_of_ble_eq_true rfl) u8.2 rfl ?_
  refine a_putR fp_RX8_12 (fun _ => rfl) (fun _ => rfl) (fun _ => rfl) dX8_init_12 rfl (u8.1 _ _ (u4 _ _ k_v0)) (by decide) (u8.1 _ _ k_b2) hf (fun h9 hf => ?_)
  refine a_aload_n dX8_init_15 rfl rfl ?_
  refine a_new dX8_init_16 rfl tw_67 tw_68 tw_5 ⟨by decide, rfl, rfl, am_in7⟩ tyX7_ok (by decide +kernel) ⟨Nat.le_of_ble_eq_true rfl, Nat.le_of_ble_eq_true rfl⟩ hf (fun G10 b11 h12 k_b11 u13 hf => ?_)
  refine a_dup dX8_init_19 rfl rfl ?_
  obtain ⟨G14, h15, c16, hf⟩ := am_bindG_some hf
  have u17 := eX7_init c16
  refine a_callIN (As := []) (r1 := (none, G14, h15)) (sX7_init l k_b11 c16) ccX7_init rfl tn_69 tw_70 rfl ⟨Nat.le_of_ble_eq_true rfl, Nat.le_of_ble_eq_true rfl, Nat.le_of_ble_eq_true rfl, Nat.le_of_ble_eq_true rfl⟩ dX8_init_20 rfl rfl (Nat.le_of_ble_eq_true rfl) u17.2 rfl ?_
  refine a_putR fp_RX8_19 (fun _ => rfl) (fun _ => rfl) (fun _ => rfl) dX8_init_23 rfl (u17.1 _ _ (u13 _ _ (u8.1 _ _ (u4 _ _ k_v0)))) (by decide) (u17.1 _ _ k_b11) hf (fun h18 hf => ?_)
  refine a_aload_n dX8_init_26 rfl rfl ?_
  refine a_aload_n dX8_init_27 rfl rfl ?_
  refine a_getR fl_RX8_12 dX8_init_28 rfl (u17.1 _ _ (u13 _ _ (u8.1 _ _ (u4 _ _ k_v0)))) rfl (by decide) hf (fun b19 n_b19 _ k_b19 hf => ?_)
  refine a_getR fl_RX8_23 dX8_init_31 rfl k_b19 rfl (by decide) hf (fun b20 n_b20 _ k_b20 hf => ?_)
  refine a_putR fp_RX8_27 (fun _ => rfl) (fun _ => rfl) (fun _ => rfl) dX8_init_34 rfl (u17.1 _ _ (u13 _ _ (u8.1 _ _ (u4 _ _ k_v0)))) (by decide) k_b20 hf (fun h21 hf => ?_)
  refine a_aload_n dX8_init_37 rfl rfl ?_
  refine a_aload_n dX8_init_38 rfl rfl ?_
  refine a_getR fl_RX8_19 dX8_init_39 rfl (u17.1 _ _ (u13 _ _ (u8.1 _ _ (u4 _ _ k_v0)))) rfl (by decide) hf (fun b22 n_b22 _ k_b22 hf => ?_)
  refine a_getR fl_RX8_30 dX8_init_42 rfl k_b22 rfl (by decide) hf (fun b23 n_b23 _ k_b23 hf => ?_)
  refine a_putR fp_RX8_31 (fun _ => rfl) (fun _ => rfl) (fun _ => rfl) dX8_init_45 rfl (u17.1 _ _ (u13 _ _ (u8.1 _ _ (u4 _ _ k_v0)))) (by decide) k_b23 hf (fun h24 hf => ?_)
  refine a_aload_n dX8_init_48 rfl rfl ?_
  refine a_new dX8_init_49 rfl tw_93 tw_29 tw_3 ⟨by decide, rfl, rfl, am_in0⟩ tyX0_ok (by decide +kernel) ⟨Nat.le_of_ble_eq_true rfl, Nat.le_of_ble_eq_true rfl⟩ hf (fun G25 b26 h27 k_b26 u28 hf => ?_)
  refine a_dup dX8_init_52 rfl rfl ?_
  refine a_sipush (v := nI 8000) dX8_init_53 rfl (by decide) ?_
  obtain ⟨G29, h30, c31, hf⟩ := am_bindG_some hf
  have u32 := eX0_init c31
  refine a_callI (As := [.int (nI 8000)]) (r1 := (none, G29, h30)) (sX0_init l (by decide) k_b26 c31) (ccX0_init 8000) rfl tw_94 tw_31 rfl ⟨Nat.le_of_ble_eq_true rfl, Nat.le_of_ble_eq_true rfl, Nat.le_of_ble_eq_true rfl, Nat.le_of_ble_eq_true rfl⟩ dX8_init_56 rfl rfl (Nat.le_of_ble_eq_true rfl) u32.2 rfl ?_
  refine a_putR fp_RX8_39 (fun _ => rfl) (fun _ => rfl) (fun _ => rfl) dX8_init_59 rfl (u32.1 _ _ (u28 _ _ (u17.1 _ _ (u13 _ _ (u8.1 _ _ (u4 _ _ k_v0)))))) (by decide) (u32.1 _ _ k_b26) hf (fun h33 hf => ?_)
  refine a_aload_n dX8_init_62 rfl rfl ?_
  refine a_new dX8_init_63 rfl tw_93 tw_29 tw_3 ⟨by decide, rfl, rfl, am_in0⟩ tyX0_ok (by decide +kernel) ⟨Nat.le_of_ble_eq_true rfl, Nat.le_of_ble_eq_true rfl⟩ hf (fun G34 b35 h36 k_b35 u37 hf => ?_)
  refine a_dup dX8_init_66 rfl rfl ?_
  refine a_sipush (v := nI 3860) dX8_init_67 rfl (by decide) ?_
  obtain ⟨G38, h39, c40, hf⟩ := am_bindG_some hf
  have u41 := eX0_init c40
  refine a_callI (As := [.int (nI 3860)]) (r1 := (none, G38, h39)) (sX0_init l (by decide) k_b35 c40) (ccX0_init 3860) rfl tw_94 tw_31 rfl ⟨Nat.le_of_ble_eq_true rfl, Nat.le_of_ble_eq_true rfl, Nat.le_of_ble_eq_true rfl, Nat.le_of_ble_eq_true rfl⟩ dX8_init_70 rfl rfl (Nat.le_of_ble_eq_true rfl) u41.2 rfl ?_
  refine a_putR fp_RX8_42 (fun _ => rfl) (fun _ => rfl) (fun _ => rfl) dX8_init_73 rfl (u41.1 _ _ (u37 _ _ (u32.1 _ _ (u28 _ _ (u17.1 _ _ (u13 _ _ (u8.1 _ _ (u4 _ _ k_v0)))))))) (by decide) (u41.1 _ _ k_b35) hf (fun h42 hf => ?_)
  refine a_aload_n dX8_init_76 rfl rfl ?_
  refine a_new dX8_init_77 rfl tw_95 tw_96 tw_6 ⟨by decide, rfl, rfl, am_in5⟩ tyX5_ok (by decide +kernel) ⟨Nat.le_of_ble_eq_true rfl, Nat.le_of_ble_eq_true rfl⟩ hf (fun G43 b44 h45 k_b44 u46 hf => ?_)
  refine a_dup dX8_init_80 rfl rfl ?_
  obtain ⟨G47, h48, c49, hf⟩ := am_bindG_some hf
  have u50 := eX5_init c49
  refine a_callIN (As := []) (r1 := (none, G47, h48)) (sX5_init l k_b44 c49) ccX5_init rfl tn_97 tw_98 rfl ⟨Nat.le_of_ble_eq_true rfl, Nat.le_of_ble_eq_true rfl, Nat.le_of_ble_eq_true rfl, Nat.le_of_ble_eq_true rfl⟩ dX8_init_81 rfl rfl (Nat.le_of_ble_eq_true rfl) u50.2 rfl ?_
  refine a_putR fp_RX8_48 (fun _ => rfl) (fun _ => rfl) (fun _ => rfl) dX8_init_84 rfl (u50.1 _ _ (u46 _ _ (u41.1 _ _ (u37 _ _ (u32.1 _ _ (u28 _ _ (u17.1 _ _ (u13 _ _ (u8.1 _ _ (u4 _ _ k_v0)))))))))) (by decide) (u50.1 _ _ k_b44) hf (fun h51 hf => ?_)
  refine a_aload_n dX8_init_87 rfl rfl ?_
  refine a_new dX8_init_88 rfl tw_113 tw_114 tw_7 ⟨by decide, rfl, rfl, am_in2⟩ tyX2_ok (by decide +kernel) ⟨Nat.le_of_ble_eq_true rfl, Nat.le_of_ble_eq_true rfl⟩ hf (fun G52 b53 h54 k_b53 u55 hf => ?_)
  refine a_dup dX8_init_91 rfl rfl ?_
  obtain ⟨G56, h57, c58, hf⟩ := am_bindG_some hf
  have u59 := eX2_init c58
  refine a_callIN (As := []) (r1 := (none, G56, h57)) (sX2_init l k_b53 c58) ccX2_init rfl tn_115 tw_116 rfl ⟨Nat.le_of_ble_eq_true rfl, Nat.le_of_ble_eq_true rfl, Nat.le_of_ble_eq_true rfl, Nat.le_of_ble_eq_true rfl⟩ dX8_init_92 rfl rfl (Nat.le_of_ble_eq_true rfl) u59.2 rfl ?_
  refine a_putR fp_RX8_55 (fun _ => rfl) (fun _ => rfl) (fun _ => rfl) dX8_init_95 rfl (u59.1 _ _ (u55 _ _ (u50.1 _ _ (u46 _ _ (u41.1 _ _ (u37 _ _ (u32.1 _ _ (u28 _ _ (u17.1 _ _ (u13 _ _ (u8.1 _ _ (u4 _ _ k_v0)))))))))))) (by decide) (u59.1 _ _ k_b53) hf (fun h60 hf => ?_)
  refine a_aload_n dX8_init_98 rfl rfl ?_
  refine a_new dX8_init_99 rfl tw_143 tw_144 tw_8 ⟨by decide, rfl, rfl, am_in4⟩ tyX4_ok (by decide +kernel) ⟨Nat.le_of_ble_eq_true rfl, Nat.le_of_ble_eq_true rfl⟩ hf (fun G61 b62 h63 k_b62 u64 hf => ?_)
  refine a_dup dX8_init_102 rfl rfl ?_
  obtain ⟨G65, h66, c67, hf⟩ := am_bindG_some hf
  have u68 := eX4_init c67
  refine a_callI (As := []) (r1 := (none, G65, h66)) (sX4_init l k_b62 c67) ccX4_init rfl tw_145 tw_146 rfl ⟨Nat.le_of_ble_eq_true rfl, Nat.le_of_ble_eq_true rfl, Nat.le_of_ble_eq_true rfl, Nat.le_of_ble_eq_true rfl⟩ dX8_init_103 rfl rfl (Nat.le_of_ble_eq_true rfl) u68.2 rfl ?_
  refine a_putR fp_RX8_62 (fun _ => rfl) (fun _ => rfl) (fun _ => rfl) dX8_init_106 rfl (u68.1 _ _ (u64 _ _ (u59.1 _ _ (u55 _ _ (u50.1 _ _ (u46 _ _ (u41.1 _ _ (u37 _ _ (u32.1 _ _ (u28 _ _ (u17.1 _ _ (u13 _ _ (u8.1 _ _ (u4 _ _ k_v0)))))))))))))) (by decide) (u68.1 _ _ k_b62) hf (fun h69 hf => ?_)
  refine a_aload_n dX8_init_109 rfl rfl ?_
  refine a_new dX8_init_110 rfl tw_143 tw_144 tw_8 ⟨by decide, rfl, rfl, am_in4⟩ tyX4_ok (by decide +kernel) ⟨Nat.le_of_ble_eq_true rfl, Nat.le_of_ble_eq_true rfl⟩ hf (fun G70 b71 h72 k_b71 u73 hf => ?_)
  refine a_dup dX8_init_113 rfl rfl ?_
  obtain ⟨G74, h75, c76, hf⟩ := am_bindG_some hf
  have u77 := eX4_init c76
  refine a_callI (As := []) (r1 := (none, G74, h75)) (sX4_init l k_b71 c76) ccX4_init rfl tw_145 tw_146 rfl ⟨Nat.le_of_ble_eq_true rfl, Nat.le_of_ble_eq_true rfl, Nat.le_of_ble_eq_true rfl, Nat.le_of_ble_eq_true rfl⟩ dX8_init_114 rfl rfl (Nat.le_of_ble_eq_true rfl) u77.2 rfl ?_
  refine a_putR fp_RX8_66 (fun _ => rfl) (fun _ => rfl) (fun _ => rfl) dX8_init_117 rfl (u77.1 _ _ (u73 _ _ (u68.1 _ _ (u64 _ _ (u59.1 _ _ (u55 _ _ (u50.1 _ _ (u46 _ _ (u41.1 _ _ (u37 _ _ (u32.1 _ _ (u28 _ _ (u17.1 _ _ (u13 _ _ (u8.1 _ _ (u4 _ _ k_v0)))))))))))))))) (by decide) (u77.1 _ _ k_b71) hf (fun h78 hf => ?_)
  refine a_aload_n dX8_init_120 rfl rfl ?_
  refine a_new dX8_init_121 rfl tw_202 tw_203 tw_10 ⟨by decide, rfl, rfl, am_in6⟩ tyX6_ok (by decide +kernel) ⟨Nat.le_of_ble_eq_true rfl, Nat.le_of_ble_eq_true rfl⟩ hf (fun G79 b80 h81 k_b80 u82 hf => ?_)
  refine a_dup dX8_init_124 rfl rfl ?_
  obtain ⟨G83, h84, c85, hf⟩ := am_bindG_some hf
  have u86 := eX6_init c85
  refine a_callIN (As := []) (r1 := (none, G83, h84)) (sX6_init l k_b80 c85) ccX6_init rfl tn_204 tw_205 rfl ⟨Nat.le_of_ble_eq_true rfl, Nat.le_of_ble_eq_true rfl, Nat.le_of_ble_eq_true rfl, Nat.le_of_ble_eq_true rfl⟩ dX8_init_125 rfl rfl (Nat.le_of_ble_eq_true rfl) u86.2 rfl ?_
  refine a_putR fp_RX8_72 (fun _ => rfl) (fun _ => rfl) (fun _ => rfl) dX8_init_128 rfl (u86.1 _ _ (u82 _ _ (u77.1 _ _ (u73 _ _ (u68.1 _ _ (u64 _ _ (u59.1 _ _ (u55 _ _ (u50.1 _ _ (u46 _ _ (u41.1 _ _ (u37 _ _ (u32.1 _ _ (u28 _ _ (u17.1 _ _ (u13 _ _ (u8.1 _ _ (u4 _ _ k_v0)))))))))))))))))) (by decide) (u86.1 _ _ k_b80) hf (fun h87 hf => ?_)
  refine a_aload_n dX8_init_131 rfl rfl ?_
  refine a_new dX8_init_132 rfl tw_202 tw_203 tw_10 ⟨by decide, rfl, rfl, am_in6⟩ tyX6_ok (by decide +kernel) ⟨Nat.le_of_ble_eq_true rfl, Nat.le_of_ble_eq_true rfl⟩ hf (fun G88 b89 h90 k_b89 u91 hf => ?_)
  refine a_dup dX8_init_135 rfl rfl ?_
  obtain ⟨G92, h93, c94, hf⟩ := am_bindG_some hf
  have u95 := eX6_init c94
  refine a_callIN (As := []) (r1 := (none, G92, h93)) (sX6_init l k_b89 c94) ccX6_init rfl tn_204 tw_205 rfl ⟨Nat.le_of_ble_eq_true rfl, Nat.le_of_ble_eq_true rfl, Nat.le_of_ble_eq_true rfl, Nat.le_of_ble_eq_true rfl⟩ dX8_init_136 rfl rfl (Nat.le_of_ble_eq_true rfl) u95.2 rfl ?_
  refine a_putR fp_RX8_76 (fun _ => rfl) (fun _ => rfl) (fun _ => rfl) dX8_init_139 rfl (u95.1 _ _ (u91 _ _ (u86.1 _ _ (u82 _ _ (u77.1 _ _ (u73 _ _ (u68.1 _ _ (u64 _ _ (u59.1 _ _ (u55 _ _ (u50.1 _ _ (u46 _ _ (u41.1 _ _ (u37 _ _ (u32.1 _ _ (u28 _ _ (u17.1 _ _ (u13 _ _ (u8.1 _ _ (u4 _ _ k_v0)))))))))))))))))))) (by decide) (u95.1 _ _ k_b89) hf (fun h96 hf => ?_)
  refine a_aload_n dX8_init_142 rfl rfl ?_
  refine a_iconst (v := nI 0) dX8_init_143 rfl (by decide) ?_
  refine a_putZ fp_RX8_79 dX8_init_144 rfl (u95.1 _ _ (u91 _ _ (u86.1 _ _ (u82 _ _ (u77.1 _ _ (u73 _ _ (u68.1 _ _ (u64 _ _ (u59.1 _ _ (u55 _ _ (u50.1 _ _ (u46 _ _ (u41.1 _ _ (u37 _ _ (u32.1 _ _ (u28 _ _ (u17.1 _ _ (u13 _ _ (u8.1 _ _ (u4 _ _ k_v0)))))))))))))))))))) rfl (by decide) hf (fun h97 hf => ?_)
  refine a_aload_n dX8_init_147 rfl rfl ?_
  refine a_bipush (v := (-2 : Int32)) dX8_init_148 rfl (by decide) ?_
  refine a_putI fp_RX8_83 dX8_init_150 rfl (u95.1 _ _ (u91 _ _ (u86.1 _ _ (u82 _ _ (u77.1 _ _ (u73 _ _ (u68.1 _ _ (u64 _ _ (u59.1 _ _ (u55 _ _ (u50.1 _ _ (u46 _ _ (u41.1 _ _ (u37 _ _ (u32.1 _ _ (u28 _ _ (u17.1 _ _ (u13 _ _ (u8.1 _ _ (u4 _ _ k_v0)))))))))))))))))))) rfl hf (fun h98 hf => ?_)
  refine a_aload_n dX8_init_153 rfl rfl ?_
  refine a_iconst (v := nI 0) dX8_init_154 rfl (by decide) ?_
  refine a_putI fp_RX8_87 dX8_init_155 rfl (u95.1 _ _ (u91 _ _ (u86.1 _ _ (u82 _ _ (u77.1 _ _ (u73 _ _ (u68.1 _ _ (u64 _ _ (u59.1 _ _ (u55 _ _ (u50.1 _ _ (u46 _ _ (u41.1 _ _ (u37 _ _ (u32.1 _ _ (u28 _ _ (u17.1 _ _ (u13 _ _ (u8.1 _ _ (u4 _ _ k_v0)))))))))))))))))))) rfl hf (fun h99 hf => ?_)
  refine a_aload_n dX8_init_158 rfl rfl ?_
  refine a_bipush (v := (-2 : Int32)) dX8_init_159 rfl (by decide) ?_
  refine a_putI fp_RX8_90 dX8_init_161 rfl (u95.1 _ _ (u91 _ _ (u86.1 _ _ (u82 _ _ (u77.1 _ _ (u73 _ _ (u68.1 _ _ (u64 _ _ (u59.1 _ _ (u55 _ _ (u50.1 _ _ (u46 _ _ (u41.1 _ _ (u37 _ _ (u32.1 _ _ (u28 _ _ (u17.1 _ _ (u13 _ _ (u8.1 _ _ (u4 _ _ k_v0)))))))))))))))))))) rfl hf (fun h100 hf => ?_)
  cases hf
  exact a_ret dX8_init_164 rfl rfl rfl
abbrev mX9_init : AMt := (cX9_init, 1, none, RX9, true, am_rm 1 15 54521, 15, 54521, 99)
theorem ccX9_init : am_CC yX9_init mX9_init 0 := ⟨tw_717, tw_11, ⟨by decide +kernel, by decide +kernel, by decide +kernel⟩, rfl, rfl⟩
def fX9_init (Γ : Gm) (v0 : Nat) (h : AH) : Option (Gm × AH) :=
  am_new3 Γ h (10, 2000) fun G1 b2 h3 =>
  am_let (am_setR h3 v0 0 (some b2)) fun h5 =>
  am_new3 G1 h5 (10, 8000) fun G6 b7 h8 =>
  am_let (am_setR h8 v0 2 (some b7)) fun h10 =>
  am_new3 G6 h10 (10, 8000) fun G11 b12 h13 =>
  am_let (am_setR h13 v0 4 (some b12)) fun h15 =>
  am_let (am_setI h15 v0 5 ((-2 : Int32))) fun h16 =>
  am_let (am_setI h16 v0 6 ((-2 : Int32))) fun h17 =>
  am_new3 G11 h17 (10, 10) fun G18 b19 h20 =>
  am_let (am_setR h20 v0 7 (some b19)) fun h22 =>
  am_new3 G18 h22 (10, 1000) fun G23 b24 h25 =>
  am_let (am_setR h25 v0 8 (some b24)) fun h27 =>
  am_new3 G23 h27 (10, 2202) fun G28 b29 h30 =>
  am_let (am_setR h30 v0 10 (some b29)) fun h32 =>
  am_new3 G28 h32 (10, 2202) fun G33 b34 h35 =>
  am_let (am_setR h35 v0 11 (some b34)) fun h37 =>
  am_new3 G33 h37 (10, 19818) fun G38 b39 h40 =>
  am_let (am_setR h40 v0 12 (some b39)) fun h42 =>
  am_new3 G38 h42 (10, 9) fun G43 b44 h45 =>
  am_let (am_setR h45 v0 13 (some b44)) fun h47 =>
  am_let (am_setI h47 v0 15 (nI 1000)) fun h48 =>
  am_new3 G43 h48 (10, 1616) fun G49 b50 h51 =>
  am_let (am_setR h51 v0 16 (some b50)) fun h53 =>
  am_new3 G49 h53 (10, 1616) fun G54 b55 h56 =>
  am_let (am_setR h56 v0 18 (some b55)) fun h58 =>
  am_let (am_setI h58 v0 21 ((-2 : Int32))) fun h59 =>
  am_new3 G54 h59 (10, 16) fun G60 b61 h62 =>
  am_let (am_setR h62 v0 22 (some b61)) fun h64 =>
  am_new3 G60 h64 (10, 16) fun G65 b66 h67 =>
  am_let (am_setR h67 v0 23 (some b66)) fun h69 =>
  am_new3 G65 h69 (10, 16) fun G70 b71 h72 =>
  am_let (am_setR h72 v0 24 (some b71)) fun h74 =>
  am_new3 G70 h74 (10, 8000) fun G75 b76 h77 =>
  am_let (am_setR h77 v0 26 (some b76)) fun h79 =>
  some (G75, h79)
set_option maxRecDepth 100000 in
set_option maxHeartbeats 4000000 in
theorem eX9_init {Γ Γ' : Gm} {v0 : Nat} {h h' : AH} (hf : fX9_init Γ v0 h = some (Γ', h')) : am_up Γ Γ' ∧ Γ'.length = Γ.length + 15 := by
  unfold fX9_init at hf
  obtain ⟨G1, b2, h3, u4, hf⟩ := am_new3_some hf
  obtain ⟨h5, hf⟩ := am_let_some hf
  obtain ⟨G6, b7, h8, u9, hf⟩ := am_new3_some hf
  obtain ⟨h10, hf⟩ := am_let_some hf
  obtain ⟨G11, b12, h13, u14, hf⟩ := am_new3_some hf
  obtain ⟨h15, hf⟩ := am_let_some hf
  obtain ⟨h16, hf⟩ := am_let_some hf
  obtain ⟨h17, hf⟩ := am_let_some hf
  obtain ⟨G18, b19, h20, u21, hf⟩ := am_new3_some hf
  obtain ⟨h22, hf⟩ := am_let_some hf
  obtain ⟨G23, b24, h25, u26, hf⟩ := am_new3_some hf
  obtain ⟨h27, hf⟩ := am_let_some hf
  obtain ⟨G28, b29, h30, u31, hf⟩ := am_new3_some hf
  obtain ⟨h32, hf⟩ := am_let_some hf
  obtain ⟨G33, b34, h35, u36, hf⟩ := am_new3_some hf
  obtain ⟨h37, hf⟩ := am_let_some hf
  obtain ⟨G38, b39, h40, u41, hf⟩ := am_new3_some hf
  obtain ⟨h42, hf⟩ := am_let_some hf
  obtain ⟨G43, b44, h45, u46, hf⟩ := am_new3_some hf
  obtain ⟨h47, hf⟩ := am_let_some hf
  obtain ⟨h48, hf⟩ := am_let_some hf
  obtain ⟨G49, b50, h51, u52, hf⟩ := am_new3_some hf
  obtain ⟨h53, hf⟩ := am_let_some hf
  obtain ⟨G54, b55, h56, u57, hf⟩ := am_new3_some hf
  obtain ⟨h58, hf⟩ := am_let_some hf
  obtain ⟨h59, hf⟩ := am_let_some hf
  obtain ⟨G60, b61, h62, u63, hf⟩ := am_new3_some hf
  obtain ⟨h64, hf⟩ := am_let_some hf
  obtain ⟨G65, b66, h67, u68, hf⟩ := am_new3_some hf
  obtain ⟨h69, hf⟩ := am_let_some hf
  obtain ⟨G70, b71, h72, u73, hf⟩ := am_new3_some hf
  obtain ⟨h74, hf⟩ := am_let_some hf
  obtain ⟨G75, b76, h77, u78, hf⟩ := am_new3_some hf
  obtain ⟨h79, hf⟩ := am_let_some hf
  cases hf
  exact ⟨fun a kd hx => u78.1 _ _ (u73.1 _ _ (u68.1 _ _ (u63.1 _ _ (u57.1 _ _ (u52.1 _ _ (u46.1 _ _ (u41.1 _ _ (u36.1 _ _ (u31.1 _ _ (u26.1 _ _ (u21.1 _ _ (u14.1 _ _ (u9.1 _ _ (u4.1 _ _ hx)))))))))))))), by have := u4.2; have := u9.2; have := u14.2; have := u21.2; have := u26.2; have := u31.2; have := u36.2; have := u41.2; have := u46.2; have := u52.2; have := u57.2; have := u63.2; have := u68.2; have := u73.2; have := u78.2; omega⟩
set_option maxRecDepth 100000 in
set_option maxHeartbeats 8000000 in
theorem sX9_init (l : Launch) {Γ Γ' : Gm} {h h' : AH} {v0 n_v0 : Nat} (k_v0 : Γ[v0]? = some (9, n_v0)) (hf : fX9_init Γ v0 h = some (Γ', h')) : AR l yX9_init mX9_init [.ref v0] Γ h (none, Γ', h') := by
  refine AR.of [some (.ref v0)] (by decide +kernel) rfl (fun _ => rfl) (Nat.le_of_ble_eq_true rfl) ⟨rfl, trivial⟩ ?_
  unfold fX9_init at hf
  refine a_aload_n dX9_init_0 rfl rfl ?_
  refine a_objInit dX9_init_1 rfl tw_718 tw_20 tw_21 ⟨Nat.le_of_ble_eq_true rfl, Nat.le_of_ble_eq_true rfl⟩ ?_
  refine a_aload_n dX9_init_4 rfl rfl ?_
  refine a_sipush (v := nI 2000) dX9_init_5 rfl (by decide) ?_
  refine a_newa (N := 2000) dX9_init_8 rfl tw_49 (by decide) (by decide) (by decide) ⟨Nat.le_of_ble_eq_true rfl, Nat.le_of_ble_eq_true rfl⟩ hf (fun G1 b2 h3 k_b2 u4 hf => ?_)
  refine a_putR fp_RX9_9 (fun _ => rfl) (fun _ => rfl) (fun _ => rfl) dX9_init_10 rfl (u4 _ _ k_v0) (by decide) k_b2 hf (fun h5 hf => ?_)
  refine a_aload_n dX9_init_13 rfl rfl ?_
  refine a_sipush (v := nI 8000) dX9_init_14 rfl (by decide) ?_
  refine a_newa (N := 8000) dX9_init_17 rfl tw_49 (by decide) (by decide) (by decide) ⟨Nat.le_of_ble_eq_true rfl, Nat.le_of_ble_eq_true rfl⟩ hf (fun G6 b7 h8 k_b7 u9 hf => ?_)
  refine a_putR fp_RX9_13 (fun _ => rfl) (fun _ => rfl) (fun _ => rfl) dX9_init_19 rfl (u9 _ _ (u4 _ _ k_v0)) (by decide) k_b7 hf (fun h10 hf => ?_)
  refine a_aload_n dX9_init_22 rfl rfl ?_
  refine a_sipush (v := nI 8000) dX9_init_23 rfl (by decide) ?_
  refine a_newa (N := 8000) dX9_init_26 rfl tw_49 (by decide) (by decide) (by decide) ⟨Nat.le_of_ble_eq_true rfl, Nat.le_of_ble_eq_true rfl⟩ hf (fun G11 b12 h13 k_b12 u14 hf => ?_)
  refine a_putR fp_RX9_16 (fun _ => rfl) (fun _ => rfl) (fun _ => rfl) dX9_init_28 rfl (u14 _ _ (u9 _ _ (u4 _ _ k_v0))) (by decide) k_b12 hf (fun h15 hf => ?_)
  refine a_aload_n dX9_init_31 rfl rfl ?_
  refine a_bipush (v := (-2 : Int32)) dX9_init_32 rfl (by decide) ?_
  refine a_putI fp_RX9_19 dX9_init_34 rfl (u14 _ _ (u9 _ _ (u4 _ _ k_v0))) rfl hf (fun h16 hf => ?_)
  refine a_aload_n dX9_init_37 rfl rfl ?_
  refine a_bipush (v := (-2 : Int32)) dX9_init_38 rfl (by decide) ?_
  refine a_putI fp_RX9_23 dX9_init_40 rfl (u14 _ _ (u9 _ _ (u4 _ _ k_v0))) rfl hf (fun h17 hf => ?_)
  refine a_aload_n dX9_init_43 rfl rfl ?_
  refine a_bipush (v := nI 10) dX9_init_44 rfl (by decide) ?_
  refine a_newa (N := 10) dX9_init_46 rfl tw_49 (by decide) (by decide) (by decide) ⟨Nat.le_of_ble_eq_true rfl, Nat.le_of_ble_eq_true rfl⟩ hf (fun G18 b19 h20 k_b19 u21 hf => ?_)
  refine a_putR fp_RX9_26 (fun _ => rfl) (fun _ => rfl) (fun _ => rfl) dX9_init_48 rfl (u21 _ _ (u14 _ _ (u9 _ _ (u4 _ _ k_v0)))) (by decide) k_b19 hf (fun h22 hf => ?_)
  refine a_aload_n dX9_init_51 rfl rfl ?_
  refine a_sipush (v := nI 1000) dX9_init_52 rfl (by decide) ?_
  refine a_newa (N := 1000) dX9_init_55 rfl tw_49 (by decide) (by decide) (by decide) ⟨Nat.le_of_ble_eq_true rfl, Nat.le_of_ble_eq_true rfl⟩ hf (fun G23 b24 h25 k_b24 u26 hf => ?_)
  refine a_putR fp_RX9_29 (fun _ => rfl) (fun _ => rfl) (fun _ => rfl) dX9_init_57 rfl (u26 _ _ (u21 _ _ (u14 _ _ (u9 _ _ (u4 _ _ k_v0))))) (by decide) k_b24 hf (fun h27 hf => ?_)
  refine a_aload_n dX9_init_60 rfl rfl ?_
  refine a_sipush (v := nI 2202) dX9_init_61 rfl (by decide) ?_
  refine a_newa (N := 2202) dX9_init_64 rfl tw_49 (by decide) (by decide) (by decide) ⟨Nat.le_of_ble_eq_true rfl, Nat.le_of_ble_eq_true rfl⟩ hf (fun G28 b29 h30 k_b29 u31 hf => ?_)
  refine a_putR fp_RX9_32 (fun _ => rfl) (fun _ => rfl) (fun _ => rfl) dX9_init_66 rfl (u31 _ _ (u26 _ _ (u21 _ _ (u14 _ _ (u9 _ _ (u4 _ _ k_v0)))))) (by decide) k_b29 hf (fun h32 hf => ?_)
  refine a_aload_n dX9_init_69 rfl rfl ?_
  refine a_sipush (v := nI 2202) dX9_init_70 rfl (by decide) ?_
  refine a_newa (N := 2202) dX9_init_73 rfl tw_49 (by decide) (by decide) (by decide) ⟨Nat.le_of_ble_eq_true rfl, Nat.le_of_ble_eq_true rfl⟩ hf (fun G33 b34 h35 k_b34 u36 hf => ?_)
  refine a_putR fp_RX9_35 (fun _ => rfl) (fun _ => rfl) (fun _ => rfl) dX9_init_75 rfl (u36 _ _ (u31 _ _ (u26 _ _ (u21 _ _ (u14 _ _ (u9 _ _ (u4 _ _ k_v0))))))) (by decide) k_b34 hf (fun h37 hf => ?_)
  refine a_aload_n dX9_init_78 rfl rfl ?_
  refine a_sipush (v := nI 19818) dX9_init_79 rfl (by decide) ?_
  refine a_newa (N := 19818) dX9_init_82 rfl tw_49 (by decide) (by decide) (by decide) ⟨Nat.le_of_ble_eq_true rfl, Nat.le_of_ble_eq_true rfl⟩ hf (fun G38 b39 h40 k_b39 u41 hf => ?_)
  refine a_putR fp_RX9_38 (fun _ => rfl) (fun _ => rfl) (fun _ => rfl) dX9_init_84 rfl (u41 _ _ (u36 _ _ (u31 _ _ (u26 _ _ (u21 _ _ (u14 _ _ (u9 _ _ (u4 _ _ k_v0)))))))) (by decide) k_b39 hf (fun h42 hf => ?_)
  refine a_aload_n dX9_init_87 rfl rfl ?_
  refine a_bipush (v := nI 9) dX9_init_88 rfl (by decide) ?_
  refine a_newa (N := 9) dX9_init_90 rfl tw_49 (by decide) (by decide) (by decide) ⟨Nat.le_of_ble_eq_true rfl, Nat.le_of_ble_eq_true rfl⟩ hf (fun G43 b44 h45 k_b44 u46 hf => ?_)
  refine a_putR fp_RX9_41 (fun _ => rfl) (fun _ => rfl) (fun _ => rfl) dX9_init_92 rfl (u46 _ _ (u41 _ _ (u36 _ _ (u31 _ _ (u26 _ _ (u21 _ _ (u14 _ _ (u9 _ _ (u4 _ _ k_v0))))))))) (by decide) k_b44 hf (fun h47 hf => ?_)
  refine a_aload_n dX9_init_95 rfl rfl ?_
  refine a_sipush (v := nI 1000) dX9_init_96 rfl (by decide) ?_
  refine a_putI fp_RX9_44 dX9_init_99 rfl (u46 _ _ (u41 _ _ (u36 _ _ (u31 _ _ (u26 _ _ (u21 _ _ (u14 _ _ (u9 _ _ (u4 _ _ k_v0))))))))) rfl hf (fun h48 hf => ?_)
  refine a_aload_n dX9_init_102 rfl rfl ?_
  refine a_sipush (v := nI 1616) dX9_init_103 rfl (by decide) ?_
  refine a_newa (N := 1616) dX9_init_106 rfl tw_49 (by decide) (by decide) (by decide) ⟨Nat.le_of_ble_eq_true rfl, Nat.le_of_ble_eq_true rfl⟩ hf (fun G49 b50 h51 k_b50 u52 hf => ?_)
  refine a_putR fp_RX9_47 (fun _ => rfl) (fun _ => rfl) (fun _ => rfl) dX9_init_108 rfl (u52 _ _ (u46 _ _ (u41 _ _ (u36 _ _ (u31 _ _ (u26 _ _ (u21 _ _ (u14 _ _ (u9 _ _ (u4 _ _ k_v0)))))))))) (by decide) k_b50 hf (fun h53 hf => ?_)
  refine a_aload_n dX9_init_111 rfl rfl ?_
  refine a_sipush (v := nI 1616) dX9_init_112 rfl (by decide) ?_
  refine a_newa (N := 1616) dX9_init_115 rfl tw_49 (by decide) (by decide) (by decide) ⟨Nat.le_of_ble_eq_true rfl, Nat.le_of_ble_eq_true rfl⟩ hf (fun G54 b55 h56 k_b55 u57 hf => ?_)
  refine a_putR fp_RX9_50 (fun _ => rfl) (fun _ => rfl) (fun _ => rfl) dX9_init_117 rfl (u57 _ _ (u52 _ _ (u46 _ _ (u41 _ _ (u36 _ _ (u31 _ _ (u26 _ _ (u21 _ _ (u14 _ _ (u9 _ _ (u4 _ _ k_v0))))))))))) (by decide) k_b55 hf (fun h58 hf => ?_)
  refine a_aload_n dX9_init_120 rfl rfl ?_
  refine a_bipush (v := (-2 : Int32)) dX9_init_121 rfl (by decide) ?_
  refine a_putI fp_RX9_53 dX9_init_123 rfl (u57 _ _ (u52 _ _ (u46 _ _ (u41 _ _ (u36 _ _ (u31 _ _ (u26 _ _ (u21 _ _ (u14 _ _ (u9 _ _ (u4 _ _ k_v0))))))))))) rfl hf (fun h59 hf => ?_)
  refine a_aload_n dX9_init_126 rfl rfl ?_
  refine a_bipush (v := nI 16) dX9_init_127 rfl (by decide) ?_
  refine a_newa (N := 16) dX9_init_129 rfl tw_49 (by decide) (by decide) (by decide) ⟨Nat.le_of_ble_eq_true rfl, Nat.le_of_ble_eq_true rfl⟩ hf (fun G60 b61 h62 k_b61 u63 hf => ?_)
  refine a_putR fp_RX9_56 (fun _ => rfl) (fun _ => rfl) (fun _ => rfl) dX9_init_131 rfl (u63 _ _ (u57 _ _ (u52 _ _ (u46 _ _ (u41 _ _ (u36 _ _ (u31 _ _ (u26 _ _ (u21 _ _ (u14 _ _ (u9 _ _ (u4 _ _ k_v0)))))))))))) (by decide) k_b61 hf (fun h64 hf => ?_)
  refine a_aload_n dX9_init_134 rfl rfl ?_
  refine a_bipush (v := nI 16) dX9_init_135 rfl (by decide) ?_
  refine a_newa (N := 16) dX9_init_137 rfl tw_49 (by decide) (by decide) (by decide) ⟨Nat.le_of_ble_eq_true rfl, Nat.le_of_ble_eq_true rfl⟩ hf (fun G65 b66 h67 k_b66 u68 hf => ?_)
  refine a_putR fp_RX9_59 (fun _ => rfl) (fun _ => rfl) (fun _ => rfl) dX9_init_139 rfl (u68 _ _ (u63 _ _ (u57 _ _ (u52 _ _ (u46 _ _ (u41 _ _ (u36 _ _ (u31 _ _ (u26 _ _ (u21 _ _ (u14 _ _ (u9 _ _ (u4 _ _ k_v0))))))))))))) (by decide) k_b66 hf (fun h69 hf => ?_)
  refine a_aload_n dX9_init_142 rfl rfl ?_
  refine a_bipush (v := nI 16) dX9_init_143 rfl (by decide) ?_
  refine a_newa (N := 16) dX9_init_145 rfl tw_49 (by decide) (by decide) (by decide) ⟨Nat.le_of_ble_eq_true rfl, Nat.le_of_ble_eq_true rfl⟩ hf (fun G70 b71 h72 k_b71 u73 hf => ?_)
  refine a_putR fp_RX9_62 (fun _ => rfl) (fun _ => rfl) (fun _ => rfl) dX9_init_147 rfl (u73 _ _ (u68 _ _ (u63 _ _ (u57 _ _ (u52 _ _ (u46 _ _ (u41 _ _ (u36 _ _ (u31 _ _ (u26 _ _ (u21 _ _ (u14 _ _ (u9 _ _ (u4 _ _ k_v0)))))))))))))) (by decide) k_b71 hf (fun h74 hf => ?_)
  refine a_aload_n dX9_init_150 rfl rfl ?_
  refine a_sipush (v := nI 8000) dX9_init_151 rfl (by decide) ?_
  refine a_newa (N := 8000) dX9_init_154 rfl tw_49 (by decide) (by decide) (by decide) ⟨Nat.le_of_ble_eq_true rfl, Nat.le_of_ble_eq_true rfl⟩ hf (fun G75 b76 h77 k_b76 u78 hf => ?_)
  refine a_putR fp_RX9_65 (fun _ => rfl) (fun _ => rfl) (fun _ => rfl) dX9_init_156 rfl (u78 _ _ (u73 _ _ (u68 _ _ (u63 _ _ (u57 _ _ (u52 _ _ (u46 _ _ (u41 _ _ (u36 _ _ (u31 _ _ (u26 _ _ (u21 _ _ (u14 _ _ (u9 _ _ (u4 _ _ k_v0))))))))))))))) (by decide) k_b76 hf (fun h79 hf => ?_)
  cases hf
  exact a_ret dX9_init_159 rfl rfl rfl
