/-! ===== the abstract machine: a heap of numbered cells, whose addresses begin at a base; one judgement AW a frame, AR a method ===== -/
abbrev AH : Type := (Nat → Nat → Int32) × (Nat → Nat → Option Nat)
abbrev Gm : Type := List (Nat × Nat)
/-- the kind of what a slot's reference leads to; 99: the slot holds a number. kinds: 0 to 9 the classes of vwCl, 10 rows of ints, 11 rows of Frames -/
def am_fk (c j : Nat) : Nat := if c = 11 then 1 else ((am_fkT.getD c []).getD j 99)
def am_nf (c : Nat) : Nat := (am_fkT.getD c []).length
def am_fld (base c a : Nat) (h : AH) (j : Nat) : Value := if am_fk c j = 99 then .int (h.1 a j) else va_rf ((h.2 a j).map (fun q => base + q))
def am_cell (cI cF : ClassId) (base : Nat) (kd : Nat × Nat) (a : Nat) (h : AH) : va_E :=
  if kd.1 = 10 then .inl (cI, kd.2, .inl (h.1 a))
  else if kd.1 = 11 then .inl (cF, kd.2, .inr (.inr (.inr (.inr (fun i => (h.2 a i).map (fun q => base + q))))))
  else .inr (kd.1, (List.range (am_nf kd.1)).map (am_fld base kd.1 a h))
def am_ws (cI cF : ClassId) (base : Nat) (Γ : Gm) (h : AH) : va_W := Γ.mapIdx (fun a kd => (base + a, am_cell cI cF base kd a h))
def am_v (base : Nat) (v : Value) : Value := match v with
  | .ref a => .ref (base + a)
  | v => v
def am_o (r : Option Nat) : Value := va_rf r
def am_len (Γ : Gm) (a : Nat) : Nat := (Γ.getD a (0, 0)).2
def am_setI (h : AH) (a j : Nat) (v : Int32) : AH := (fun b => if b = a then upd (h.1 b) j v else h.1 b, h.2)
def am_setR (h : AH) (a j : Nat) (r : Option Nat) : AH := (h.1, fun b => if b = a then va_up (h.2 b) j r else h.2 b)
def am_cpy (h : AH) (src dst sp dp n : Nat) : AH := (fun b => if b = dst then va_cpy (h.1 src) (h.1 dst) sp dp n else h.1 b, h.2)
def am_WT (Γ : Gm) (h : AH) : Prop := ∀ (a : Nat) (kd : Nat × Nat) (j b : Nat), Γ[a]? = some kd → h.2 a j = some b → am_fk kd.1 j ≠ 99 → ∃ n, Γ[b]? = some (am_fk kd.1 j, n)
theorem am_len_of {Γ : Gm} {a c n : Nat} (h : Γ[a]? = some (c, n)) : am_len Γ a = n := by simp [am_len, List.getD, h]
theorem am_at {cI cF : ClassId} {base : Nat} {Γ : Gm} {h : AH} {a : Nat} {kd : Nat × Nat} (hk : Γ[a]? = some kd) : (am_ws cI cF base Γ h)[a]? = some (base + a, am_cell cI cF base kd a h) := by simp [am_ws, List.getElem?_mapIdx, hk]
theorem am_at_inv {cI cF : ClassId} {base : Nat} {Γ : Gm} {h : AH} {a : Nat} {q : Nat × va_E} (hq : (am_ws cI cF base Γ h)[a]? = some q) : ∃ kd, Γ[a]? = some kd ∧ q = (base + a, am_cell cI cF base kd a h) := by
  simp only [am_ws, List.getElem?_mapIdx, Option.map_eq_some_iff] at hq
  obtain ⟨kd, h1, h2⟩ := hq
  exact ⟨kd, h1, h2.symm⟩
theorem am_D {cI cF : ClassId} {base : Nat} {Γ : Gm} {h : AH} : va_D (fun q => base ≤ q) (am_ws cI cF base Γ h) := by
  refine ⟨fun i j p q hp hq he => ?_, fun k q hq => ?_⟩
  · obtain ⟨_, _, rfl⟩ := am_at_inv hp
    obtain ⟨_, _, rfl⟩ := am_at_inv hq
    simp only at he
    omega
  · obtain ⟨_, _, rfl⟩ := am_at_inv hq
    simp
theorem am_cell_eq {cI cF : ClassId} {base : Nat} {kd : Nat × Nat} {a : Nat} {h h' : AH} (h1 : h'.1 a = h.1 a) (h2 : h'.2 a = h.2 a) : am_cell cI cF base kd a h' = am_cell cI cF base kd a h := by
  have e : am_fld base kd.1 a h' = am_fld base kd.1 a h := by funext j; simp [am_fld, h1, h2]
  simp only [am_cell, h1, h2, e]
theorem am_ws_set {cI cF : ClassId} {base : Nat} {Γ : Gm} {h h' : AH} {a : Nat} {kd : Nat × Nat} (hk : Γ[a]? = some kd) (h1 : ∀ b, b ≠ a → h'.1 b = h.1 b) (h2 : ∀ b, b ≠ a → h'.2 b = h.2 b) {e : va_E} (he : e = am_cell cI cF base kd a h') : (am_ws cI cF base Γ h).set a (base + a, e) = am_ws cI cF base Γ h' := by
  subst he
  apply List.ext_getElem?
  intro i
  by_cases hi : i = a
  · subst hi
    rw [am_at hk, List.getElem?_set_self]
    exact (List.getElem?_eq_some_iff.mp (am_at (cI := cI) (cF := cF) (base := base) (h := h) hk)).1
  · rw [List.getElem?_set_ne (fun q => hi q.symm)]
    simp only [am_ws, List.getElem?_mapIdx]
    cases Γ[i]? with
    | none => rfl
    | some kd' => simp [am_cell_eq (h1 i hi) (h2 i hi)]
theorem am_cell_I {cI cF : ClassId} {base n a : Nat} {h : AH} : am_cell cI cF base (10, n) a h = .inl (cI, n, .inl (h.1 a)) := rfl
theorem am_cell_F {cI cF : ClassId} {base n a : Nat} {h : AH} : am_cell cI cF base (11, n) a h = .inl (cF, n, .inr (.inr (.inr (.inr (fun i => (h.2 a i).map (fun q => base + q)))))) := rfl
theorem am_cell_O {cI cF : ClassId} {base ci n a : Nat} {h : AH} (hc : ci < 10) : am_cell cI cF base (ci, n) a h = .inr (ci, (List.range (am_nf ci)).map (am_fld base ci a h)) := by
  unfold am_cell
  rw [if_neg (by simp only; omega), if_neg (by simp only; omega)]
theorem am_fs_at {base ci a j : Nat} {h : AH} (hj : j < am_nf ci) : ((List.range (am_nf ci)).map (am_fld base ci a h))[j]? = some (am_fld base ci a h j) := by simp [hj]
theorem am_fs_set {base ci a j : Nat} {h h' : AH} {v : Value} (hv : am_fld base ci a h' j = v) (ho : ∀ i, i ≠ j → am_fld base ci a h' i = am_fld base ci a h i) : ((List.range (am_nf ci)).map (am_fld base ci a h)).set j v = (List.range (am_nf ci)).map (am_fld base ci a h') := by
  apply List.ext_getElem?
  intro i
  by_cases hi : i = j
  · subst hi
    by_cases hl : i < am_nf ci
    · rw [List.getElem?_set_self (by simpa using hl)]
      simp [hl, hv]
    · rw [List.getElem?_eq_none (by simpa using hl), List.getElem?_eq_none (by simpa using hl)]
  · rw [List.getElem?_set_ne (fun q => hi q.symm)]
    by_cases hl : i < am_nf ci
    · simp [hl, ho i hi]
    · rw [List.getElem?_eq_none (by simpa using hl), List.getElem?_eq_none (by simpa using hl)]
/-! locals -/
def am_L (base : Nat) (ls : Array Slot) (nL : Nat) (L : List (Option Value)) : Prop := ls.size = nL ∧ lv_wf ls ∧ ∀ (i : Nat) (v : Value), L[i]? = some (some v) → ls[i]? = some (.val (am_v base v))
def am_ll (base : Nat) (L : List (Option Value)) : List (Nat × Value) := (List.range L.length).filterMap (fun i => (L[i]?.join).map (fun v => (i, am_v base v)))
theorem am_ll_mem {base : Nat} {L : List (Option Value)} {i : Nat} {v : Value} (h : L[i]? = some (some v)) : (i, am_v base v) ∈ am_ll base L := by
  refine List.mem_filterMap.mpr ⟨i, List.mem_range.mpr (List.getElem?_eq_some_iff.mp h).1, ?_⟩
  simp [h]
theorem am_L.has {base nL : Nat} {ls : Array Slot} {L : List (Option Value)} (h : am_L base ls nL L) : lv_has ls nL (am_ll base L) := by
  refine ⟨h.1, h.2.1, fun q hq => ?_⟩
  obtain ⟨i, -, hi⟩ := List.mem_filterMap.mp hq
  cases hL : L[i]?.join with
  | none => rw [hL] at hi; cases hi
  | some v =>
    rw [hL] at hi
    have e : (i, am_v base v) = q := Option.some.inj hi
    subst e
    exact h.2.2 i v (Option.join_eq_some_iff.mp hL)
theorem am_v_cat (base : Nat) (v : Value) : (am_v base v).category = v.category := by cases v <;> rfl
/-- no long just ahead of place i -/
def am_nl (L : List (Option Value)) (i : Nat) : Prop := ∀ v : Value, 0 < i → L[i - 1]? = some (some v) → v.category = 1
theorem am_L.put1 {base nL i : Nat} {ls : Array Slot} {L : List (Option Value)} {v : Value} (hn : am_nl L i) (h : lv_has ls nL ((i, am_v base v) :: (am_ll base L).filter (fun q => !(q.1 == i) && !(q.1 + 1 == i && q.2.category == 2)))) : am_L base ls nL (L.set i (some v)) := by
  refine ⟨h.1, h.2.1, fun j w hj => ?_⟩
  by_cases e : j = i
  · subst e
    rw [List.getElem?_set_self (by have := (List.getElem?_eq_some_iff.mp hj).1; simpa using this)] at hj
    cases hj
    exact h.2.2 _ List.mem_cons_self
  · rw [List.getElem?_set_ne (fun q => e q.symm)] at hj
    refine h.2.2 (j, am_v base w) (List.mem_cons_of_mem _ (List.mem_filter.mpr ⟨am_ll_mem hj, ?_⟩))
    by_cases e2 : j + 1 = i
    · have := hn w (by omega) (by rw [show i - 1 = j by omega]; exact hj)
      simp [e, am_v_cat, this]
    · simp [e, e2]
theorem am_L.put2 {base nL i : Nat} {ls : Array Slot} {L : List (Option Value)} {v : Value} (hn : am_nl L i) (h : lv_has ls nL ((i, am_v base v) :: (am_ll base L).filter (fun q => !(q.1 == i) && (!(q.1 == i + 1) && !(q.1 + 1 == i && q.2.category == 2))))) : am_L base ls nL ((L.set i (some v)).set (i + 1) none) := by
  refine ⟨h.1, h.2.1, fun j w hj => ?_⟩
  by_cases e1 : j = i + 1
  · subst e1
    rw [List.getElem?_set_self (by have := (List.getElem?_eq_some_iff.mp hj).1; simpa using this)] at hj
    cases hj
  · rw [List.getElem?_set_ne (fun q => e1 q.symm)] at hj
    by_cases e : j = i
    · subst e
      rw [List.getElem?_set_self (by have := (List.getElem?_eq_some_iff.mp hj).1; simpa using this)] at hj
      cases hj
      exact h.2.2 _ List.mem_cons_self
    · rw [List.getElem?_set_ne (fun q => e q.symm)] at hj
      refine h.2.2 (j, am_v base w) (List.mem_cons_of_mem _ (List.mem_filter.mpr ⟨am_ll_mem hj, ?_⟩))
      by_cases e2 : j + 1 = i
      · have := hn w (by omega) (by rw [show i - 1 = j by omega]; exact hj)
        simp [e, e1, am_v_cat, this]
      · simp [e, e1, e2]
def am_le : List (Option Value) → List (Option Value) → Prop
  | [], _ => True
  | none :: a, _ :: b => am_le a b
  | some v :: a, w :: b => w = some v ∧ am_le a b
  | _ :: _, [] => False
theorem am_le_at : ∀ {A B : List (Option Value)}, am_le A B → ∀ (i : Nat) (v : Value), A[i]? = some (some v) → B[i]? = some (some v)
  | [], _, _, i, v, h => by simp at h
  | none :: a, w :: b, hl, 0, v, h => by simp at h
  | none :: a, w :: b, hl, i + 1, v, h => by
    rw [List.getElem?_cons_succ] at h ⊢
    exact am_le_at (A := a) (B := b) hl i v h
  | some u :: a, w :: b, hl, 0, v, h => by
    simp only [List.getElem?_cons_zero] at h ⊢
    rw [hl.1]; exact h
  | some u :: a, w :: b, hl, i + 1, v, h => by
    rw [List.getElem?_cons_succ] at h ⊢
    exact am_le_at (A := a) (B := b) hl.2 i v h
  | none :: a, [], hl, i, v, h => hl.elim
  | some u :: a, [], hl, i, v, h => hl.elim
theorem am_L.weak {base nL : Nat} {ls : Array Slot} {A B : List (Option Value)} (h : am_L base ls nL B) (hl : am_le A B) : am_L base ls nL A := ⟨h.1, h.2.1, fun i v hi => h.2.2 i v (am_le_at hl i v hi)⟩
/-! the judgements -/
/-- code, places, answer's type, own class, is a constructor, room, cells and slots made, kind of an answer that is a reference -/
abbrev AMt : Type := ByteArray × Nat × Option FieldType × String × Bool × Room × Nat × Nat × Nat
abbrev ARs : Type := Option Value × Gm × AH
def am_rm (d mc ms : Nat) : Room := { frames := d, cells := mc, slots := ms, locals := 32 * d }
def am_N (s : State) : Prop := (∀ w ∈ am_nw, va_Nw w s) ∧ va_AO "ZSaves$Frame" s
def am_tys (cI cF : ClassId) : List (ClassId × FieldType) := [(cI, .int), (cF, .object "ZSaves$Frame")]
def am_Cx (M : AMt) (p : Program) (s : State) (m : MethodId) (args : Array Value) (meth : Method) (c : Code) (base : Nat) (D : va_G) (cI cF : ClassId) : Prop :=
  p.tables.exec = Jvm.exec ∧ c.code = M.1 ∧ meth.sig.returnType = M.2.2.1 ∧ c.maxLocals = M.2.1 ∧ s.vm.findClass M.2.2.2.1 = some m.cls ∧ (∀ w ∈ am_T, w.before args s = true) ∧ meth.locks = false ∧ (M.2.2.2.2.1 = true → meth.name = "<init>") ∧ va_K D vwCl (am_tys cI cF) s ∧ am_N s ∧ base ≤ s.heap.size
def am_Wd (D : va_G) (cI cF : ClassId) (base : Nat) (Γ : Gm) (h : AH) (H : Heap) : Prop := am_WT Γ h ∧ va_P D vwCl (am_ws cI cF base Γ h) H
/-- what has changed since the method's beginning; the cells that it made are the last ones -/
def am_S (base : Nat) (s : State) (k : Nat) (Γ : Gm) (H : Heap) (locs : List Loc) : Prop := va_S (fun q => base ≤ q) s.heap H locs ∧ s.heap.size + k = base + Γ.length
/-- an answer that is a reference leads to a cell of the kind rk (99: it says nothing; 98: a number that is 0 or 1) -/
def am_rk (rk : Nat) (res : ARs) : Prop := (∀ b : Nat, res.1 = some (.ref b) → rk < 98 → ∃ n, res.2.1[b]? = some (rk, n)) ∧ (rk = 98 → ∀ x : Int32, res.1 = some (.int x) → x = 0 ∨ x = 1)
def am_Q (D : va_G) (cI cF : ClassId) (base rk : Nat) (res : ARs) : Array Value → State → Outcome → State → Prop := fun _ st oc t =>
  oc = .returned (res.1.map (am_v base)) ∧ am_rk rk res ∧ am_Wd D cI cF base res.2.1 res.2.2 t.heap ∧ va_F (fun q => base ≤ q) st t
def AW (l : Launch) (M : AMt) (res : ARs) (k n pc : Nat) (L : List (Option Value)) (st : List Value) (Γ : Gm) (h : AH) : Prop :=
  ∀ (p : Program) (e : Env) (s : State) (m : MethodId) (args : Array Value) (below : List Frame) (meth : Method) (c : Code) (base : Nat) (D : va_G) (cI cF : ClassId) (H : Heap) (locs : List Loc) (ls : Array Slot),
    am_Cx M p s m args meth c base D cI cF → am_Wd D cI cF base Γ h H → am_S base s k Γ H locs → am_L base ls M.2.1 L →
    W p l e M.2.2.2.2.2.1 s m args below meth c H locs k n (MQ below (am_Q D cI cF base M.2.2.2.2.2.2.2.2 res) args s M.2.2.2.2.2.2.1 M.2.2.2.2.2.2.2.1 (fun q => base ≤ q)) (F0 m pc ls (st.map (am_v base)))
def AR (l : Launch) (y : MethodName) (M : AMt) (args : List Value) (Γ : Gm) (h : AH) (res : ARs) : Prop :=
  ∀ (base : Nat) (D : va_G) (cI cF : ClassId), Met l y (.code y M.1 M.2.1 M.2.2.1 :: am_T) M.2.2.2.2.2.1 (va_Pc (args.map (am_v base)) (fun U => va_K D vwCl (am_tys cI cF) U ∧ am_N U ∧ U.heap.size = base + Γ.length ∧ am_Wd D cI cF base Γ h U.heap)) (am_Q D cI cF base M.2.2.2.2.2.2.2.2 res) M.2.2.2.2.2.2.1 M.2.2.2.2.2.2.2.1 (fun q => base ≤ q)
theorem am_N.warm {s U : State} (hW : s.WarmedH U.vm) (h : am_N s) : am_N U := by
  refine ⟨fun w hw => ?_, h.2.moved hW.alike⟩
  have h1 := h.1 w hw
  have h2 : am_isN w = true := List.all_eq_true.mp am_nw_all w hw
  cases w <;> first | exact va_Nw.warmF hW h1 | exact va_Nw.warmM hW h1 | (exact absurd h2 (by simp [am_isN]))
/-- the locals at a method's beginning -/
def am_ent : List Value → List (Option Value)
  | [] => []
  | v :: vs => if v.category = 2 then some v :: none :: am_ent vs else some v :: am_ent vs
theorem am_ent_at (base : Nat) : ∀ (vs : List Value) (o i : Nat) (v : Value), (am_ent vs)[i]? = some (some v) → (o + i, am_v base v) ∈ lv_args o (vs.map (am_v base))
  | [], o, i, v, h => by simp [am_ent] at h
  | w :: vs, o, i, v, h => by
    unfold am_ent at h
    simp only [List.map_cons, lv_args, am_v_cat]
    by_cases hc : w.category = 2
    · rw [if_pos hc] at h
      rw [if_pos hc]
      match i, h with
      | 0, h => simp at h; subst h; exact List.mem_cons_self
      | 1, h => simp at h
      | i + 2, h =>
        have := am_ent_at base vs (o + 2) i v (by simpa using h)
        refine List.mem_cons_of_mem _ ?_
        rw [show o + (i + 2) = o + 2 + i by omega]
        exact this
    · rw [if_neg hc] at h
      rw [if_neg hc]
      match i, h with
      | 0, h => simp at h; subst h; exact List.mem_cons_self
      | i + 1, h =>
        have := am_ent_at base vs (o + 1) i v (by simpa using h)
        refine List.mem_cons_of_mem _ ?_
        rw [show o + (i + 1) = o + 1 + i by omega]
        exact this
theorem am_sl_len (base : Nat) : ∀ (vs : List Value), (lg_sl (vs.map (am_v base))).length = (am_ent vs).length
  | [] => rfl
  | v :: vs => by
    have := am_sl_len base vs
    simp only [lg_sl, List.map_cons, List.flatMap_cons, List.length_append, am_ent, am_v_cat] at this ⊢
    by_cases hc : v.category = 2
    · simp [hc, this]; omega
    · simp [hc, this]; omega
set_option maxHeartbeats 4000000 in
theorem AR.of {l : Launch} {y : MethodName} {M : AMt} {args : List Value} {Γ : Gm} {h : AH} {res : ARs} (L : List (Option Value)) (hy : plainName y.cls = true) (hcls : y.cls = M.2.2.2.1) (hini : M.2.2.2.2.1 = true → y.name = "<init>") (hl : (am_ent args).length ≤ M.2.1) (hL : am_le L (am_ent args ++ List.replicate M.2.1 none))
    (body : AW l M res 0 0 0 L [] Γ h) : AR l y M args Γ h res := by
  intro base D cI cF
  refine Met.ofW (cc := M.1) (maxL := M.2.1) (ret := M.2.2.1) hy rfl ?_
  intro p e s m as below meth c s₁ B hml hv
  obtain ⟨rfl, hK, hN, hb, hWd⟩ := hv
  have hts : ∀ w ∈ (Cond.code y M.1 M.2.1 M.2.2.1 :: am_T), w.before _ s = true := atoms_spec B.pre
  have hown : s.vm.findClass M.2.2.2.1 = some m.cls := by rw [← hcls]; exact findClass_of_methodNamed B.named
  have hent := lv_entry (args.map (am_v base)) (n := M.2.1) (by rw [am_sl_len]; exact hl)
  rw [lg_entry_eq]
  exact body p e s m _ below meth c base D cI cF s.heap [] _ ⟨B.exec, B.bytes, B.returns, hml, hown, fun w hw => hts w (List.mem_cons_of_mem _ hw), B.notSynchronized, fun hi => by rw [(name_of_methodNamed B.named B.method).1]; exact hini hi, hK, hN, by rw [hb]; exact Nat.le_add_right _ _⟩ hWd ⟨va_S.rf, hb⟩ ⟨hent.1, hent.2.1, fun i v hi => by
    have hi := am_le_at hL i v hi
    by_cases hlt : i < (am_ent args).length
    · rw [List.getElem?_append_left hlt] at hi
      have := hent.2.2 _ (am_ent_at base args 0 i v hi)
      simpa using this
    · rw [List.getElem?_append_right (by omega), List.getElem?_replicate] at hi
      split at hi <;> cases hi⟩
theorem AW.weak {l : Launch} {M : AMt} {res : ARs} {k n pc : Nat} {A B : List (Option Value)} {st : List Value} {Γ : Gm} {h : AH} (kk : AW l M res k n pc A st Γ h) (hl : am_le A B) : AW l M res k n pc B st Γ h :=
  fun p e s m args below meth c base D cI cF H locs ls C hW hS hL => kk p e s m args below meth c base D cI cF H locs ls C hW hS (hL.weak hl)
