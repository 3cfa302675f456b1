section AMR
variable {l : Launch} {M : AMt} {res : ARs} {k n pc q : Nat} {L : List (Option Value)} {st : List Value} {Γ : Gm} {h : AH}
theorem a_iconst {i : Int} {v : Int32} (hd : decode M.1 pc = .ok (.iconst i, 1)) (hq : pc + 1 = q) (hv : Int32.ofInt i = v) (kk : AW l M res k n q L (.int v :: st) Γ h) : AW l M res k n pc L (st) Γ h := by
  subst hq
  exact fun p e s m args below meth c base D cI cF H locs ls C hW hS hL => lv_iconst C.1 C.2.1 hd hv (kk p e s m args below meth c base D cI cF H locs ls C hW hS hL)
theorem a_bipush {i : Int} {v : Int32} (hd : decode M.1 pc = .ok (.bipush i, 2)) (hq : pc + 2 = q) (hv : (Int8.ofInt i).toInt32 = v) (kk : AW l M res k n q L (.int v :: st) Γ h) : AW l M res k n pc L (st) Γ h := by
  subst hq
  exact fun p e s m args below meth c base D cI cF H locs ls C hW hS hL => lv_bipush C.1 C.2.1 hd hv (kk p e s m args below meth c base D cI cF H locs ls C hW hS hL)
theorem a_sipush {i : Int} {v : Int32} (hd : decode M.1 pc = .ok (.sipush i, 3)) (hq : pc + 3 = q) (hv : (Int16.ofInt i).toInt32 = v) (kk : AW l M res k n q L (.int v :: st) Γ h) : AW l M res k n pc L (st) Γ h := by
  subst hq
  exact fun p e s m args below meth c base D cI cF H locs ls C hW hS hL => lv_sipush C.1 C.2.1 hd hv (kk p e s m args below meth c base D cI cF H locs ls C hW hS hL)
theorem a_lconst {i : Fin 2} {v : Int64} (hd : decode M.1 pc = .ok (.lconst i, 1)) (hq : pc + 1 = q) (hv : Int64.ofNat (i : Nat) = v) (kk : AW l M res k n q L (.long v :: st) Γ h) : AW l M res k n pc L (st) Γ h := by
  subst hq
  exact fun p e s m args below meth c base D cI cF H locs ls C hW hS hL => lv_lconst C.1 C.2.1 hd hv (kk p e s m args below meth c base D cI cF H locs ls C hW hS hL)
theorem a_null  (hd : decode M.1 pc = .ok (.aconst_null, 1)) (hq : pc + 1 = q)  (kk : AW l M res k n q L (.null :: st) Γ h) : AW l M res k n pc L (st) Γ h := by
  subst hq
  exact fun p e s m args below meth c base D cI cF H locs ls C hW hS hL => lv_null C.1 C.2.1 hd (kk p e s m args below meth c base D cI cF H locs ls C hW hS hL)
theorem a_ldc {i : Nat} {v : Int32} (hd : decode M.1 pc = .ok (.ldc i, 2)) (hq : pc + 2 = q) (hw : Cond.constant M.2.2.2.1 i v ∈ am_T) (kk : AW l M res k n q L (.int v :: st) Γ h) : AW l M res k n pc L (st) Γ h := by
  subst hq
  exact fun p e s m args below meth c base D cI cF H locs ls C hW hS hL => lv_ldc C.1 C.2.1 C.2.2.2.2.1 (C.2.2.2.2.2.1 _ hw) hd (kk p e s m args below meth c base D cI cF H locs ls C hW hS hL)
theorem a_ldcw {i : Nat} {v : Int32} (hd : decode M.1 pc = .ok (.ldc_w i, 3)) (hq : pc + 3 = q) (hw : Cond.constant M.2.2.2.1 i v ∈ am_T) (kk : AW l M res k n q L (.int v :: st) Γ h) : AW l M res k n pc L (st) Γ h := by
  subst hq
  exact fun p e s m args below meth c base D cI cF H locs ls C hW hS hL => lv_ldcw C.1 C.2.1 C.2.2.2.2.1 (C.2.2.2.2.2.1 _ hw) hd (kk p e s m args below meth c base D cI cF H locs ls C hW hS hL)
theorem a_ldc2 {i : Nat} {v : Int64} (hd : decode M.1 pc = .ok (.ldc2_w i, 3)) (hq : pc + 3 = q) (hw : Cond.constantLong M.2.2.2.1 i v ∈ am_T) (kk : AW l M res k n q L (.long v :: st) Γ h) : AW l M res k n pc L (st) Γ h := by
  subst hq
  exact fun p e s m args below meth c base D cI cF H locs ls C hW hS hL => lv_ldc2 C.1 C.2.1 C.2.2.2.2.1 (C.2.2.2.2.2.1 _ hw) hd (kk p e s m args below meth c base D cI cF H locs ls C hW hS hL)
theorem a_iload_n {i : Fin 4} {x : Int32} (hd : decode M.1 pc = .ok (.iload_n i, 1)) (hq : pc + 1 = q) (hl : L[(i : Nat)]? = some (some (.int x))) (kk : AW l M res k n q L (.int x :: st) Γ h) : AW l M res k n pc L (st) Γ h := by
  subst hq
  exact fun p e s m args below meth c base D cI cF H locs ls C hW hS hL => lv_iload_n C.1 C.2.1 hd rfl (hL.2.2 _ _ hl) (kk p e s m args below meth c base D cI cF H locs ls C hW hS hL)
theorem a_iload {i : Nat} {x : Int32} (hd : decode M.1 pc = .ok (.iload i, 2)) (hq : pc + 2 = q) (hl : L[i]? = some (some (.int x))) (kk : AW l M res k n q L (.int x :: st) Γ h) : AW l M res k n pc L (st) Γ h := by
  subst hq
  exact fun p e s m args below meth c base D cI cF H locs ls C hW hS hL => lv_iload C.1 C.2.1 hd (hL.2.2 _ _ hl) (kk p e s m args below meth c base D cI cF H locs ls C hW hS hL)
theorem a_lload_n {i : Fin 4} {x : Int64} (hd : decode M.1 pc = .ok (.lload_n i, 1)) (hq : pc + 1 = q) (hl : L[(i : Nat)]? = some (some (.long x))) (kk : AW l M res k n q L (.long x :: st) Γ h) : AW l M res k n pc L (st) Γ h := by
  subst hq
  exact fun p e s m args below meth c base D cI cF H locs ls C hW hS hL => lv_lload_n C.1 C.2.1 hd rfl (hL.2.2 _ _ hl) (kk p e s m args below meth c base D cI cF H locs ls C hW hS hL)
theorem a_lload {i : Nat} {x : Int64} (hd : decode M.1 pc = .ok (.lload i, 2)) (hq : pc + 2 = q) (hl : L[i]? = some (some (.long x))) (kk : AW l M res k n q L (.long x :: st) Γ h) : AW l M res k n pc L (st) Γ h := by
  subst hq
  exact fun p e s m args below meth c base D cI cF H locs ls C hW hS hL => lv_lload C.1 C.2.1 hd (hL.2.2 _ _ hl) (kk p e s m args below meth c base D cI cF H locs ls C hW hS hL)
theorem a_aload_n {i : Fin 4} {x : Nat} (hd : decode M.1 pc = .ok (.aload_n i, 1)) (hq : pc + 1 = q) (hl : L[(i : Nat)]? = some (some (.ref x))) (kk : AW l M res k n q L (.ref x :: st) Γ h) : AW l M res k n pc L (st) Γ h := by
  subst hq
  exact fun p e s m args below meth c base D cI cF H locs ls C hW hS hL => lv_aload_n C.1 C.2.1 hd rfl (hL.2.2 _ _ hl) (kk p e s m args below meth c base D cI cF H locs ls C hW hS hL)
theorem a_aload {i : Nat} {x : Nat} (hd : decode M.1 pc = .ok (.aload i, 2)) (hq : pc + 2 = q) (hl : L[i]? = some (some (.ref x))) (kk : AW l M res k n q L (.ref x :: st) Γ h) : AW l M res k n pc L (st) Γ h := by
  subst hq
  exact fun p e s m args below meth c base D cI cF H locs ls C hW hS hL => lv_aload C.1 C.2.1 hd (hL.2.2 _ _ hl) (kk p e s m args below meth c base D cI cF H locs ls C hW hS hL)
theorem a_aload_nN {i : Fin 4} (hd : decode M.1 pc = .ok (.aload_n i, 1)) (hq : pc + 1 = q) (hl : L[(i : Nat)]? = some (some .null)) (kk : AW l M res k n q L (.null :: st) Γ h) : AW l M res k n pc L (st) Γ h := by
  subst hq
  exact fun p e s m args below meth c base D cI cF H locs ls C hW hS hL => lv_aload_nN C.1 C.2.1 hd rfl (hL.2.2 _ _ hl) (kk p e s m args below meth c base D cI cF H locs ls C hW hS hL)
theorem a_aloadN {i : Nat} (hd : decode M.1 pc = .ok (.aload i, 2)) (hq : pc + 2 = q) (hl : L[i]? = some (some .null)) (kk : AW l M res k n q L (.null :: st) Γ h) : AW l M res k n pc L (st) Γ h := by
  subst hq
  exact fun p e s m args below meth c base D cI cF H locs ls C hW hS hL => lv_aloadN C.1 C.2.1 hd (hL.2.2 _ _ hl) (kk p e s m args below meth c base D cI cF H locs ls C hW hS hL)
theorem a_istore_n {i : Fin 4} {x : Int32} {L' : List (Option Value)} (hd : decode M.1 pc = .ok (.istore_n i, 1)) (hq : pc + 1 = q) (hi : (i : Nat) < M.2.1) (hn : am_nl L (i : Nat)) (hl : L.set (i : Nat) (some (Value.int x)) = L') (kk : AW l M res k n q L' st Γ h) : AW l M res k n pc L (.int x :: st) Γ h := by
  subst hq
  subst hl
  exact fun p e s m args below meth c base D cI cF H locs ls C hW hS hL => lv_istore_n C.1 C.2.1 hd rfl hL.has hi rfl (fun ls' hl' => kk p e s m args below meth c base D cI cF H locs ls' C hW hS (am_L.put1 hn hl'))
theorem a_istore {i : Nat} {x : Int32} {L' : List (Option Value)} (hd : decode M.1 pc = .ok (.istore i, 2)) (hq : pc + 2 = q) (hi : i < M.2.1) (hn : am_nl L i) (hl : L.set i (some (Value.int x)) = L') (kk : AW l M res k n q L' st Γ h) : AW l M res k n pc L (.int x :: st) Γ h := by
  subst hq
  subst hl
  exact fun p e s m args below meth c base D cI cF H locs ls C hW hS hL => lv_istore C.1 C.2.1 hd  hL.has hi rfl (fun ls' hl' => kk p e s m args below meth c base D cI cF H locs ls' C hW hS (am_L.put1 hn hl'))
theorem a_astore_n {i : Fin 4} {x : Nat} {L' : List (Option Value)} (hd : decode M.1 pc = .ok (.astore_n i, 1)) (hq : pc + 1 = q) (hi : (i : Nat) < M.2.1) (hn : am_nl L (i : Nat)) (hl : L.set (i : Nat) (some (Value.ref x)) = L') (kk : AW l M res k n q L' st Γ h) : AW l M res k n pc L (.ref x :: st) Γ h := by
  subst hq
  subst hl
  exact fun p e s m args below meth c base D cI cF H locs ls C hW hS hL => lv_astore_n C.1 C.2.1 hd rfl hL.has hi rfl (fun ls' hl' => kk p e s m args below meth c base D cI cF H locs ls' C hW hS (am_L.put1 hn hl'))
theorem a_astore {i : Nat} {x : Nat} {L' : List (Option Value)} (hd : decode M.1 pc = .ok (.astore i, 2)) (hq : pc + 2 = q) (hi : i < M.2.1) (hn : am_nl L i) (hl : L.set i (some (Value.ref x)) = L') (kk : AW l M res k n q L' st Γ h) : AW l M res k n pc L (.ref x :: st) Γ h := by
  subst hq
  subst hl
  exact fun p e s m args below meth c base D cI cF H locs ls C hW hS hL => lv_astore C.1 C.2.1 hd  hL.has hi rfl (fun ls' hl' => kk p e s m args below meth c base D cI cF H locs ls' C hW hS (am_L.put1 hn hl'))
theorem a_astore_nN {i : Fin 4} {L' : List (Option Value)} (hd : decode M.1 pc = .ok (.astore_n i, 1)) (hq : pc + 1 = q) (hi : (i : Nat) < M.2.1) (hn : am_nl L (i : Nat)) (hl : L.set (i : Nat) (some Value.null) = L') (kk : AW l M res k n q L' st Γ h) : AW l M res k n pc L (.null :: st) Γ h := by
  subst hq
  subst hl
  exact fun p e s m args below meth c base D cI cF H locs ls C hW hS hL => lv_astore_nN C.1 C.2.1 hd rfl hL.has hi rfl (fun ls' hl' => kk p e s m args below meth c base D cI cF H locs ls' C hW hS (am_L.put1 hn hl'))
theorem a_astoreN {i : Nat} {L' : List (Option Value)} (hd : decode M.1 pc = .ok (.astore i, 2)) (hq : pc + 2 = q) (hi : i < M.2.1) (hn : am_nl L i) (hl : L.set i (some Value.null) = L') (kk : AW l M res k n q L' st Γ h) : AW l M res k n pc L (.null :: st) Γ h := by
  subst hq
  subst hl
  exact fun p e s m args below meth c base D cI cF H locs ls C hW hS hL => lv_astoreN C.1 C.2.1 hd  hL.has hi rfl (fun ls' hl' => kk p e s m args below meth c base D cI cF H locs ls' C hW hS (am_L.put1 hn hl'))
theorem a_lstore_n {i : Fin 4} {x : Int64} {L' : List (Option Value)} (hd : decode M.1 pc = .ok (.lstore_n i, 1)) (hq : pc + 1 = q) (hi : (i : Nat) + 1 < M.2.1) (hn : am_nl L (i : Nat)) (hl : (L.set (i : Nat) (some (Value.long x))).set ((i : Nat) + 1) none = L') (kk : AW l M res k n q L' st Γ h) : AW l M res k n pc L (.long x :: st) Γ h := by
  subst hq
  subst hl
  exact fun p e s m args below meth c base D cI cF H locs ls C hW hS hL => lv_lstore_n C.1 C.2.1 hd rfl hL.has hi rfl (fun ls' hl' => kk p e s m args below meth c base D cI cF H locs ls' C hW hS (am_L.put2 hn hl'))
theorem a_lstore {i : Nat} {x : Int64} {L' : List (Option Value)} (hd : decode M.1 pc = .ok (.lstore i, 2)) (hq : pc + 2 = q) (hi : i + 1 < M.2.1) (hn : am_nl L i) (hl : (L.set i (some (Value.long x))).set (i + 1) none = L') (kk : AW l M res k n q L' st Γ h) : AW l M res k n pc L (.long x :: st) Γ h := by
  subst hq
  subst hl
  exact fun p e s m args below meth c base D cI cF H locs ls C hW hS hL => lv_lstore C.1 C.2.1 hd  hL.has hi rfl (fun ls' hl' => kk p e s m args below meth c base D cI cF H locs ls' C hW hS (am_L.put2 hn hl'))
theorem a_iinc {i : Nat} {d : Int} {x v : Int32} {L' : List (Option Value)} (hd : decode M.1 pc = .ok (.iinc i d, 3)) (hq : pc + 3 = q) (hx : L[i]? = some (some (.int x))) (hv : x + Int32.ofInt d = v) (hi : i < M.2.1) (hn : am_nl L i) (hl : L.set i (some (Value.int v)) = L') (kk : AW l M res k n q L' st Γ h) : AW l M res k n pc L st Γ h := by
  subst hq
  subst hl
  intro p e s m args below meth c base D cI cF H locs ls C hW hS hL
  obtain ⟨z, hz⟩ := List.getElem?_of_mem (am_ll_mem (base := base) hx)
  exact lv_iinc C.1 C.2.1 hd hL.has hz hv hi rfl (fun ls' hl' => kk p e s m args below meth c base D cI cF H locs ls' C hW hS (am_L.put1 hn hl'))
theorem a_iincW {i : Nat} {d : Int} {x v : Int32} {L' : List (Option Value)} (hd : decode M.1 pc = .ok (.iinc i d, 6)) (hq : pc + 6 = q) (hx : L[i]? = some (some (.int x))) (hv : x + Int32.ofInt d = v) (hi : i < M.2.1) (hn : am_nl L i) (hl : L.set i (some (Value.int v)) = L') (kk : AW l M res k n q L' st Γ h) : AW l M res k n pc L st Γ h := by
  subst hq
  subst hl
  intro p e s m args below meth c base D cI cF H locs ls C hW hS hL
  obtain ⟨z, hz⟩ := List.getElem?_of_mem (am_ll_mem (base := base) hx)
  exact lv_iincW C.1 C.2.1 hd hL.has hz hv hi rfl (fun ls' hl' => kk p e s m args below meth c base D cI cF H locs ls' C hW hS (am_L.put1 hn hl'))
theorem a_dup {v : Value} (hd : decode M.1 pc = .ok (.dup, 1)) (hq : pc + 1 = q) (hc : v.category = 1) (kk : AW l M res k n q L (v :: v :: st) Γ h) : AW l M res k n pc L (v :: st) Γ h := by
  subst hq
  exact fun p e s m args below meth c base D cI cF H locs ls C hW hS hL => lv_dup C.1 C.2.1 hd ((am_v_cat base v).trans hc) (kk p e s m args below meth c base D cI cF H locs ls C hW hS hL)
theorem a_pop {v : Value} (hd : decode M.1 pc = .ok (.pop, 1)) (hq : pc + 1 = q) (hc : v.category = 1) (kk : AW l M res k n q L (st) Γ h) : AW l M res k n pc L (v :: st) Γ h := by
  subst hq
  exact fun p e s m args below meth c base D cI cF H locs ls C hW hS hL => lv_pop C.1 C.2.1 hd ((am_v_cat base v).trans hc) (kk p e s m args below meth c base D cI cF H locs ls C hW hS hL)
theorem a_dup2 {v w : Value} (hd : decode M.1 pc = .ok (.dup2, 1)) (hq : pc + 1 = q) (hc : v.category = 1) (hc2 : w.category = 1) (kk : AW l M res k n q L (v :: w :: v :: w :: st) Γ h) : AW l M res k n pc L (v :: w :: st) Γ h := by
  subst hq
  exact fun p e s m args below meth c base D cI cF H locs ls C hW hS hL => lv_dup2_11 C.1 C.2.1 hd ((am_v_cat base v).trans hc) ((am_v_cat base w).trans hc2) (kk p e s m args below meth c base D cI cF H locs ls C hW hS hL)
def am_ushr (x y : Int32) : Int32 := (x.toUInt32 >>> (y.toUInt32 &&& Int32.toUInt32 31)).toInt32
def am_shl (x y : Int32) : Int32 := x <<< (y &&& 31)
def am_shr (x y : Int32) : Int32 := x >>> (y &&& 31)
def am_irem (x y : Int32) : Int32 := x - x / y * y
def am_lrem (x y : Int64) : Int64 := x - x / y * y
def am_lshl (x : Int64) (y : Int32) : Int64 := x <<< (y.toInt64 &&& 63)
theorem a_iadd {x y : Int32} (hd : decode M.1 pc = .ok (.iadd, 1)) (hq : pc + 1 = q)  (kk : AW l M res k n q L (.int (x + y) :: st) Γ h) : AW l M res k n pc L (.int y :: .int x :: st) Γ h := by
  subst hq
  exact fun p e s m args below meth c base D cI cF H locs ls C hW hS hL => lv_iadd C.1 C.2.1 hd (kk p e s m args below meth c base D cI cF H locs ls C hW hS hL)
theorem a_isub {x y : Int32} (hd : decode M.1 pc = .ok (.isub, 1)) (hq : pc + 1 = q)  (kk : AW l M res k n q L (.int (x - y) :: st) Γ h) : AW l M res k n pc L (.int y :: .int x :: st) Γ h := by
  subst hq
  exact fun p e s m args below meth c base D cI cF H locs ls C hW hS hL => lv_isub C.1 C.2.1 hd (kk p e s m args below meth c base D cI cF H locs ls C hW hS hL)
theorem a_imul {x y : Int32} (hd : decode M.1 pc = .ok (.imul, 1)) (hq : pc + 1 = q)  (kk : AW l M res k n q L (.int (x * y) :: st) Γ h) : AW l M res k n pc L (.int y :: .int x :: st) Γ h := by
  subst hq
  exact fun p e s m args below meth c base D cI cF H locs ls C hW hS hL => lv_imul C.1 C.2.1 hd (kk p e s m args below meth c base D cI cF H locs ls C hW hS hL)
theorem a_iand {x y : Int32} (hd : decode M.1 pc = .ok (.iand, 1)) (hq : pc + 1 = q)  (kk : AW l M res k n q L (.int (x &&& y) :: st) Γ h) : AW l M res k n pc L (.int y :: .int x :: st) Γ h := by
  subst hq
  exact fun p e s m args below meth c base D cI cF H locs ls C hW hS hL => lv_iand C.1 C.2.1 hd (kk p e s m args below meth c base D cI cF H locs ls C hW hS hL)
theorem a_ior {x y : Int32} (hd : decode M.1 pc = .ok (.ior, 1)) (hq : pc + 1 = q)  (kk : AW l M res k n q L (.int (x ||| y) :: st) Γ h) : AW l M res k n pc L (.int y :: .int x :: st) Γ h := by
  subst hq
  exact fun p e s m args below meth c base D cI cF H locs ls C hW hS hL => lv_ior C.1 C.2.1 hd (kk p e s m args below meth c base D cI cF H locs ls C hW hS hL)
theorem a_ixor {x y : Int32} (hd : decode M.1 pc = .ok (.ixor, 1)) (hq : pc + 1 = q)  (kk : AW l M res k n q L (.int (x ^^^ y) :: st) Γ h) : AW l M res k n pc L (.int y :: .int x :: st) Γ h := by
  subst hq
  exact fun p e s m args below meth c base D cI cF H locs ls C hW hS hL => lv_ixor C.1 C.2.1 hd (kk p e s m args below meth c base D cI cF H locs ls C hW hS hL)
theorem a_ishl {x y : Int32} (hd : decode M.1 pc = .ok (.ishl, 1)) (hq : pc + 1 = q)  (kk : AW l M res k n q L (.int (am_shl x y) :: st) Γ h) : AW l M res k n pc L (.int y :: .int x :: st) Γ h := by
  subst hq
  exact fun p e s m args below meth c base D cI cF H locs ls C hW hS hL => lv_ishl C.1 C.2.1 hd (kk p e s m args below meth c base D cI cF H locs ls C hW hS hL)
theorem a_ishr {x y : Int32} (hd : decode M.1 pc = .ok (.ishr, 1)) (hq : pc + 1 = q)  (kk : AW l M res k n q L (.int (am_shr x y) :: st) Γ h) : AW l M res k n pc L (.int y :: .int x :: st) Γ h := by
  subst hq
  exact fun p e s m args below meth c base D cI cF H locs ls C hW hS hL => lv_ishr C.1 C.2.1 hd (kk p e s m args below meth c base D cI cF H locs ls C hW hS hL)
theorem a_iushr {x y : Int32} (hd : decode M.1 pc = .ok (.iushr, 1)) (hq : pc + 1 = q)  (kk : AW l M res k n q L (.int (am_ushr x y) :: st) Γ h) : AW l M res k n pc L (.int y :: .int x :: st) Γ h := by
  subst hq
  exact fun p e s m args below meth c base D cI cF H locs ls C hW hS hL => lv_iushr C.1 C.2.1 hd rfl (kk p e s m args below meth c base D cI cF H locs ls C hW hS hL)
theorem a_irem {x y : Int32} (hd : decode M.1 pc = .ok (.irem, 1)) (hq : pc + 1 = q) (hy : ¬ y = 0) (kk : AW l M res k n q L (.int (am_irem x y) :: st) Γ h) : AW l M res k n pc L (.int y :: .int x :: st) Γ h := by
  subst hq
  exact fun p e s m args below meth c base D cI cF H locs ls C hW hS hL => lv_irem C.1 C.2.1 hd hy (kk p e s m args below meth c base D cI cF H locs ls C hW hS hL)
theorem a_ladd {x y : Int64} (hd : decode M.1 pc = .ok (.ladd, 1)) (hq : pc + 1 = q)  (kk : AW l M res k n q L (.long (x + y) :: st) Γ h) : AW l M res k n pc L (.long y :: .long x :: st) Γ h := by
  subst hq
  exact fun p e s m args below meth c base D cI cF H locs ls C hW hS hL => lv_ladd C.1 C.2.1 hd (kk p e s m args below meth c base D cI cF H locs ls C hW hS hL)
theorem a_lmul {x y : Int64} (hd : decode M.1 pc = .ok (.lmul, 1)) (hq : pc + 1 = q)  (kk : AW l M res k n q L (.long (x * y) :: st) Γ h) : AW l M res k n pc L (.long y :: .long x :: st) Γ h := by
  subst hq
  exact fun p e s m args below meth c base D cI cF H locs ls C hW hS hL => lv_lmul C.1 C.2.1 hd (kk p e s m args below meth c base D cI cF H locs ls C hW hS hL)
theorem a_lor {x y : Int64} (hd : decode M.1 pc = .ok (.lor, 1)) (hq : pc + 1 = q)  (kk : AW l M res k n q L (.long (x ||| y) :: st) Γ h) : AW l M res k n pc L (.long y :: .long x :: st) Γ h := by
  subst hq
  exact fun p e s m args below meth c base D cI cF H locs ls C hW hS hL => lv_lor C.1 C.2.1 hd (kk p e s m args below meth c base D cI cF H locs ls C hW hS hL)
theorem a_lxor {x y : Int64} (hd : decode M.1 pc = .ok (.lxor, 1)) (hq : pc + 1 = q)  (kk : AW l M res k n q L (.long (x ^^^ y) :: st) Γ h) : AW l M res k n pc L (.long y :: .long x :: st) Γ h := by
  subst hq
  exact fun p e s m args below meth c base D cI cF H locs ls C hW hS hL => lv_lxor C.1 C.2.1 hd (kk p e s m args below meth c base D cI cF H locs ls C hW hS hL)
theorem a_lrem {x y : Int64} (hd : decode M.1 pc = .ok (.lrem, 1)) (hq : pc + 1 = q) (hy : ¬ y = 0) (kk : AW l M res k n q L (.long (am_lrem x y) :: st) Γ h) : AW l M res k n pc L (.long y :: .long x :: st) Γ h := by
  subst hq
  exact fun p e s m args below meth c base D cI cF H locs ls C hW hS hL => lv_lrem C.1 C.2.1 hd hy (kk p e s m args below meth c base D cI cF H locs ls C hW hS hL)
theorem a_lshl {x : Int64} {y : Int32} (hd : decode M.1 pc = .ok (.lshl, 1)) (hq : pc + 1 = q)  (kk : AW l M res k n q L (.long (am_lshl x y) :: st) Γ h) : AW l M res k n pc L (.int y :: .long x :: st) Γ h := by
  subst hq
  exact fun p e s m args below meth c base D cI cF H locs ls C hW hS hL => lv_lshl C.1 C.2.1 hd rfl (kk p e s m args below meth c base D cI cF H locs ls C hW hS hL)
theorem a_i2l {x : Int32} (hd : decode M.1 pc = .ok (.i2l, 1)) (hq : pc + 1 = q)  (kk : AW l M res k n q L (.long x.toInt64 :: st) Γ h) : AW l M res k n pc L (.int x :: st) Γ h := by
  subst hq
  exact fun p e s m args below meth c base D cI cF H locs ls C hW hS hL => lv_i2l C.1 C.2.1 hd rfl (kk p e s m args below meth c base D cI cF H locs ls C hW hS hL)
theorem a_l2i {x : Int64} (hd : decode M.1 pc = .ok (.l2i, 1)) (hq : pc + 1 = q)  (kk : AW l M res k n q L (.int x.toInt32 :: st) Γ h) : AW l M res k n pc L (.long x :: st) Γ h := by
  subst hq
  exact fun p e s m args below meth c base D cI cF H locs ls C hW hS hL => lv_l2i C.1 C.2.1 hd rfl (kk p e s m args below meth c base D cI cF H locs ls C hW hS hL)
theorem a_lcmp {x y : Int64} (hd : decode M.1 pc = .ok (.lcmp, 1)) (hq : pc + 1 = q)  (kk : AW l M res k n q L (.int (lg_cmp x y) :: st) Γ h) : AW l M res k n pc L (.long y :: .long x :: st) Γ h := by
  subst hq
  exact fun p e s m args below meth c base D cI cF H locs ls C hW hS hL => W.lcmp C.1 C.2.1 hd (kk p e s m args below meth c base D cI cF H locs ls C hW hS hL)
variable {ρ : Type} {A B : Option ρ} {rr : ρ}
theorem a_if_eq {x : Int32} {off : Int} {t : Nat} (hd : decode M.1 pc = .ok (.ifCond .eq off, 3)) (hq : pc + 3 = q) (ht : (pc : Int) + off = (t : Int)) (hf : (if x = 0 then A else B) = some rr) (kt : x = 0 → A = some rr → AW l M res k n t L st Γ h) (kf : ¬ (x = 0) → B = some rr → AW l M res k n q L st Γ h) : AW l M res k n pc L (.int x :: st) Γ h := by
  subst hq
  exact fun p e s m args below meth c base D cI cF H locs ls C hW hS hL => lv_if_eq C.1 C.2.1 hd ht (fun hc => kt hc (by rw [if_pos hc] at hf; exact hf) p e s m args below meth c base D cI cF H locs ls C hW hS hL) (fun hc => kf hc (by rw [if_neg hc] at hf; exact hf) p e s m args below meth c base D cI cF H locs ls C hW hS hL)
theorem a_if_eq_t {x : Int32} {off : Int} {t : Nat} (hd : decode M.1 pc = .ok (.ifCond .eq off, 3)) (ht : (pc : Int) + off = (t : Int)) (hc : x = 0) (kt : AW l M res k n t L st Γ h) : AW l M res k n pc L (.int x :: st) Γ h :=
  fun p e s m args below meth c base D cI cF H locs ls C hW hS hL => lv_if_eq C.1 C.2.1 hd ht (fun _ => kt p e s m args below meth c base D cI cF H locs ls C hW hS hL) (fun hn => absurd hc hn)
theorem a_if_eq_f {x : Int32} {off : Int} {t : Nat} (hd : decode M.1 pc = .ok (.ifCond .eq off, 3)) (hq : pc + 3 = q) (ht : (pc : Int) + off = (t : Int)) (hc : ¬ (x = 0)) (kf : AW l M res k n q L st Γ h) : AW l M res k n pc L (.int x :: st) Γ h := by
  subst hq
  exact fun p e s m args below meth c base D cI cF H locs ls C hW hS hL => lv_if_eq C.1 C.2.1 hd ht (fun hp => absurd hp hc) (fun _ => kf p e s m args below meth c base D cI cF H locs ls C hW hS hL)
theorem a_icmp_eq {x y : Int32} {off : Int} {t : Nat} (hd : decode M.1 pc = .ok (.if_icmp .eq off, 3)) (hq : pc + 3 = q) (ht : (pc : Int) + off = (t : Int)) (hf : (if x = y then A else B) = some rr) (kt : x = y → A = some rr → AW l M res k n t L st Γ h) (kf : ¬ (x = y) → B = some rr → AW l M res k n q L st Γ h) : AW l M res k n pc L (.int y :: .int x :: st) Γ h := by
  subst hq
  exact fun p e s m args below meth c base D cI cF H locs ls C hW hS hL => lv_icmp_eq C.1 C.2.1 hd ht (fun hc => kt hc (by rw [if_pos hc] at hf; exact hf) p e s m args below meth c base D cI cF H locs ls C hW hS hL) (fun hc => kf hc (by rw [if_neg hc] at hf; exact hf) p e s m args below meth c base D cI cF H locs ls C hW hS hL)
theorem a_icmp_eq_t {x y : Int32} {off : Int} {t : Nat} (hd : decode M.1 pc = .ok (.if_icmp .eq off, 3)) (ht : (pc : Int) + off = (t : Int)) (hc : x = y) (kt : AW l M res k n t L st Γ h) : AW l M res k n pc L (.int y :: .int x :: st) Γ h :=
  fun p e s m args below meth c base D cI cF H locs ls C hW hS hL => lv_icmp_eq C.1 C.2.1 hd ht (fun _ => kt p e s m args below meth c base D cI cF H locs ls C hW hS hL) (fun hn => absurd hc hn)
theorem a_icmp_eq_f {x y : Int32} {off : Int} {t : Nat} (hd : decode M.1 pc = .ok (.if_icmp .eq off, 3)) (hq : pc + 3 = q) (ht : (pc : Int) + off = (t : Int)) (hc : ¬ (x = y)) (kf : AW l M res k n q L st Γ h) : AW l M res k n pc L (.int y :: .int x :: st) Γ h := by
  subst hq
  exact fun p e s m args below meth c base D cI cF H locs ls C hW hS hL => lv_icmp_eq C.1 C.2.1 hd ht (fun hp => absurd hp hc) (fun _ => kf p e s m args below meth c base D cI cF H locs ls C hW hS hL)
theorem a_if_ne {x : Int32} {off : Int} {t : Nat} (hd : decode M.1 pc = .ok (.ifCond .ne off, 3)) (hq : pc + 3 = q) (ht : (pc : Int) + off = (t : Int)) (hf : (if x = 0 then A else B) = some rr) (kf : x = 0 → A = some rr → AW l M res k n q L st Γ h) (kt : ¬ (x = 0) → B = some rr → AW l M res k n t L st Γ h) : AW l M res k n pc L (.int x :: st) Γ h := by
  subst hq
  exact fun p e s m args below meth c base D cI cF H locs ls C hW hS hL => lv_if_ne C.1 C.2.1 hd ht (fun hc => kt hc (by rw [if_neg hc] at hf; exact hf) p e s m args below meth c base D cI cF H locs ls C hW hS hL) (fun hc => kf hc (by rw [if_pos hc] at hf; exact hf) p e s m args below meth c base D cI cF H locs ls C hW hS hL)
theorem a_if_ne_t {x : Int32} {off : Int} {t : Nat} (hd : decode M.1 pc = .ok (.ifCond .ne off, 3)) (ht : (pc : Int) + off = (t : Int)) (hc : ¬ x = 0) (kt : AW l M res k n t L st Γ h) : AW l M res k n pc L (.int x :: st) Γ h :=
  fun p e s m args below meth c base D cI cF H locs ls C hW hS hL => lv_if_ne C.1 C.2.1 hd ht (fun _ => kt p e s m args below meth c base D cI cF H locs ls C hW hS hL) (fun hn => absurd hn hc)
theorem a_if_ne_f {x : Int32} {off : Int} {t : Nat} (hd : decode M.1 pc = .ok (.ifCond .ne off, 3)) (hq : pc + 3 = q) (ht : (pc : Int) + off = (t : Int)) (hc : x = 0) (kf : AW l M res k n q L st Γ h) : AW l M res k n pc L (.int x :: st) Γ h := by
  subst hq
  exact fun p e s m args below meth c base D cI cF H locs ls C hW hS hL => lv_if_ne C.1 C.2.1 hd ht (fun hp => absurd hc hp) (fun _ => kf p e s m args below meth c base D cI cF H locs ls C hW hS hL)
theorem a_icmp_ne {x y : Int32} {off : Int} {t : Nat} (hd : decode M.1 pc = .ok (.if_icmp .ne off, 3)) (hq : pc + 3 = q) (ht : (pc : Int) + off = (t : Int)) (hf : (if x = y then A else B) = some rr) (kf : x = y → A = some rr → AW l M res k n q L st Γ h) (kt : ¬ (x = y) → B = some rr → AW l M res k n t L st Γ h) : AW l M res k n pc L (.int y :: .int x :: st) Γ h := by
  subst hq
  exact fun p e s m args below meth c base D cI cF H locs ls C hW hS hL => lv_icmp_ne C.1 C.2.1 hd ht (fun hc => kt hc (by rw [if_neg hc] at hf; exact hf) p e s m args below meth c base D cI cF H locs ls C hW hS hL) (fun hc => kf hc (by rw [if_pos hc] at hf; exact hf) p e s m args below meth c base D cI cF H locs ls C hW hS hL)
theorem a_icmp_ne_t {x y : Int32} {off : Int} {t : Nat} (hd : decode M.1 pc = .ok (.if_icmp .ne off, 3)) (ht : (pc : Int) + off = (t : Int)) (hc : ¬ x = y) (kt : AW l M res k n t L st Γ h) : AW l M res k n pc L (.int y :: .int x :: st) Γ h :=
  fun p e s m args below meth c base D cI cF H locs ls C hW hS hL => lv_icmp_ne C.1 C.2.1 hd ht (fun _ => kt p e s m args below meth c base D cI cF H locs ls C hW hS hL) (fun hn => absurd hn hc)
theorem a_icmp_ne_f {x y : Int32} {off : Int} {t : Nat} (hd : decode M.1 pc = .ok (.if_icmp .ne off, 3)) (hq : pc + 3 = q) (ht : (pc : Int) + off = (t : Int)) (hc : x = y) (kf : AW l M res k n q L st Γ h) : AW l M res k n pc L (.int y :: .int x :: st) Γ h := by
  subst hq
  exact fun p e s m args below meth c base D cI cF H locs ls C hW hS hL => lv_icmp_ne C.1 C.2.1 hd ht (fun hp => absurd hc hp) (fun _ => kf p e s m args below meth c base D cI cF H locs ls C hW hS hL)
theorem a_if_lt {x : Int32} {off : Int} {t : Nat} (hd : decode M.1 pc = .ok (.ifCond .lt off, 3)) (hq : pc + 3 = q) (ht : (pc : Int) + off = (t : Int)) (hf : (if x < 0 then A else B) = some rr) (kt : x < 0 → A = some rr → AW l M res k n t L st Γ h) (kf : ¬ (x < 0) → B = some rr → AW l M res k n q L st Γ h) : AW l M res k n pc L (.int x :: st) Γ h := by
  subst hq
  exact fun p e s m args below meth c base D cI cF H locs ls C hW hS hL => lv_if_lt C.1 C.2.1 hd ht (fun hc => kt hc (by rw [if_pos hc] at hf; exact hf) p e s m args below meth c base D cI cF H locs ls C hW hS hL) (fun hc => kf hc (by rw [if_neg hc] at hf; exact hf) p e s m args below meth c base D cI cF H locs ls C hW hS hL)
theorem a_if_lt_t {x : Int32} {off : Int} {t : Nat} (hd : decode M.1 pc = .ok (.ifCond .lt off, 3)) (ht : (pc : Int) + off = (t : Int)) (hc : x < 0) (kt : AW l M res k n t L st Γ h) : AW l M res k n pc L (.int x :: st) Γ h :=
  fun p e s m args below meth c base D cI cF H locs ls C hW hS hL => lv_if_lt C.1 C.2.1 hd ht (fun _ => kt p e s m args below meth c base D cI cF H locs ls C hW hS hL) (fun hn => absurd hc hn)
theorem a_if_lt_f {x : Int32} {off : Int} {t : Nat} (hd : decode M.1 pc = .ok (.ifCond .lt off, 3)) (hq : pc + 3 = q) (ht : (pc : Int) + off = (t : Int)) (hc : ¬ (x < 0)) (kf : AW l M res k n q L st Γ h) : AW l M res k n pc L (.int x :: st) Γ h := by
  subst hq
  exact fun p e s m args below meth c base D cI cF H locs ls C hW hS hL => lv_if_lt C.1 C.2.1 hd ht (fun hp => absurd hp hc) (fun _ => kf p e s m args below meth c base D cI cF H locs ls C hW hS hL)
theorem a_icmp_lt {x y : Int32} {off : Int} {t : Nat} (hd : decode M.1 pc = .ok (.if_icmp .lt off, 3)) (hq : pc + 3 = q) (ht : (pc : Int) + off = (t : Int)) (hf : (if x < y then A else B) = some rr) (kt : x < y → A = some rr → AW l M res k n t L st Γ h) (kf : ¬ (x < y) → B = some rr → AW l M res k n q L st Γ h) : AW l M res k n pc L (.int y :: .int x :: st) Γ h := by
  subst hq
  exact fun p e s m args below meth c base D cI cF H locs ls C hW hS hL => lv_icmp_lt C.1 C.2.1 hd ht (fun hc => kt hc (by rw [if_pos hc] at hf; exact hf) p e s m args below meth c base D cI cF H locs ls C hW hS hL) (fun hc => kf hc (by rw [if_neg hc] at hf; exact hf) p e s m args below meth c base D cI cF H locs ls C hW hS hL)
theorem a_icmp_lt_t {x y : Int32} {off : Int} {t : Nat} (hd : decode M.1 pc = .ok (.if_icmp .lt off, 3)) (ht : (pc : Int) + off = (t : Int)) (hc : x < y) (kt : AW l M res k n t L st Γ h) : AW l M res k n pc L (.int y :: .int x :: st) Γ h :=
  fun p e s m args below meth c base D cI cF H locs ls C hW hS hL => lv_icmp_lt C.1 C.2.1 hd ht (fun _ => kt p e s m args below meth c base D cI cF H locs ls C hW hS hL) (fun hn => absurd hc hn)
theorem a_icmp_lt_f {x y : Int32} {off : Int} {t : Nat} (hd : decode M.1 pc = .ok (.if_icmp .lt off, 3)) (hq : pc + 3 = q) (ht : (pc : Int) + off = (t : Int)) (hc : ¬ (x < y)) (kf : AW l M res k n q L st Γ h) : AW l M res k n pc L (.int y :: .int x :: st) Γ h := by
  subst hq
  exact fun p e s m args below meth c base D cI cF H locs ls C hW hS hL => lv_icmp_lt C.1 C.2.1 hd ht (fun hp => absurd hp hc) (fun _ => kf p e s m args below meth c base D cI cF H locs ls C hW hS hL)
theorem a_if_ge {x : Int32} {off : Int} {t : Nat} (hd : decode M.1 pc = .ok (.ifCond .ge off, 3)) (hq : pc + 3 = q) (ht : (pc : Int) + off = (t : Int)) (hf : (if 0 ≤ x then A else B) = some rr) (kt : 0 ≤ x → A = some rr → AW l M res k n t L st Γ h) (kf : ¬ (0 ≤ x) → B = some rr → AW l M res k n q L st Γ h) : AW l M res k n pc L (.int x :: st) Γ h := by
  subst hq
  exact fun p e s m args below meth c base D cI cF H locs ls C hW hS hL => lv_if_ge C.1 C.2.1 hd ht (fun hc => kt hc (by rw [if_pos hc] at hf; exact hf) p e s m args below meth c base D cI cF H locs ls C hW hS hL) (fun hc => kf hc (by rw [if_neg hc] at hf; exact hf) p e s m args below meth c base D cI cF H locs ls C hW hS hL)
theorem a_if_ge_t {x : Int32} {off : Int} {t : Nat} (hd : decode M.1 pc = .ok (.ifCond .ge off, 3)) (ht : (pc : Int) + off = (t : Int)) (hc : 0 ≤ x) (kt : AW l M res k n t L st Γ h) : AW l M res k n pc L (.int x :: st) Γ h :=
  fun p e s m args below meth c base D cI cF H locs ls C hW hS hL => lv_if_ge C.1 C.2.1 hd ht (fun _ => kt p e s m args below meth c base D cI cF H locs ls C hW hS hL) (fun hn => absurd hc hn)
theorem a_if_ge_f {x : Int32} {off : Int} {t : Nat} (hd : decode M.1 pc = .ok (.ifCond .ge off, 3)) (hq : pc + 3 = q) (ht : (pc : Int) + off = (t : Int)) (hc : ¬ (0 ≤ x)) (kf : AW l M res k n q L st Γ h) : AW l M res k n pc L (.int x :: st) Γ h := by
  subst hq
  exact fun p e s m args below meth c base D cI cF H locs ls C hW hS hL => lv_if_ge C.1 C.2.1 hd ht (fun hp => absurd hp hc) (fun _ => kf p e s m args below meth c base D cI cF H locs ls C hW hS hL)
theorem a_icmp_ge {x y : Int32} {off : Int} {t : Nat} (hd : decode M.1 pc = .ok (.if_icmp .ge off, 3)) (hq : pc + 3 = q) (ht : (pc : Int) + off = (t : Int)) (hf : (if y ≤ x then A else B) = some rr) (kt : y ≤ x → A = some rr → AW l M res k n t L st Γ h) (kf : ¬ (y ≤ x) → B = some rr → AW l M res k n q L st Γ h) : AW l M res k n pc L (.int y :: .int x :: st) Γ h := by
  subst hq
  exact fun p e s m args below meth c base D cI cF H locs ls C hW hS hL => lv_icmp_ge C.1 C.2.1 hd ht (fun hc => kt hc (by rw [if_pos hc] at hf; exact hf) p e s m args below meth c base D cI cF H locs ls C hW hS hL) (fun hc => kf hc (by rw [if_neg hc] at hf; exact hf) p e s m args below meth c base D cI cF H locs ls C hW hS hL)
theorem a_icmp_ge_t {x y : Int32} {off : Int} {t : Nat} (hd : decode M.1 pc = .ok (.if_icmp .ge off, 3)) (ht : (pc : Int) + off = (t : Int)) (hc : y ≤ x) (kt : AW l M res k n t L st Γ h) : AW l M res k n pc L (.int y :: .int x :: st) Γ h :=
  fun p e s m args below meth c base D cI cF H locs ls C hW hS hL => lv_icmp_ge C.1 C.2.1 hd ht (fun _ => kt p e s m args below meth c base D cI cF H locs ls C hW hS hL) (fun hn => absurd hc hn)
theorem a_icmp_ge_f {x y : Int32} {off : Int} {t : Nat} (hd : decode M.1 pc = .ok (.if_icmp .ge off, 3)) (hq : pc + 3 = q) (ht : (pc : Int) + off = (t : Int)) (hc : ¬ (y ≤ x)) (kf : AW l M res k n q L st Γ h) : AW l M res k n pc L (.int y :: .int x :: st) Γ h := by
  subst hq
  exact fun p e s m args below meth c base D cI cF H locs ls C hW hS hL => lv_icmp_ge C.1 C.2.1 hd ht (fun hp => absurd hp hc) (fun _ => kf p e s m args below meth c base D cI cF H locs ls C hW hS hL)
theorem a_if_gt {x : Int32} {off : Int} {t : Nat} (hd : decode M.1 pc = .ok (.ifCond .gt off, 3)) (hq : pc + 3 = q) (ht : (pc : Int) + off = (t : Int)) (hf : (if 0 < x then A else B) = some rr) (kt : 0 < x → A = some rr → AW l M res k n t L st Γ h) (kf : ¬ (0 < x) → B = some rr → AW l M res k n q L st Γ h) : AW l M res k n pc L (.int x :: st) Γ h := by
  subst hq
  exact fun p e s m args below meth c base D cI cF H locs ls C hW hS hL => lv_if_gt C.1 C.2.1 hd ht (fun hc => kt hc (by rw [if_pos hc] at hf; exact hf) p e s m args below meth c base D cI cF H locs ls C hW hS hL) (fun hc => kf hc (by rw [if_neg hc] at hf; exact hf) p e s m args below meth c base D cI cF H locs ls C hW hS hL)
theorem a_if_gt_t {x : Int32} {off : Int} {t : Nat} (hd : decode M.1 pc = .ok (.ifCond .gt off, 3)) (ht : (pc : Int) + off = (t : Int)) (hc : 0 < x) (kt : AW l M res k n t L st Γ h) : AW l M res k n pc L (.int x :: st) Γ h :=
  fun p e s m args below meth c base D cI cF H locs ls C hW hS hL => lv_if_gt C.1 C.2.1 hd ht (fun _ => kt p e s m args below meth c base D cI cF H locs ls C hW hS hL) (fun hn => absurd hc hn)
theorem a_if_gt_f {x : Int32} {off : Int} {t : Nat} (hd : decode M.1 pc = .ok (.ifCond .gt off, 3)) (hq : pc + 3 = q) (ht : (pc : Int) + off = (t : Int)) (hc : ¬ (0 < x)) (kf : AW l M res k n q L st Γ h) : AW l M res k n pc L (.int x :: st) Γ h := by
  subst hq
  exact fun p e s m args below meth c base D cI cF H locs ls C hW hS hL => lv_if_gt C.1 C.2.1 hd ht (fun hp => absurd hp hc) (fun _ => kf p e s m args below meth c base D cI cF H locs ls C hW hS hL)
theorem a_icmp_gt {x y : Int32} {off : Int} {t : Nat} (hd : decode M.1 pc = .ok (.if_icmp .gt off, 3)) (hq : pc + 3 = q) (ht : (pc : Int) + off = (t : Int)) (hf : (if y < x then A else B) = some rr) (kt : y < x → A = some rr → AW l M res k n t L st Γ h) (kf : ¬ (y < x) → B = some rr → AW l M res k n q L st Γ h) : AW l M res k n pc L (.int y :: .int x :: st) Γ h := by
  subst hq
  exact fun p e s m args below meth c base D cI cF H locs ls C hW hS hL => lv_icmp_gt C.1 C.2.1 hd ht (fun hc => kt hc (by rw [if_pos hc] at hf; exact hf) p e s m args below meth c base D cI cF H locs ls C hW hS hL) (fun hc => kf hc (by rw [if_neg hc] at hf; exact hf) p e s m args below meth c base D cI cF H locs ls C hW hS hL)
theorem a_icmp_gt_t {x y : Int32} {off : Int} {t : Nat} (hd : decode M.1 pc = .ok (.if_icmp .gt off, 3)) (ht : (pc : Int) + off = (t : Int)) (hc : y < x) (kt : AW l M res k n t L st Γ h) : AW l M res k n pc L (.int y :: .int x :: st) Γ h :=
  fun p e s m args below meth c base D cI cF H locs ls C hW hS hL => lv_icmp_gt C.1 C.2.1 hd ht (fun _ => kt p e s m args below meth c base D cI cF H locs ls C hW hS hL) (fun hn => absurd hc hn)
theorem a_icmp_gt_f {x y : Int32} {off : Int} {t : Nat} (hd : decode M.1 pc = .ok (.if_icmp .gt off, 3)) (hq : pc + 3 = q) (ht : (pc : Int) + off = (t : Int)) (hc : ¬ (y < x)) (kf : AW l M res k n q L st Γ h) : AW l M res k n pc L (.int y :: .int x :: st) Γ h := by
  subst hq
  exact fun p e s m args below meth c base D cI cF H locs ls C hW hS hL => lv_icmp_gt C.1 C.2.1 hd ht (fun hp => absurd hp hc) (fun _ => kf p e s m args below meth c base D cI cF H locs ls C hW hS hL)
theorem a_if_le {x : Int32} {off : Int} {t : Nat} (hd : decode M.1 pc = .ok (.ifCond .le off, 3)) (hq : pc + 3 = q) (ht : (pc : Int) + off = (t : Int)) (hf : (if x ≤ 0 then A else B) = some rr) (kt : x ≤ 0 → A = some rr → AW l M res k n t L st Γ h) (kf : ¬ (x ≤ 0) → B = some rr → AW l M res k n q L st Γ h) : AW l M res k n pc L (.int x :: st) Γ h := by
  subst hq
  exact fun p e s m args below meth c base D cI cF H locs ls C hW hS hL => lv_if_le C.1 C.2.1 hd ht (fun hc => kt hc (by rw [if_pos hc] at hf; exact hf) p e s m args below meth c base D cI cF H locs ls C hW hS hL) (fun hc => kf hc (by rw [if_neg hc] at hf; exact hf) p e s m args below meth c base D cI cF H locs ls C hW hS hL)
theorem a_if_le_t {x : Int32} {off : Int} {t : Nat} (hd : decode M.1 pc = .ok (.ifCond .le off, 3)) (ht : (pc : Int) + off = (t : Int)) (hc : x ≤ 0) (kt : AW l M res k n t L st Γ h) : AW l M res k n pc L (.int x :: st) Γ h :=
  fun p e s m args below meth c base D cI cF H locs ls C hW hS hL => lv_if_le C.1 C.2.1 hd ht (fun _ => kt p e s m args below meth c base D cI cF H locs ls C hW hS hL) (fun hn => absurd hc hn)
theorem a_if_le_f {x : Int32} {off : Int} {t : Nat} (hd : decode M.1 pc = .ok (.ifCond .le off, 3)) (hq : pc + 3 = q) (ht : (pc : Int) + off = (t : Int)) (hc : ¬ (x ≤ 0)) (kf : AW l M res k n q L st Γ h) : AW l M res k n pc L (.int x :: st) Γ h := by
  subst hq
  exact fun p e s m args below meth c base D cI cF H locs ls C hW hS hL => lv_if_le C.1 C.2.1 hd ht (fun hp => absurd hp hc) (fun _ => kf p e s m args below meth c base D cI cF H locs ls C hW hS hL)
theorem a_icmp_le {x y : Int32} {off : Int} {t : Nat} (hd : decode M.1 pc = .ok (.if_icmp .le off, 3)) (hq : pc + 3 = q) (ht : (pc : Int) + off = (t : Int)) (hf : (if x ≤ y then A else B) = some rr) (kt : x ≤ y → A = some rr → AW l M res k n t L st Γ h) (kf : ¬ (x ≤ y) → B = some rr → AW l M res k n q L st Γ h) : AW l M res k n pc L (.int y :: .int x :: st) Γ h := by
  subst hq
  exact fun p e s m args below meth c base D cI cF H locs ls C hW hS hL => lv_icmp_le C.1 C.2.1 hd ht (fun hc => kt hc (by rw [if_pos hc] at hf; exact hf) p e s m args below meth c base D cI cF H locs ls C hW hS hL) (fun hc => kf hc (by rw [if_neg hc] at hf; exact hf) p e s m args below meth c base D cI cF H locs ls C hW hS hL)
theorem a_icmp_le_t {x y : Int32} {off : Int} {t : Nat} (hd : decode M.1 pc = .ok (.if_icmp .le off, 3)) (ht : (pc : Int) + off = (t : Int)) (hc : x ≤ y) (kt : AW l M res k n t L st Γ h) : AW l M res k n pc L (.int y :: .int x :: st) Γ h :=
  fun p e s m args below meth c base D cI cF H locs ls C hW hS hL => lv_icmp_le C.1 C.2.1 hd ht (fun _ => kt p e s m args below meth c base D cI cF H locs ls C hW hS hL) (fun hn => absurd hc hn)
theorem a_icmp_le_f {x y : Int32} {off : Int} {t : Nat} (hd : decode M.1 pc = .ok (.if_icmp .le off, 3)) (hq : pc + 3 = q) (ht : (pc : Int) + off = (t : Int)) (hc : ¬ (x ≤ y)) (kf : AW l M res k n q L st Γ h) : AW l M res k n pc L (.int y :: .int x :: st) Γ h := by
  subst hq
  exact fun p e s m args below meth c base D cI cF H locs ls C hW hS hL => lv_icmp_le C.1 C.2.1 hd ht (fun hp => absurd hp hc) (fun _ => kf p e s m args below meth c base D cI cF H locs ls C hW hS hL)
theorem a_goto {off : Int} {t : Nat} (hd : decode M.1 pc = .ok (.goto off, 3)) (ht : (pc : Int) + off = (t : Int)) (kk : AW l M res k n t L st Γ h) : AW l M res k n pc L st Γ h :=
  fun p e s m args below meth c base D cI cF H locs ls C hW hS hL => lv_goto C.1 C.2.1 hd ht (kk p e s m args below meth c base D cI cF H locs ls C hW hS hL)
theorem a_ifnullR {x : Nat} {off : Int} (hd : decode M.1 pc = .ok (.ifnull off, 3)) (hq : pc + 3 = q) (kk : AW l M res k n q L st Γ h) : AW l M res k n pc L (.ref x :: st) Γ h := by
  subst hq
  exact fun p e s m args below meth c base D cI cF H locs ls C hW hS hL => lv_ifnull C.1 C.2.1 hd (kk p e s m args below meth c base D cI cF H locs ls C hW hS hL)
theorem a_ifnullN {off : Int} {t : Nat} (hd : decode M.1 pc = .ok (.ifnull off, 3)) (ht : (pc : Int) + off = (t : Int)) (kk : AW l M res k n t L st Γ h) : AW l M res k n pc L (.null :: st) Γ h :=
  fun p e s m args below meth c base D cI cF H locs ls C hW hS hL => lv_ifnullN C.1 C.2.1 hd ht (kk p e s m args below meth c base D cI cF H locs ls C hW hS hL)
theorem a_ifnonnullR {x : Nat} {off : Int} {t : Nat} (hd : decode M.1 pc = .ok (.ifnonnull off, 3)) (ht : (pc : Int) + off = (t : Int)) (kk : AW l M res k n t L st Γ h) : AW l M res k n pc L (.ref x :: st) Γ h :=
  fun p e s m args below meth c base D cI cF H locs ls C hW hS hL => lv_ifnonnull C.1 C.2.1 hd ht (kk p e s m args below meth c base D cI cF H locs ls C hW hS hL)
theorem a_ifnonnullN {off : Int} (hd : decode M.1 pc = .ok (.ifnonnull off, 3)) (hq : pc + 3 = q) (kk : AW l M res k n q L st Γ h) : AW l M res k n pc L (.null :: st) Γ h := by
  subst hq
  exact fun p e s m args below meth c base D cI cF H locs ls C hW hS hL => lv_ifnonnullN C.1 C.2.1 hd (kk p e s m args below meth c base D cI cF H locs ls C hW hS hL)
theorem a_tswIn {x c : Int32} {dflt lo hi off : Int} {offs : Array Int} {ln t : Nat} (hd : decode M.1 pc = .ok (.tableswitch dflt lo hi offs, ln)) (hx : x = c) (h1 : ¬ c.toInt < lo) (h2 : ¬ hi < c.toInt) (ho : offs[(c.toInt - lo).toNat]? = some off) (ht : (pc : Int) + off = (t : Int)) (kk : AW l M res k n t L st Γ h) : AW l M res k n pc L (.int x :: st) Γ h := by
  subst hx
  exact fun p e s m args below meth c base D cI cF H locs ls C hW hS hL => lv_tableIn C.1 C.2.1 hd h1 h2 ho ht (kk p e s m args below meth c base D cI cF H locs ls C hW hS hL)
theorem a_tswOut {x : Int32} {dflt lo hi : Int} {offs : Array Int} {ln t : Nat} (hd : decode M.1 pc = .ok (.tableswitch dflt lo hi offs, ln)) (hx : x.toInt < lo ∨ hi < x.toInt) (ht : (pc : Int) + dflt = (t : Int)) (kk : AW l M res k n t L st Γ h) : AW l M res k n pc L (.int x :: st) Γ h :=
  fun p e s m args below meth c base D cI cF H locs ls C hW hS hL => lv_tableOut C.1 C.2.1 hd hx ht (kk p e s m args below meth c base D cI cF H locs ls C hW hS hL)
theorem a_lsw {x : Int32} {dflt off : Int} {ps : Array (Int × Int)} {ln t : Nat} (hd : decode M.1 pc = .ok (.lookupswitch dflt ps, ln)) (hp : (ps.toList.zip (ps.toList.drop 1)).all (fun (a, next) => a.1 < next.1) = true) (ho : Op.lookupswitch.offset ps.toList dflt x.toInt = off) (ht : (pc : Int) + off = (t : Int)) (kk : AW l M res k n t L st Γ h) : AW l M res k n pc L (.int x :: st) Γ h :=
  fun p e s m args below meth c base D cI cF H locs ls C hW hS hL => lv_lookup C.1 C.2.1 hd hp ho ht (kk p e s m args below meth c base D cI cF H locs ls C hW hS hL)
theorem am_if {c : Prop} {d : Decidable c} {P : Prop} (hf : (@ite _ c d A B) = some rr) (kt : c → A = some rr → P) (kf : ¬ c → B = some rr → P) : P := by
  by_cases hc : c
  · exact kt hc (by rw [if_pos hc] at hf; exact hf)
  · exact kf hc (by rw [if_neg hc] at hf; exact hf)
theorem am_z {x : Int32} (h : x = 0 ∨ x = 1) : narrow .boolean (.int x) = .int x := by rcases h with rfl | rfl <;> rfl
/-- the answer: a reference's kind, or 0 or 1 for a boolean -/
theorem a_ret  (hd : decode M.1 pc = .ok (.return_, 1)) (hr : M.2.2.1 = none) (hm : M.2.2.2.2.2.2.1 = k) (hm2 : M.2.2.2.2.2.2.2.1 = n)  : AW l M (none, Γ, h) k n pc L [] Γ h := by
  intro p e s m args below meth c base D cI cF H locs ls C hW hS hL
  have hlocks : meth.locks = false := C.2.2.2.2.2.2.1
  rw [hm, hm2]
  exact W.vret C.1 C.2.1 (by rw [C.2.2.1, hr])  (fun t ht hWm => ⟨rfl, ⟨fun b hb => (by cases hb), fun _ x hx => (by cases hx)⟩, by rw [ht]; exact hW, hS.1.F ht⟩) hS.1.2.2 hd hlocks
theorem a_iret {x : Int32} (hd : decode M.1 pc = .ok (.ireturn, 1)) (hr : M.2.2.1 = some .int) (hm : M.2.2.2.2.2.2.1 = k) (hm2 : M.2.2.2.2.2.2.2.1 = n) (h9 : M.2.2.2.2.2.2.2.2 ≠ 98) : AW l M (some (.int x), Γ, h) k n pc L [.int x] Γ h := by
  intro p e s m args below meth c base D cI cF H locs ls C hW hS hL
  have hlocks : meth.locks = false := C.2.2.2.2.2.2.1
  rw [hm, hm2]
  exact W.iret C.1 C.2.1 (by rw [C.2.2.1, hr])  (fun t ht hWm => ⟨rfl, ⟨fun b hb => (by cases hb), fun h98 => absurd h98 h9⟩, by rw [ht]; exact hW, hS.1.F ht⟩) hS.1.2.2 hd hlocks
theorem a_zret {x : Int32} (hd : decode M.1 pc = .ok (.ireturn, 1)) (hr : M.2.2.1 = some .boolean) (hm : M.2.2.2.2.2.2.1 = k) (hm2 : M.2.2.2.2.2.2.2.1 = n) (hx : x = 0 ∨ x = 1) : AW l M (some (.int x), Γ, h) k n pc L [.int x] Γ h := by
  intro p e s m args below meth c base D cI cF H locs ls C hW hS hL
  have hlocks : meth.locks = false := C.2.2.2.2.2.2.1
  rw [hm, hm2]
  exact W.zret C.1 C.2.1 (by rw [C.2.2.1, hr]) (am_z hx) (fun t ht hWm => ⟨rfl, ⟨fun b hb => (by cases hb), fun _ z hz => (by cases hz; exact hx)⟩, by rw [ht]; exact hW, hS.1.F ht⟩) hS.1.2.2 hd hlocks
theorem a_lret {x : Int64} (hd : decode M.1 pc = .ok (.lreturn, 1)) (hr : M.2.2.1 = some .long) (hm : M.2.2.2.2.2.2.1 = k) (hm2 : M.2.2.2.2.2.2.2.1 = n)  : AW l M (some (.long x), Γ, h) k n pc L [.long x] Γ h := by
  intro p e s m args below meth c base D cI cF H locs ls C hW hS hL
  have hlocks : meth.locks = false := C.2.2.2.2.2.2.1
  rw [hm, hm2]
  exact W.lret C.1 C.2.1 (by rw [C.2.2.1, hr])  (fun t ht hWm => ⟨rfl, ⟨fun b hb => (by cases hb), fun _ x hx => (by cases hx)⟩, by rw [ht]; exact hW, hS.1.F ht⟩) hS.1.2.2 hd hlocks
theorem a_aretN {rt : String} (hd : decode M.1 pc = .ok (.areturn, 1)) (hr : M.2.2.1 = some (.object rt)) (hm : M.2.2.2.2.2.2.1 = k) (hm2 : M.2.2.2.2.2.2.2.1 = n)  : AW l M (some (am_o none), Γ, h) k n pc L [.null] Γ h := by
  intro p e s m args below meth c base D cI cF H locs ls C hW hS hL
  have hlocks : meth.locks = false := C.2.2.2.2.2.2.1
  rw [hm, hm2]
  exact W.aret C.1 C.2.1 (by rw [C.2.2.1, hr]) (Or.inl ⟨_, rfl⟩) (Or.inl rfl) (fun t ht hWm => ⟨rfl, ⟨fun b hb => (by cases hb), fun _ x hx => (by cases hx)⟩, by rw [ht]; exact hW, hS.1.F ht⟩) hS.1.2.2 hd hlocks
theorem a_aretR {rt : String} {b nb : Nat} (hd : decode M.1 pc = .ok (.areturn, 1)) (hr : M.2.2.1 = some (.object rt)) (hm : M.2.2.2.2.2.2.1 = k) (hm2 : M.2.2.2.2.2.2.2.1 = n) (hb : Γ[b]? = some (M.2.2.2.2.2.2.2.2, nb)) : AW l M (some (am_o (some b)), Γ, h) k n pc L [.ref b] Γ h := by
  intro p e s m args below meth c base D cI cF H locs ls C hW hS hL
  have hlocks : meth.locks = false := C.2.2.2.2.2.2.1
  rw [hm, hm2]
  exact W.aret C.1 C.2.1 (by rw [C.2.2.1, hr]) (Or.inl ⟨_, rfl⟩) (Or.inr ⟨_, rfl⟩) (fun t ht hWm => ⟨rfl, ⟨fun b hb => (by cases hb; exact fun _ => ⟨_, ‹_›⟩), fun _ x hx => (by cases hx)⟩, by rw [ht]; exact hW, hS.1.F ht⟩) hS.1.2.2 hd hlocks
theorem AW.null (kk : AW l M res k n pc L (.null :: st) Γ h) : AW l M res k n pc L (am_o none :: st) Γ h := kk
theorem AW.refo {b : Nat} (kk : AW l M res k n pc L (.ref b :: st) Γ h) : AW l M res k n pc L (am_o (some b) :: st) Γ h := kk
def am_let {α β : Type} (x : α) (f : α → β) : β := f x
def am_bind {α β : Type} (o : Option (α × AH)) (f : α → AH → Option β) : Option β := o.bind (fun p => f p.1 p.2)
theorem am_bind_some {α : Type} {o : Option (α × AH)} {f : α → AH → Option ρ} (hf : am_bind o f = some rr) : ∃ (r : α) (h1 : AH), o = some (r, h1) ∧ f r h1 = some rr := by
  obtain ⟨⟨r, h1⟩, e1, e2⟩ := Option.bind_eq_some_iff.mp hf
  exact ⟨r, h1, e1, e2⟩
theorem a_nmI {e : Int32} {K : Int32 → Option ρ} (hf : am_let e K = some rr) (kk : ∀ x : Int32, K x = some rr → AW l M res k n pc L (.int x :: st) Γ h) : AW l M res k n pc L (.int e :: st) Γ h := kk e hf
theorem a_nmL {e : Int64} {K : Int64 → Option ρ} (hf : am_let e K = some rr) (kk : ∀ x : Int64, K x = some rr → AW l M res k n pc L (.long x :: st) Γ h) : AW l M res k n pc L (.long e :: st) Γ h := kk e hf
end AMR
