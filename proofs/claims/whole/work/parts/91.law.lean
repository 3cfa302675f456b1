/-! ===== the law's frames ===== -/
def lm_v (b base : Nat) (v : Value) : Value := match v with
  | .ref a => .ref (base + a)
  | .float _ => .ref b
  | v => v
def AL (l : Launch) (Ln : Nat) (xs : Nat → Int32) (k n pc : Nat) (i : Int32) (st : List Value) (Γ : Gm) (h : AH) : Prop :=
  ∀ (p : Program) (e : Env) (s : State) (m : MethodId) (below : List Frame) (meth : Method) (c : Code) (b : Nat) (D : va_G) (cI cF : ClassId) (H : Heap) (locs : List Loc) (ls : Array Slot),
    lw_At p s m meth c b Ln xs → va_K D vwCl (am_tys cI cF) s → am_N s → am_Wd D cI cF s.heap.size Γ h H → am_S s.heap.size s k Γ H locs → lv_has ls 4 [(0, .ref b), (1, .ref s.heap.size), (2, .ref (s.heap.size + 119)), (3, .int i)] →
    W p l e room_1 s m #[Value.ref b] below meth c H locs k n (lw_Z below #[Value.ref b] s) (F0 m pc ls (st.map (lm_v b s.heap.size)))
section ALR
variable {l : Launch} {Ln : Nat} {xs : Nat → Int32} {k n pc q : Nat} {i : Int32} {st : List Value} {Γ : Gm} {h : AH}
theorem L_iconst {z : Int} {v : Int32} (hd : decode code pc = .ok (.iconst z, 1)) (hq : pc + 1 = q) (hv : Int32.ofInt z = v) (kk : AL l Ln xs k n q i (.int v :: st) Γ h) : AL l Ln xs k n pc i (st) Γ h := by
  subst hq
  exact fun p e s m below meth c b D cI cF H locs ls C hK hN hW hS hl => lv_iconst C.1 C.2.1 hd hv (kk p e s m below meth c b D cI cF H locs ls C hK hN hW hS hl)
theorem L_bipush {z : Int} {v : Int32} (hd : decode code pc = .ok (.bipush z, 2)) (hq : pc + 2 = q) (hv : (Int8.ofInt z).toInt32 = v) (kk : AL l Ln xs k n q i (.int v :: st) Γ h) : AL l Ln xs k n pc i (st) Γ h := by
  subst hq
  exact fun p e s m below meth c b D cI cF H locs ls C hK hN hW hS hl => lv_bipush C.1 C.2.1 hd hv (kk p e s m below meth c b D cI cF H locs ls C hK hN hW hS hl)
theorem L_iload3  (hd : decode code pc = .ok (.iload_n 3, 1)) (hq : pc + 1 = q)  (kk : AL l Ln xs k n q i (.int i :: st) Γ h) : AL l Ln xs k n pc i (st) Γ h := by
  subst hq
  exact fun p e s m below meth c b D cI cF H locs ls C hK hN hW hS hl => lv_iload_n C.1 C.2.1 hd rfl (lv_at hl 3 rfl) (kk p e s m below meth c b D cI cF H locs ls C hK hN hW hS hl)
theorem L_aload0  (hd : decode code pc = .ok (.aload_n 0, 1)) (hq : pc + 1 = q)  (kk : AL l Ln xs k n q i (.float 0 :: st) Γ h) : AL l Ln xs k n pc i (st) Γ h := by
  subst hq
  exact fun p e s m below meth c b D cI cF H locs ls C hK hN hW hS hl => lv_aload_n C.1 C.2.1 hd rfl (lv_at hl 0 rfl) (kk p e s m below meth c b D cI cF H locs ls C hK hN hW hS hl)
theorem L_aload1  (hd : decode code pc = .ok (.aload_n 1, 1)) (hq : pc + 1 = q)  (kk : AL l Ln xs k n q i (.ref 0 :: st) Γ h) : AL l Ln xs k n pc i (st) Γ h := by
  subst hq
  exact fun p e s m below meth c b D cI cF H locs ls C hK hN hW hS hl => lv_aload_n C.1 C.2.1 hd rfl (lv_at hl 1 rfl) (kk p e s m below meth c b D cI cF H locs ls C hK hN hW hS hl)
theorem L_aload2  (hd : decode code pc = .ok (.aload_n 2, 1)) (hq : pc + 1 = q)  (kk : AL l Ln xs k n q i (.ref 119 :: st) Γ h) : AL l Ln xs k n pc i (st) Γ h := by
  subst hq
  exact fun p e s m below meth c b D cI cF H locs ls C hK hN hW hS hl => lv_aload_n C.1 C.2.1 hd rfl (lv_at hl 2 rfl) (kk p e s m below meth c b D cI cF H locs ls C hK hN hW hS hl)
theorem L_iadd {x y : Int32} (hd : decode code pc = .ok (.iadd, 1)) (hq : pc + 1 = q)  (kk : AL l Ln xs k n q i (.int (x + y) :: st) Γ h) : AL l Ln xs k n pc i (.int y :: .int x :: st) Γ h := by
  subst hq
  exact fun p e s m below meth c b D cI cF H locs ls C hK hN hW hS hl => lv_iadd C.1 C.2.1 hd (kk p e s m below meth c b D cI cF H locs ls C hK hN hW hS hl)
theorem L_isub {x y : Int32} (hd : decode code pc = .ok (.isub, 1)) (hq : pc + 1 = q)  (kk : AL l Ln xs k n q i (.int (x - y) :: st) Γ h) : AL l Ln xs k n pc i (.int y :: .int x :: st) Γ h := by
  subst hq
  exact fun p e s m below meth c b D cI cF H locs ls C hK hN hW hS hl => lv_isub C.1 C.2.1 hd (kk p e s m below meth c b D cI cF H locs ls C hK hN hW hS hl)
theorem L_iand {x y : Int32} (hd : decode code pc = .ok (.iand, 1)) (hq : pc + 1 = q)  (kk : AL l Ln xs k n q i (.int (x &&& y) :: st) Γ h) : AL l Ln xs k n pc i (.int y :: .int x :: st) Γ h := by
  subst hq
  exact fun p e s m below meth c b D cI cF H locs ls C hK hN hW hS hl => lv_iand C.1 C.2.1 hd (kk p e s m below meth c b D cI cF H locs ls C hK hN hW hS hl)
theorem L_lcmp {x y : Int64} (hd : decode code pc = .ok (.lcmp, 1)) (hq : pc + 1 = q)  (kk : AL l Ln xs k n q i (.int (lg_cmp x y) :: st) Γ h) : AL l Ln xs k n pc i (.long y :: .long x :: st) Γ h := by
  subst hq
  exact fun p e s m below meth c b D cI cF H locs ls C hK hN hW hS hl => W.lcmp C.1 C.2.1 hd (kk p e s m below meth c b D cI cF H locs ls C hK hN hW hS hl)
theorem L_slen (hd : decode code pc = .ok (.arraylength, 1)) (hq : pc + 1 = q) (kk : AL l Ln xs k n q i (.int (nI Ln) :: st) Γ h) : AL l Ln xs k n pc i (.float 0 :: st) Γ h := by
  subst hq
  exact fun p e s m below meth c b D cI cF H locs ls C hK hN hW hS hl => va_slen C.1 C.2.1 C.2.2.2.2.2.2.1 C.2.2.2.2.2.2.2.1 (A := fun q => s.heap.size ≤ q) (Nat.not_le.mpr C.2.2.2.2.2.2.2.1) hS.1 hd (kk p e s m below meth c b D cI cF H locs ls C hK hN hW hS hl)
theorem L_sld {j : Int32} {x : Int32} (hd : decode code pc = .ok (.iaload, 1)) (hq : pc + 1 = q) (hj : vp_in j Ln) (hx : xs j.toNatClampNeg = x) (kk : AL l Ln xs k n q i (.int x :: st) Γ h) : AL l Ln xs k n pc i (.int j :: .float 0 :: st) Γ h := by
  subst hq
  subst hx
  exact fun p e s m below meth c b D cI cF H locs ls C hK hN hW hS hl => va_sld C.1 C.2.1 C.2.2.2.2.2.2.1 C.2.2.2.2.2.2.2.1 (A := fun q => s.heap.size ≤ q) (Nat.not_le.mpr C.2.2.2.2.2.2.2.1) hS.1 hj hd (kk p e s m below meth c b D cI cF H locs ls C hK hN hW hS hl)
theorem L_goto {off : Int} {t : Nat} (hd : decode code pc = .ok (.goto off, 3)) (ht : (pc : Int) + off = (t : Int)) (kk : AL l Ln xs k n t i st Γ h) : AL l Ln xs k n pc i st Γ h :=
  fun p e s m below meth c b D cI cF H locs ls C hK hN hW hS hl => lv_goto C.1 C.2.1 hd ht (kk p e s m below meth c b D cI cF H locs ls C hK hN hW hS hl)
theorem L_icmp_eq_t {x y : Int32} {off : Int} {t : Nat} (hd : decode code pc = .ok (.if_icmp .eq off, 3)) (ht : (pc : Int) + off = (t : Int)) (hc : x = y) (kt : AL l Ln xs k n t i st Γ h) : AL l Ln xs k n pc i (.int y :: .int x :: st) Γ h :=
  fun p e s m below meth c b D cI cF H locs ls C hK hN hW hS hl => lv_icmp_eq C.1 C.2.1 hd ht (fun _ => kt p e s m below meth c b D cI cF H locs ls C hK hN hW hS hl) (fun hn => absurd hc hn)
theorem L_icmp_eq_f {x y : Int32} {off : Int} {t : Nat} (hd : decode code pc = .ok (.if_icmp .eq off, 3)) (hq : pc + 3 = q) (ht : (pc : Int) + off = (t : Int)) (hc : ¬ (x = y)) (kf : AL l Ln xs k n q i st Γ h) : AL l Ln xs k n pc i (.int y :: .int x :: st) Γ h := by
  subst hq
  exact fun p e s m below meth c b D cI cF H locs ls C hK hN hW hS hl => lv_icmp_eq C.1 C.2.1 hd ht (fun hp => absurd hp hc) (fun _ => kf p e s m below meth c b D cI cF H locs ls C hK hN hW hS hl)
theorem L_if_eq_t {x : Int32} {off : Int} {t : Nat} (hd : decode code pc = .ok (.ifCond .eq off, 3)) (ht : (pc : Int) + off = (t : Int)) (hc : x = 0) (kt : AL l Ln xs k n t i st Γ h) : AL l Ln xs k n pc i (.int x :: st) Γ h :=
  fun p e s m below meth c b D cI cF H locs ls C hK hN hW hS hl => lv_if_eq C.1 C.2.1 hd ht (fun _ => kt p e s m below meth c b D cI cF H locs ls C hK hN hW hS hl) (fun hn => absurd hc hn)
theorem L_if_eq_f {x : Int32} {off : Int} {t : Nat} (hd : decode code pc = .ok (.ifCond .eq off, 3)) (hq : pc + 3 = q) (ht : (pc : Int) + off = (t : Int)) (hc : ¬ (x = 0)) (kf : AL l Ln xs k n q i st Γ h) : AL l Ln xs k n pc i (.int x :: st) Γ h := by
  subst hq
  exact fun p e s m below meth c b D cI cF H locs ls C hK hN hW hS hl => lv_if_eq C.1 C.2.1 hd ht (fun hp => absurd hp hc) (fun _ => kf p e s m below meth c b D cI cF H locs ls C hK hN hW hS hl)
theorem L_icmp_gt_t {x y : Int32} {off : Int} {t : Nat} (hd : decode code pc = .ok (.if_icmp .gt off, 3)) (ht : (pc : Int) + off = (t : Int)) (hc : y < x) (kt : AL l Ln xs k n t i st Γ h) : AL l Ln xs k n pc i (.int y :: .int x :: st) Γ h :=
  fun p e s m below meth c b D cI cF H locs ls C hK hN hW hS hl => lv_icmp_gt C.1 C.2.1 hd ht (fun _ => kt p e s m below meth c b D cI cF H locs ls C hK hN hW hS hl) (fun hn => absurd hc hn)
theorem L_icmp_gt_f {x y : Int32} {off : Int} {t : Nat} (hd : decode code pc = .ok (.if_icmp .gt off, 3)) (hq : pc + 3 = q) (ht : (pc : Int) + off = (t : Int)) (hc : ¬ (y < x)) (kf : AL l Ln xs k n q i st Γ h) : AL l Ln xs k n pc i (.int y :: .int x :: st) Γ h := by
  subst hq
  exact fun p e s m below meth c b D cI cF H locs ls C hK hN hW hS hl => lv_icmp_gt C.1 C.2.1 hd ht (fun hp => absurd hp hc) (fun _ => kf p e s m below meth c b D cI cF H locs ls C hK hN hW hS hl)
theorem L_tswIn {x c' : Int32} {dflt lo hi off : Int} {offs : Array Int} {ln t : Nat} (hd : decode code pc = .ok (.tableswitch dflt lo hi offs, ln)) (hx : x = c') (h1 : ¬ c'.toInt < lo) (h2 : ¬ hi < c'.toInt) (ho : offs[(c'.toInt - lo).toNat]? = some off) (ht : (pc : Int) + off = (t : Int)) (kk : AL l Ln xs k n t i st Γ h) : AL l Ln xs k n pc i (.int x :: st) Γ h := by
  subst hx
  exact fun p e s m below meth c b D cI cF H locs ls C hK hN hW hS hl => lv_tableIn C.1 C.2.1 hd h1 h2 ho ht (kk p e s m below meth c b D cI cF H locs ls C hK hN hW hS hl)
theorem L_tswOut {x : Int32} {dflt lo hi : Int} {offs : Array Int} {ln t : Nat} (hd : decode code pc = .ok (.tableswitch dflt lo hi offs, ln)) (hx : x.toInt < lo ∨ hi < x.toInt) (ht : (pc : Int) + dflt = (t : Int)) (kk : AL l Ln xs k n t i st Γ h) : AL l Ln xs k n pc i (.int x :: st) Γ h :=
  fun p e s m below meth c b D cI cF H locs ls C hK hN hW hS hl => lv_tableOut C.1 C.2.1 hd hx ht (kk p e s m below meth c b D cI cF H locs ls C hK hN hW hS hl)
theorem L_iinc {v : Int32} (hd : decode code pc = .ok (.iinc 3 6, 3)) (hq : pc + 3 = q) (hv : i + Int32.ofInt 6 = v) (kk : AL l Ln xs k n q v st Γ h) : AL l Ln xs k n pc i st Γ h := by
  subst hq
  intro p e s m below meth c b D cI cF H locs ls C hK hN hW hS hl
  refine lv_iinc (lv' := [(3, .int v), (0, .ref b), (1, .ref s.heap.size), (2, .ref (s.heap.size + 119))]) C.1 C.2.1 hd hl (k := 3) rfl hv (by decide) rfl (fun ls' hl' => ?_)
  exact kk p e s m below meth c b D cI cF H locs ls' C hK hN hW hS (lv_sub hl' [1, 2, 3, 0] rfl)
theorem L_end (hd : decode code pc = .ok (.ireturn, 1)) (hk : k ≤ 600000) (hn : n ≤ 7302249) : AL l Ln xs k n pc i [.int 1] Γ h := by
  intro p e s m below meth c b D cI cF H locs ls C hK hN hW hS hl
  refine va_forget (fun q hq => hS.1.2.2 q hq) ?_
  refine W.widen (k := 600000) (n := 7302249) hk hn ?_
  exact lw_ret C.1 C.2.1 C.2.2.1 C.2.2.2.2.2.2.2.2.1 hd
theorem lm_ints {b base : Nat} (As : List Int32) : (As.map Value.int).map (lm_v b base) = As.map Value.int := by simp [lm_v]
theorem am_ints {base : Nat} (As : List Int32) : (As.map Value.int).map (am_v base) = As.map Value.int := by simp [am_v]
theorem lm_cats {b base : Nat} {st : List Value} : ((st.map (lm_v b base)).map fun v => v.category) = st.map fun v => v.category := by
  simp only [List.map_map]
  congr 1
  funext v
  cases v <;> rfl
theorem L_call {idx z ci nb ar : Nat} {y : MethodName} {M' : AMt} (As : List Int32) {r1 : Option Value} {h1 : AH} {CN : String} {T : u_T} {N : Nat} (hM : AR l y M' (.ref z :: As.map Value.int) Γ h (r1, Γ, h1)) (hc : am_CC y M' ar) (hl0 : Cond.methodLink R_law idx y ∈ am_T) (hi : Cond.instanceMethod y ∈ am_T) (hs : Cond.selects CN y y ∈ am_T) (hv : vwCl[ci]? = some (CN, T, N)) (hc10 : ci < 10) (hR : M'.2.2.2.2.2.1.frames + 1 ≤ room_1.frames ∧ 8 + (M'.2.1 + 11) + M'.2.2.2.2.2.1.locals ≤ room_1.locals) (hm : M'.2.2.2.2.2.2.1 = 0 ∧ M'.2.2.2.2.2.2.2.1 = 0) (hkn : k ≤ room_1.cells ∧ n ≤ room_1.slots)
    (hd : decode code pc = .ok (.invokevirtual idx, 3)) (hq : pc + 3 = q) (hk : Γ[z]? = some (ci, nb)) (hn : As.length = ar) (hst : (st.map fun v => v.category).sum ≤ 8) (hr : ∀ b base : Nat, r1.map (am_v base) = r1.map (lm_v b base)) {st0 : List Value} (hs0 : st0 = (As.map Value.int).reverse ++ .ref z :: st)
    (kk : AL l Ln xs k n q i (r1.toList ++ st) Γ h1) : AL l Ln xs k n pc i st0 Γ h := by
  subst hq
  subst hs0
  intro p e s m below meth c b D cI cF H locs ls C hK hN hW hS hl
  have hts : ∀ w ∈ am_T, w.before #[Value.ref b] s = true := fun w hw => C.2.2.2.2.2.1 w (am_T_in hw)
  refine am_sz (fun hu => ?_)
  have hpre : ∀ U : State, U.heap = H → s.WarmedH U.vm → am_Pc s.heap.size D cI cF Γ h (.ref z :: As.map Value.int) (((.ref z :: As.map Value.int)).map (am_v s.heap.size)).toArray U := by
    intro U hU hWm
    refine ⟨rfl, va_K.moved hWm.alike hK, hN.warm hWm, ?_, by rw [hU]; exact hW⟩
    rw [hU]
    exact am_size hW hS (Nat.le_refl _) hu
  have hrc : ∃ cellB : Cell, H[s.heap.size + z]? = some cellB ∧ cellB.vm.isStatics = false ∧ s.vm.findClass CN = some cellB.cls := va_recv hK hW.2 hv (by rw [am_at hk, am_cell_O hc10])
  have cb : CallB room_1 s #[Value.ref b] R_law idx y M'.1 M'.2.1 M'.2.2.1 (.code y M'.1 M'.2.1 M'.2.2.1 :: am_T) M'.2.2.2.2.2.1 M'.2.2.2.2.2.2.1 M'.2.2.2.2.2.2.2.1 ar := callB_of ar hts (am_goodc hc) rfl hc.2.2.2.1 hc.2.2.2.2 (hts _ hc.2.1) (hts _ hl0) hc.2.2.1 ⟨hR.1, hR.2⟩
  have hroom : 2 * (F0 m pc ls (((As.map Value.int).reverse ++ .ref z :: st).map (lm_v b s.heap.size))).monitorRoom + ((st.map (lm_v b s.heap.size)).map fun v => v.category).sum ≤ 8 := by
    rw [lm_cats]
    show 2 * 0 + (st.map fun v => v.category).sum ≤ 8
    omega
  have run := va_runV (H := H) (locs := locs) (cells := k) (slots := n) (rest := st.map (lm_v b s.heap.size)) (below := below) (meth := meth) (e := e) (g := F0 m pc ls (((As.map Value.int).reverse ++ .ref z :: st).map (lm_v b s.heap.size))) (b := s.heap.size + z) (As := (As.map Value.int).map (am_v s.heap.size)) ⟨C.1, C.2.1, C.2.2.2.1, C.2.2.2.2.1, hts⟩ (hM s.heap.size D cI cF) ⟨cb, hts _ hi, hts _ hs⟩ ⟨am_blind, hrc, hpre⟩ rfl (by simpa using hn) hl.1 (by rw [am_ints, List.map_append, List.map_reverse, lm_ints]; rfl) hroom hd (by rw [hm.1, hm.2]; exact hkn)
  rw [hm.1, hm.2] at run
  refine am_cont run hS rfl (fun H1 locs1 a0 a1 a2 => ?_)
  have := kk p e s m below meth c b D cI cF H1 locs1 ls C hK hN a1 a2 hl
  rw [List.map_append] at this
  have e1 : (r1.map (am_v s.heap.size)).toList = r1.toList.map (lm_v b s.heap.size) := by rw [hr b]; cases r1 <;> rfl
  rw [e1]
  exact this
end ALR
/-- a call of both, by the script -/
def stepL (xs : Nat → Int32) (i : Nat) (h : AH) : Option (Bool × AH) :=
  if xs i &&& nI 31 = nI 0 then am_bind (fX8_feed GG 0 (xs (i + 1)) (xs (i + 2)) (xs (i + 3)) (xs (i + 4)) (xs (i + 5)) h) fun r1 h1 => am_bind (fX9_feed GG 119 (xs (i + 1)) (xs (i + 2)) (xs (i + 3)) (xs (i + 4)) (xs (i + 5)) h1) fun r2 h2 => some (decide (r1 = r2), h2)
  else
  if xs i &&& nI 31 = nI 1 then am_bind (fX8_end GG 0 (xs (i + 1)) h) fun r1 h1 => am_bind (fX9_end GG 119 (xs (i + 1)) h1) fun r2 h2 => some (decide (r1 = r2), h2)
  else
  if xs i &&& nI 31 = nI 2 then am_bind (fX8_out GG 0 (xs (i + 1)) h) fun r1 h1 => am_bind (fX9_out GG 119 (xs (i + 1)) h1) fun r2 h2 => some (decide (r1 = r2), h2)
  else
  if xs i &&& nI 31 = nI 3 then am_bind (fX8_back GG 0 h) fun r1 h1 => am_bind (fX9_back GG 119 h1) fun r2 h2 => some (decide (r1 = r2), h2)
  else
  if xs i &&& nI 31 = nI 4 then am_bind (fX8_story GG 0 h) fun r1 h1 => am_bind (fX9_story GG 119 h1) fun r2 h2 => some (decide (r1 = r2), h2)
  else
  if xs i &&& nI 31 = nI 5 then am_bind (fX8_poke GG 0 (xs (i + 1)) (xs (i + 2)) h) fun r1 h1 => am_bind (fX9_poke GG 119 (xs (i + 1)) (xs (i + 2)) h1) fun r2 h2 => some (decide (r1 = r2), h2)
  else
  if xs i &&& nI 31 = nI 6 then am_bind (fX8_peek GG 0 (xs (i + 1)) h) fun r1 h1 => am_bind (fX9_peek GG 119 (xs (i + 1)) h1) fun r2 h2 => some (decide (r1 = r2), h2)
  else
  if xs i &&& nI 31 = nI 7 then am_bind (fX8_jump GG 0 (xs (i + 1)) h) fun r1 h1 => am_bind (fX9_jump GG 119 (xs (i + 1)) h1) fun r2 h2 => some (decide (r1 = r2), h2)
  else
  if xs i &&& nI 31 = nI 8 then am_bind (fX8_call GG 0 (xs (i + 1)) (xs (i + 2)) (xs (i + 3)) (xs (i + 4)) h) fun r1 h1 => am_bind (fX9_call GG 119 (xs (i + 1)) (xs (i + 2)) (xs (i + 3)) (xs (i + 4)) h1) fun r2 h2 => some (decide (r1 = r2), h2)
  else
  if xs i &&& nI 31 = nI 9 then am_bind (fX8_leave GG 0 h) fun r1 h1 => am_bind (fX9_leave GG 119 h1) fun r2 h2 => some (decide (r1 = r2), h2)
  else
  if xs i &&& nI 31 = nI 10 then am_bind (fX8_local GG 0 (xs (i + 1)) (xs (i + 2)) h) fun r1 h1 => am_bind (fX9_local GG 119 (xs (i + 1)) (xs (i + 2)) h1) fun r2 h2 => some (decide (r1 = r2), h2)
  else
  if xs i &&& nI 31 = nI 11 then am_bind (fX8_push GG 0 (xs (i + 1)) h) fun r1 h1 => am_bind (fX9_push GG 119 (xs (i + 1)) h1) fun r2 h2 => some (decide (r1 = r2), h2)
  else
  if xs i &&& nI 31 = nI 12 then am_bind (fX8_pop GG 0 h) fun r1 h1 => am_bind (fX9_pop GG 119 h1) fun r2 h2 => some (decide (r1 = r2), h2)
  else
  if xs i &&& nI 31 = nI 13 then am_bind (fX8_frame GG 0 (xs (i + 1)) (xs (i + 2)) h) fun r1 h1 => am_bind (fX9_frame GG 119 (xs (i + 1)) (xs (i + 2)) h1) fun r2 h2 => some (decide (r1 = r2), h2)
  else
  if xs i &&& nI 31 = nI 14 then am_bind (fX8_print GG 0 h) fun r1 h1 => am_bind (fX9_print GG 119 h1) fun r2 h2 => some (decide (r1 = r2), h2)
  else
  if xs i &&& nI 31 = nI 15 then if xs (i + 1) = 0 then am_bind (fX8_save GG 0 (nI 0) h) fun r1 h1 => am_bind (fX9_save GG 119 (nI 0) h1) fun r2 h2 => some (decide (r1 = r2), h2) else am_bind (fX8_save GG 0 (nI 1) h) fun r1 h1 => am_bind (fX9_save GG 119 (nI 1) h1) fun r2 h2 => some (decide (r1 = r2), h2)
  else
  if xs i &&& nI 31 = nI 16 then am_bind (fX8_restore GG 0 h) fun r1 h1 => am_bind (fX9_restore GG 119 h1) fun r2 h2 => some (decide (r1 = r2), h2)
  else
  if xs i &&& nI 31 = nI 17 then am_bind (fX8_why GG 0 (xs (i + 1)) h) fun r1 h1 => am_bind (fX9_why GG 119 (xs (i + 1)) h1) fun r2 h2 => some (decide (r1 = r2), h2)
  else
  if xs i &&& nI 31 = nI 18 then am_bind (fX8_chunk GG 0 (xs (i + 1)) (xs (i + 2)) h) fun r1 h1 => am_bind (fX9_chunk GG 119 (xs (i + 1)) (xs (i + 2)) h1) fun r2 h2 => some (decide (r1 = r2), h2)
  else
  if xs i &&& nI 31 = nI 19 then am_bind (fX8_write GG 0 h) fun r1 h1 => am_bind (fX9_write GG 119 h1) fun r2 h2 => some (decide (r1 = r2), h2)
  else
  if xs i &&& nI 31 = nI 20 then am_bind (fX8_cut GG 0 (xs (i + 1)) h) fun r1 h1 => am_bind (fX9_cut GG 119 (xs (i + 1)) h1) fun r2 h2 => some (decide (r1 = r2), h2)
  else
  if xs i &&& nI 31 = nI 21 then am_bind (fX8_load GG 0 h) fun r1 h1 => am_bind (fX9_load GG 119 h1) fun r2 h2 => some (decide (r1 = r2), h2)
  else
  if xs i &&& nI 31 = nI 22 then am_bind (fX8_keep GG 0 h) fun r1 h1 => am_bind (fX9_keep GG 119 h1) fun r2 h2 => some (decide (r1 = r2), h2)
  else
  if xs i &&& nI 31 = nI 23 then am_bind (fX8_undo GG 0 h) fun r1 h1 => am_bind (fX9_undo GG 119 h1) fun r2 h2 => some (decide (r1 = r2), h2)
  else
  if xs i &&& nI 31 = nI 24 then am_bind (fX8_bound GG 0 (xs (i + 1)) h) fun r1 h1 => am_bind (fX9_bound GG 119 (xs (i + 1)) h1) fun r2 h2 => some (decide (r1 = r2), h2)
  else
  if xs i &&& nI 31 = nI 25 then am_bind (fX8_restart GG 0 h) fun r1 h1 => am_bind (fX9_restart GG 119 h1) fun r2 h2 => some (decide (r1 = r2), h2)
  else
  if xs i &&& nI 31 = nI 26 then am_bind (fX8_told GG 0 (xs (i + 1)) h) fun r1 h1 => am_bind (fX9_told GG 119 (xs (i + 1)) h1) fun r2 h2 => some (decide (r1 = r2), h2)
  else
  some (true, h)

theorem lw_in {L j : Nat} {c : Nat} (hL : L ≤ 3072) (hj : j + c < L) : vp_in (nI j + nI c) L := by
  rw [nI_add]
  exact vp_in_nI hj (by omega)
theorem lw_ix {L j : Nat} {c : Nat} {xs : Nat → Int32} (hL : L ≤ 3072) (hj : j + c < L) : xs (nI j + nI c).toNatClampNeg = xs (j + c) := by
  rw [nI_add, nI_clamp (by omega)]
theorem lw_cmp {a b : Int64} (h : a = b) : lg_cmp a b = 0 := by
  subst h
  simp [lg_cmp]
theorem lw_gt {L i : Nat} (hL : L ≤ 3072) (hi : i ≤ L) : nI L - nI 6 < nI i ↔ L < i + 6 := by
  rw [Int32.lt_iff_toInt_lt, pk_sub_toInt (by omega) (by decide), nI_toInt (by omega)]
  omega
set_option maxRecDepth 100000 in
set_option maxHeartbeats 40000000 in
theorem law_loop (l : Launch) {L : Nat} {xs : Nat → Int32} (hL : L ≤ 3072) (Inv : AH → Prop) (hstep : ∀ (i : Nat) (h : AH), i + 6 ≤ L → Inv h → ∃ h2, stepL xs i h = some (true, h2) ∧ Inv h2) : ∀ (z i : Nat) (h : AH), i ≤ L → L < i + 6 * z → Inv h → AL l L xs 135 95256 18 (nI i) [] GG h := by
  have k0 : GG[0]? = some (8, 0) := rfl
  have k119 : GG[119]? = some (9, 0) := rfl
  intro z
  induction z with
  | zero => intro i h h1 h2; omega
  | succ z ih =>
    intro i h hi hz hI
    refine L_iload3 dL_law_18 rfl ?_
    refine L_aload0 dL_law_19 rfl ?_
    refine L_slen dL_law_20 rfl ?_
    refine L_bipush (v := nI 6) dL_law_21 rfl (by decide) ?_
    refine L_isub dL_law_23 rfl ?_
    by_cases hlt : L < i + 6
    · refine L_icmp_gt_t (t := 800) dL_law_24 rfl ((lw_gt hL hi).mpr hlt) ?_
      refine L_iconst (v := 1) dL_law_800 rfl (by decide) ?_
      exact L_end dL_law_801 (by decide) (by decide)
    · refine L_icmp_gt_f (t := 800) dL_law_24 rfl rfl (fun q => hlt ((lw_gt hL hi).mp q)) ?_
      have hi6 : i + 6 ≤ L := by omega
      obtain ⟨hh, hs, hI2⟩ := hstep i h hi6 hI
      have fin : AL l L xs 135 95256 794 (nI i) [] GG hh := by
        refine L_iinc (v := nI (i + 6)) dL_law_794 rfl (by rw [← nI_add]; rfl) ?_
        refine L_goto (t := 18) dL_law_797 rfl ?_
        exact ih (i + 6) hh hi6 (by omega) hI2
      refine L_aload0 dL_law_27 rfl ?_
      refine L_iload3 dL_law_28 rfl ?_
      refine L_sld (x := xs i) dL_law_29 rfl (vp_in_nI (by omega) (by omega)) (by rw [nI_clamp (by omega)]) ?_
      refine L_bipush (v := nI 31) dL_law_30 rfl (by decide) ?_
      refine L_iand dL_law_32 rfl ?_
      unfold stepL at hs
      refine am_if hs (fun hx hs => ?_) (fun hx0 hs => ?_)
      · refine L_tswIn (c' := nI 0) (off := 123) (t := 156) dL_law_33 hx (by decide) (by decide) (by decide) rfl ?_
        obtain ⟨r1, h1, hc1, hs⟩ := am_bind_some hs
        obtain ⟨r2, h2, hc2, hs⟩ := am_bind_some hs
        obtain ⟨hr, rfl⟩ : r1 = r2 ∧ h2 = hh := by simpa using hs
        refine L_aload1 dL_law_156 rfl ?_
        refine L_aload0 dL_law_157 rfl ?_
        refine L_iload3 dL_law_158 rfl ?_
        refine L_iconst (v := nI 1) dL_law_159 rfl (by decide) ?_
        refine L_iadd dL_law_160 rfl ?_
        refine L_sld (x := xs (i + 1)) dL_law_161 rfl (lw_in hL (by omega)) (lw_ix hL (by omega)) ?_
        refine L_aload0 dL_law_162 rfl ?_
        refine L_iload3 dL_law_163 rfl ?_
        refine L_iconst (v := nI 2) dL_law_164 rfl (by decide) ?_
        refine L_iadd dL_law_165 rfl ?_
        refine L_sld (x := xs (i + 2)) dL_law_166 rfl (lw_in hL (by omega)) (lw_ix hL (by omega)) ?_
        refine L_aload0 dL_law_167 rfl ?_
        refine L_iload3 dL_law_168 rfl ?_
        refine L_iconst (v := nI 3) dL_law_169 rfl (by decide) ?_
        refine L_iadd dL_law_170 rfl ?_
        refine L_sld (x := xs (i + 3)) dL_law_171 rfl (lw_in hL (by omega)) (lw_ix hL (by omega)) ?_
        refine L_aload0 dL_law_172 rfl ?_
        refine L_iload3 dL_law_173 rfl ?_
        refine L_iconst (v := nI 4) dL_law_174 rfl (by decide) ?_
        refine L_iadd dL_law_175 rfl ?_
        refine L_sld (x := xs (i + 4)) dL_law_176 rfl (lw_in hL (by omega)) (lw_ix hL (by omega)) ?_
        refine L_aload0 dL_law_177 rfl ?_
        refine L_iload3 dL_law_178 rfl ?_
        refine L_iconst (v := nI 5) dL_law_179 rfl (by decide) ?_
        refine L_iadd dL_law_180 rfl ?_
        refine L_sld (x := xs (i + 5)) dL_law_181 rfl (lw_in hL (by omega)) (lw_ix hL (by omega)) ?_
        refine L_call [xs (i + 1), xs (i + 2), xs (i + 3), xs (i + 4), xs (i + 5)] (r1 := some (.int r1)) (h1 := h1) (sX8_feed l k0 hc1) ccX8_feed tw_277 tw_278 tw_279 (ci := 8) rfl (by decide) ⟨Nat.le_of_ble_eq_true rfl, Nat.le_of_ble_eq_true rfl⟩ ⟨rfl, rfl⟩ ⟨Nat.le_of_ble_eq_true rfl, Nat.le_of_ble_eq_true rfl⟩ dL_law_182 rfl k0 rfl (Nat.le_of_ble_eq_true rfl) (fun _ _ => rfl) rfl ?_
        refine L_aload2 dL_law_185 rfl ?_
        refine L_aload0 dL_law_186 rfl ?_
        refine L_iload3 dL_law_187 rfl ?_
        refine L_iconst (v := nI 1) dL_law_188 rfl (by decide) ?_
        refine L_iadd dL_law_189 rfl ?_
        refine L_sld (x := xs (i + 1)) dL_law_190 rfl (lw_in hL (by omega)) (lw_ix hL (by omega)) ?_
        refine L_aload0 dL_law_191 rfl ?_
        refine L_iload3 dL_law_192 rfl ?_
        refine L_iconst (v := nI 2) dL_law_193 rfl (by decide) ?_
        refine L_iadd dL_law_194 rfl ?_
        refine L_sld (x := xs (i + 2)) dL_law_195 rfl (lw_in hL (by omega)) (lw_ix hL (by omega)) ?_
        refine L_aload0 dL_law_196 rfl ?_
        refine L_iload3 dL_law_197 rfl ?_
        refine L_iconst (v := nI 3) dL_law_198 rfl (by decide) ?_
        refine L_iadd dL_law_199 rfl ?_
        refine L_sld (x := xs (i + 3)) dL_law_200 rfl (lw_in hL (by omega)) (lw_ix hL (by omega)) ?_
        refine L_aload0 dL_law_201 rfl ?_
        refine L_iload3 dL_law_202 rfl ?_
        refine L_iconst (v := nI 4) dL_law_203 rfl (by decide) ?_
        refine L_iadd dL_law_204 rfl ?_
        refine L_sld (x := xs (i + 4)) dL_law_205 rfl (lw_in hL (by omega)) (lw_ix hL (by omega)) ?_
        refine L_aload0 dL_law_206 rfl ?_
        refine L_iload3 dL_law_207 rfl ?_
        refine L_iconst (v := nI 5) dL_law_208 rfl (by decide) ?_
        refine L_iadd dL_law_209 rfl ?_
        refine L_sld (x := xs (i + 5)) dL_law_210 rfl (lw_in hL (by omega)) (lw_ix hL (by omega)) ?_
        refine L_call [xs (i + 1), xs (i + 2), xs (i + 3), xs (i + 4), xs (i + 5)] (r1 := some (.int r2)) (h1 := h2) (sX9_feed l k119 hc2) ccX9_feed tw_807 tw_808 tw_809 (ci := 9) rfl (by decide) ⟨Nat.le_of_ble_eq_true rfl, Nat.le_of_ble_eq_true rfl⟩ ⟨rfl, rfl⟩ ⟨Nat.le_of_ble_eq_true rfl, Nat.le_of_ble_eq_true rfl⟩ dL_law_211 rfl k119 rfl (Nat.le_of_ble_eq_true rfl) (fun _ _ => rfl) rfl ?_
        refine L_icmp_eq_t (t := 794) dL_law_214 rfl hr ?_
        exact fin
      refine am_if hs (fun hx hs => ?_) (fun hx1 hs => ?_)
      · refine L_tswIn (c' := nI 1) (off := 186) (t := 219) dL_law_33 hx (by decide) (by decide) (by decide) rfl ?_
        obtain ⟨r1, h1, hc1, hs⟩ := am_bind_some hs
        obtain ⟨r2, h2, hc2, hs⟩ := am_bind_some hs
        obtain ⟨hr, rfl⟩ : r1 = r2 ∧ h2 = hh := by simpa using hs
        refine L_aload1 dL_law_219 rfl ?_
        refine L_aload0 dL_law_220 rfl ?_
        refine L_iload3 dL_law_221 rfl ?_
        refine L_iconst (v := nI 1) dL_law_222 rfl (by decide) ?_
        refine L_iadd dL_law_223 rfl ?_
        refine L_sld (x := xs (i + 1)) dL_law_224 rfl (lw_in hL (by omega)) (lw_ix hL (by omega)) ?_
        refine L_call [xs (i + 1)] (r1 := some (.int r1)) (h1 := h1) (sX8_end l k0 hc1) ccX8_end tw_293 tw_294 tw_295 (ci := 8) rfl (by decide) ⟨Nat.le_of_ble_eq_true rfl, Nat.le_of_ble_eq_true rfl⟩ ⟨rfl, rfl⟩ ⟨Nat.le_of_ble_eq_true rfl, Nat.le_of_ble_eq_true rfl⟩ dL_law_225 rfl k0 rfl (Nat.le_of_ble_eq_true rfl) (fun _ _ => rfl) rfl ?_
        refine L_aload2 dL_law_228 rfl ?_
        refine L_aload0 dL_law_229 rfl ?_
        refine L_iload3 dL_law_230 rfl ?_
        refine L_iconst (v := nI 1) dL_law_231 rfl (by decide) ?_
        refine L_iadd dL_law_232 rfl ?_
        refine L_sld (x := xs (i + 1)) dL_law_233 rfl (lw_in hL (by omega)) (lw_ix hL (by omega)) ?_
        refine L_call [xs (i + 1)] (r1 := some (.int r2)) (h1 := h2) (sX9_end l k119 hc2) ccX9_end tw_815 tw_816 tw_817 (ci := 9) rfl (by decide) ⟨Nat.le_of_ble_eq_true rfl, Nat.le_of_ble_eq_true rfl⟩ ⟨rfl, rfl⟩ ⟨Nat.le_of_ble_eq_true rfl, Nat.le_of_ble_eq_true rfl⟩ dL_law_234 rfl k119 rfl (Nat.le_of_ble_eq_true rfl) (fun _ _ => rfl) rfl ?_
        refine L_icmp_eq_t (t := 794) dL_law_237 rfl hr ?_
        exact fin
      refine am_if hs (fun hx hs => ?_) (fun hx2 hs => ?_)
      · refine L_tswIn (c' := nI 2) (off := 209) (t := 242) dL_law_33 hx (by decide) (by decide) (by decide) rfl ?_
        obtain ⟨r1, h1, hc1, hs⟩ := am_bind_some hs
        obtain ⟨r2, h2, hc2, hs⟩ := am_bind_some hs
        obtain ⟨hr, rfl⟩ : r1 = r2 ∧ h2 = hh := by simpa using hs
        refine L_aload1 dL_law_242 rfl ?_
        refine L_aload0 dL_law_243 rfl ?_
        refine L_iload3 dL_law_244 rfl ?_
        refine L_iconst (v := nI 1) dL_law_245 rfl (by decide) ?_
        refine L_iadd dL_law_246 rfl ?_
        refine L_sld (x := xs (i + 1)) dL_law_247 rfl (lw_in hL (by omega)) (lw_ix hL (by omega)) ?_
        refine L_call [xs (i + 1)] (r1 := some (.int r1)) (h1 := h1) (sX8_out l k0 hc1) ccX8_out tw_304 tw_305 tw_306 (ci := 8) rfl (by decide) ⟨Nat.le_of_ble_eq_true rfl, Nat.le_of_ble_eq_true rfl⟩ ⟨rfl, rfl⟩ ⟨Nat.le_of_ble_eq_true rfl, Nat.le_of_ble_eq_true rfl⟩ dL_law_248 rfl k0 rfl (Nat.le_of_ble_eq_true rfl) (fun _ _ => rfl) rfl ?_
        refine L_aload2 dL_law_251 rfl ?_
        refine L_aload0 dL_law_252 rfl ?_
        refine L_iload3 dL_law_253 rfl ?_
        refine L_iconst (v := nI 1) dL_law_254 rfl (by decide) ?_
        refine L_iadd dL_law_255 rfl ?_
        refine L_sld (x := xs (i + 1)) dL_law_256 rfl (lw_in hL (by omega)) (lw_ix hL (by omega)) ?_
        refine L_call [xs (i + 1)] (r1 := some (.int r2)) (h1 := h2) (sX9_out l k119 hc2) ccX9_out tw_822 tw_823 tw_824 (ci := 9) rfl (by decide) ⟨Nat.le_of_ble_eq_true rfl, Nat.le_of_ble_eq_true rfl⟩ ⟨rfl, rfl⟩ ⟨Nat.le_of_ble_eq_true rfl, Nat.le_of_ble_eq_true rfl⟩ dL_law_257 rfl k119 rfl (Nat.le_of_ble_eq_true rfl) (fun _ _ => rfl) rfl ?_
        refine L_icmp_eq_t (t := 794) dL_law_260 rfl hr ?_
        exact fin
      refine am_if hs (fun hx hs => ?_) (fun hx3 hs => ?_)
      · refine L_tswIn (c' := nI 3) (off := 232) (t := 265) dL_law_33 hx (by decide) (by decide) (by decide) rfl ?_
        obtain ⟨r1, h1, hc1, hs⟩ := am_bind_some hs
        obtain ⟨r2, h2, hc2, hs⟩ := am_bind_some hs
        obtain ⟨hr, rfl⟩ : r1 = r2 ∧ h2 = hh := by simpa using hs
        refine L_aload1 dL_law_265 rfl ?_
        refine L_call [] (r1 := some (.int r1)) (h1 := h1) (sX8_back l k0 hc1) ccX8_back tw_312 tw_313 tw_314 (ci := 8) rfl (by decide) ⟨Nat.le_of_ble_eq_true rfl, Nat.le_of_ble_eq_true rfl⟩ ⟨rfl, rfl⟩ ⟨Nat.le_of_ble_eq_true rfl, Nat.le_of_ble_eq_true rfl⟩ dL_law_266 rfl k0 rfl (Nat.le_of_ble_eq_true rfl) (fun _ _ => rfl) rfl ?_
        refine L_aload2 dL_law_269 rfl ?_
        refine L_call [] (r1 := some (.int r2)) (h1 := h2) (sX9_back l k119 hc2) ccX9_back tw_826 tw_827 tw_828 (ci := 9) rfl (by decide) ⟨Nat.le_of_ble_eq_true rfl, Nat.le_of_ble_eq_true rfl⟩ ⟨rfl, rfl⟩ ⟨Nat.le_of_ble_eq_true rfl, Nat.le_of_ble_eq_true rfl⟩ dL_law_270 rfl k119 rfl (Nat.le_of_ble_eq_true rfl) (fun _ _ => rfl) rfl ?_
        refine L_icmp_eq_t (t := 794) dL_law_273 rfl hr ?_
        exact fin
      refine am_if hs (fun hx hs => ?_) (fun hx4 hs => ?_)
      · refine L_tswIn (c' := nI 4) (off := 245) (t := 278) dL_law_33 hx (by decide) (by decide) (by decide) rfl ?_
        obtain ⟨r1, h1, hc1, hs⟩ := am_bind_some hs
        obtain ⟨r2, h2, hc2, hs⟩ := am_bind_some hs
        obtain ⟨hr, rfl⟩ : r1 = r2 ∧ h2 = hh := by simpa using hs
        refine L_aload1 dL_law_278 rfl ?_
        refine L_call [] (r1 := some (.int r1)) (h1 := h1) (sX8_story l k0 hc1) ccX8_story tw_336 tw_337 tw_338 (ci := 8) rfl (by decide) ⟨Nat.le_of_ble_eq_true rfl, Nat.le_of_ble_eq_true rfl⟩ ⟨rfl, rfl⟩ ⟨Nat.le_of_ble_eq_true rfl, Nat.le_of_ble_eq_true rfl⟩ dL_law_279 rfl k0 rfl (Nat.le_of_ble_eq_true rfl) (fun _ _ => rfl) rfl ?_
        refine L_aload2 dL_law_282 rfl ?_
        refine L_call [] (r1 := some (.int r2)) (h1 := h2) (sX9_story l k119 hc2) ccX9_story tw_830 tw_831 tw_832 (ci := 9) rfl (by decide) ⟨Nat.le_of_ble_eq_true rfl, Nat.le_of_ble_eq_true rfl⟩ ⟨rfl, rfl⟩ ⟨Nat.le_of_ble_eq_true rfl, Nat.le_of_ble_eq_true rfl⟩ dL_law_283 rfl k119 rfl (Nat.le_of_ble_eq_true rfl) (fun _ _ => rfl) rfl ?_
        refine L_icmp_eq_t (t := 794) dL_law_286 rfl hr ?_
        exact fin
      refine am_if hs (fun hx hs => ?_) (fun hx5 hs => ?_)
      · refine L_tswIn (c' := nI 5) (off := 258) (t := 291) dL_law_33 hx (by decide) (by decide) (by decide) rfl ?_
        obtain ⟨r1, h1, hc1, hs⟩ := am_bind_some hs
        obtain ⟨r2, h2, hc2, hs⟩ := am_bind_some hs
        obtain ⟨hr, rfl⟩ : r1 = r2 ∧ h2 = hh := by simpa using hs
        refine L_aload1 dL_law_291 rfl ?_
        refine L_aload0 dL_law_292 rfl ?_
        refine L_iload3 dL_law_293 rfl ?_
        refine L_iconst (v := nI 1) dL_law_294 rfl (by decide) ?_
        refine L_iadd dL_law_295 rfl ?_
        refine L_sld (x := xs (i + 1)) dL_law_296 rfl (lw_in hL (by omega)) (lw_ix hL (by omega)) ?_
        refine L_aload0 dL_law_297 rfl ?_
        refine L_iload3 dL_law_298 rfl ?_
        refine L_iconst (v := nI 2) dL_law_299 rfl (by decide) ?_
        refine L_iadd dL_law_300 rfl ?_
        refine L_sld (x := xs (i + 2)) dL_law_301 rfl (lw_in hL (by omega)) (lw_ix hL (by omega)) ?_
        refine L_call [xs (i + 1), xs (i + 2)] (r1 := some (.int r1)) (h1 := h1) (sX8_poke l k0 hc1) ccX8_poke tw_380 tw_381 tw_382 (ci := 8) rfl (by decide) ⟨Nat.le_of_ble_eq_true rfl, Nat.le_of_ble_eq_true rfl⟩ ⟨rfl, rfl⟩ ⟨Nat.le_of_ble_eq_true rfl, Nat.le_of_ble_eq_true rfl⟩ dL_law_302 rfl k0 rfl (Nat.le_of_ble_eq_true rfl) (fun _ _ => rfl) rfl ?_
        refine L_aload2 dL_law_305 rfl ?_
        refine L_aload0 dL_law_306 rfl ?_
        refine L_iload3 dL_law_307 rfl ?_
        refine L_iconst (v := nI 1) dL_law_308 rfl (by decide) ?_
        refine L_iadd dL_law_309 rfl ?_
        refine L_sld (x := xs (i + 1)) dL_law_310 rfl (lw_in hL (by omega)) (lw_ix hL (by omega)) ?_
        refine L_aload0 dL_law_311 rfl ?_
        refine L_iload3 dL_law_312 rfl ?_
        refine L_iconst (v := nI 2) dL_law_313 rfl (by decide) ?_
        refine L_iadd dL_law_314 rfl ?_
        refine L_sld (x := xs (i + 2)) dL_law_315 rfl (lw_in hL (by omega)) (lw_ix hL (by omega)) ?_
        refine L_call [xs (i + 1), xs (i + 2)] (r1 := some (.int r2)) (h1 := h2) (sX9_poke l k119 hc2) ccX9_poke tw_838 tw_839 tw_840 (ci := 9) rfl (by decide) ⟨Nat.le_of_ble_eq_true rfl, Nat.le_of_ble_eq_true rfl⟩ ⟨rfl, rfl⟩ ⟨Nat.le_of_ble_eq_true rfl, Nat.le_of_ble_eq_true rfl⟩ dL_law_316 rfl k119 rfl (Nat.le_of_ble_eq_true rfl) (fun _ _ => rfl) rfl ?_
        refine L_icmp_eq_t (t := 794) dL_law_319 rfl hr ?_
        exact fin
      refine am_if hs (fun hx hs => ?_) (fun hx6 hs => ?_)
      · refine L_tswIn (c' := nI 6) (off := 291) (t := 324) dL_law_33 hx (by decide) (by decide) (by decide) rfl ?_
        obtain ⟨r1, h1, hc1, hs⟩ := am_bind_some hs
        obtain ⟨r2, h2, hc2, hs⟩ := am_bind_some hs
        obtain ⟨hr, rfl⟩ : r1 = r2 ∧ h2 = hh := by simpa using hs
        refine L_aload1 dL_law_324 rfl ?_
        refine L_aload0 dL_law_325 rfl ?_
        refine L_iload3 dL_law_326 rfl ?_
        refine L_iconst (v := nI 1) dL_law_327 rfl (by decide) ?_
        refine L_iadd dL_law_328 rfl ?_
        refine L_sld (x := xs (i + 1)) dL_law_329 rfl (lw_in hL (by omega)) (lw_ix hL (by omega)) ?_
        refine L_call [xs (i + 1)] (r1 := some (.int r1)) (h1 := h1) (sX8_peek l k0 hc1) ccX8_peek tw_393 tw_394 tw_395 (ci := 8) rfl (by decide) ⟨Nat.le_of_ble_eq_true rfl, Nat.le_of_ble_eq_true rfl⟩ ⟨rfl, rfl⟩ ⟨Nat.le_of_ble_eq_true rfl, Nat.le_of_ble_eq_true rfl⟩ dL_law_330 rfl k0 rfl (Nat.le_of_ble_eq_true rfl) (fun _ _ => rfl) rfl ?_
        refine L_aload2 dL_law_333 rfl ?_
        refine L_aload0 dL_law_334 rfl ?_
        refine L_iload3 dL_law_335 rfl ?_
        refine L_iconst (v := nI 1) dL_law_336 rfl (by decide) ?_
        refine L_iadd dL_law_337 rfl ?_
        refine L_sld (x := xs (i + 1)) dL_law_338 rfl (lw_in hL (by omega)) (lw_ix hL (by omega)) ?_
        refine L_call [xs (i + 1)] (r1 := some (.int r2)) (h1 := h2) (sX9_peek l k119 hc2) ccX9_peek tw_842 tw_843 tw_844 (ci := 9) rfl (by decide) ⟨Nat.le_of_ble_eq_true rfl, Nat.le_of_ble_eq_true rfl⟩ ⟨rfl, rfl⟩ ⟨Nat.le_of_ble_eq_true rfl, Nat.le_of_ble_eq_true rfl⟩ dL_law_339 rfl k119 rfl (Nat.le_of_ble_eq_true rfl) (fun _ _ => rfl) rfl ?_
        refine L_icmp_eq_t (t := 794) dL_law_342 rfl hr ?_
        exact fin
      refine am_if hs (fun hx hs => ?_) (fun hx7 hs => ?_)
      · refine L_tswIn (c' := nI 7) (off := 314) (t := 347) dL_law_33 hx (by decide) (by decide) (by decide) rfl ?_
        obtain ⟨r1, h1, hc1, hs⟩ := am_bind_some hs
        obtain ⟨r2, h2, hc2, hs⟩ := am_bind_some hs
        obtain ⟨hr, rfl⟩ : r1 = r2 ∧ h2 = hh := by simpa using hs
        refine L_aload1 dL_law_347 rfl ?_
        refine L_aload0 dL_law_348 rfl ?_
        refine L_iload3 dL_law_349 rfl ?_
        refine L_iconst (v := nI 1) dL_law_350 rfl (by decide) ?_
        refine L_iadd dL_law_351 rfl ?_
        refine L_sld (x := xs (i + 1)) dL_law_352 rfl (lw_in hL (by omega)) (lw_ix hL (by omega)) ?_
        refine L_call [xs (i + 1)] (r1 := some (.int r1)) (h1 := h1) (sX8_jump l k0 hc1) ccX8_jump tw_397 tw_398 tw_399 (ci := 8) rfl (by decide) ⟨Nat.le_of_ble_eq_true rfl, Nat.le_of_ble_eq_true rfl⟩ ⟨rfl, rfl⟩ ⟨Nat.le_of_ble_eq_true rfl, Nat.le_of_ble_eq_true rfl⟩ dL_law_353 rfl k0 rfl (Nat.le_of_ble_eq_true rfl) (fun _ _ => rfl) rfl ?_
        refine L_aload2 dL_law_356 rfl ?_
        refine L_aload0 dL_law_357 rfl ?_
        refine L_iload3 dL_law_358 rfl ?_
        refine L_iconst (v := nI 1) dL_law_359 rfl (by decide) ?_
        refine L_iadd dL_law_360 rfl ?_
        refine L_sld (x := xs (i + 1)) dL_law_361 rfl (lw_in hL (by omega)) (lw_ix hL (by omega)) ?_
        refine L_call [xs (i + 1)] (r1 := some (.int r2)) (h1 := h2) (sX9_jump l k119 hc2) ccX9_jump tw_846 tw_847 tw_848 (ci := 9) rfl (by decide) ⟨Nat.le_of_ble_eq_true rfl, Nat.le_of_ble_eq_true rfl⟩ ⟨rfl, rfl⟩ ⟨Nat.le_of_ble_eq_true rfl, Nat.le_of_ble_eq_true rfl⟩ dL_law_362 rfl k119 rfl (Nat.le_of_ble_eq_true rfl) (fun _ _ => rfl) rfl ?_
        refine L_icmp_eq_t (t := 794) dL_law_365 rfl hr ?_
        exact fin
      refine am_if hs (fun hx hs => ?_) (fun hx8 hs => ?_)
      · refine L_tswIn (c' := nI 8) (off := 337) (t := 370) dL_law_33 hx (by decide) (by decide) (by decide) rfl ?_
        obtain ⟨r1, h1, hc1, hs⟩ := am_bind_some hs
        obtain ⟨r2, h2, hc2, hs⟩ := am_bind_some hs
        obtain ⟨hr, rfl⟩ : r1 = r2 ∧ h2 = hh := by simpa using hs
        refine L_aload1 dL_law_370 rfl ?_
        refine L_aload0 dL_law_371 rfl ?_
        refine L_iload3 dL_law_372 rfl ?_
        refine L_iconst (v := nI 1) dL_law_373 rfl (by decide) ?_
        refine L_iadd dL_law_374 rfl ?_
        refine L_sld (x := xs (i + 1)) dL_law_375 rfl (lw_in hL (by omega)) (lw_ix hL (by omega)) ?_
        refine L_aload0 dL_law_376 rfl ?_
        refine L_iload3 dL_law_377 rfl ?_
        refine L_iconst (v := nI 2) dL_law_378 rfl (by decide) ?_
        refine L_iadd dL_law_379 rfl ?_
        refine L_sld (x := xs (i + 2)) dL_law_380 rfl (lw_in hL (by omega)) (lw_ix hL (by omega)) ?_
        refine L_aload0 dL_law_381 rfl ?_
        refine L_iload3 dL_law_382 rfl ?_
        refine L_iconst (v := nI 3) dL_law_383 rfl (by decide) ?_
        refine L_iadd dL_law_384 rfl ?_
        refine L_sld (x := xs (i + 3)) dL_law_385 rfl (lw_in hL (by omega)) (lw_ix hL (by omega)) ?_
        refine L_aload0 dL_law_386 rfl ?_
        refine L_iload3 dL_law_387 rfl ?_
        refine L_iconst (v := nI 4) dL_law_388 rfl (by decide) ?_
        refine L_iadd dL_law_389 rfl ?_
        refine L_sld (x := xs (i + 4)) dL_law_390 rfl (lw_in hL (by omega)) (lw_ix hL (by omega)) ?_
        refine L_call [xs (i + 1), xs (i + 2), xs (i + 3), xs (i + 4)] (r1 := some (.int r1)) (h1 := h1) (sX8_call l k0 hc1) ccX8_call tw_402 tw_403 tw_404 (ci := 8) rfl (by decide) ⟨Nat.le_of_ble_eq_true rfl, Nat.le_of_ble_eq_true rfl⟩ ⟨rfl, rfl⟩ ⟨Nat.le_of_ble_eq_true rfl, Nat.le_of_ble_eq_true rfl⟩ dL_law_391 rfl k0 rfl (Nat.le_of_ble_eq_true rfl) (fun _ _ => rfl) rfl ?_
        refine L_aload2 dL_law_394 rfl ?_
        refine L_aload0 dL_law_395 rfl ?_
        refine L_iload3 dL_law_396 rfl ?_
        refine L_iconst (v := nI 1) dL_law_397 rfl (by decide) ?_
        refine L_iadd dL_law_398 rfl ?_
        refine L_sld (x := xs (i + 1)) dL_law_399 rfl (lw_in hL (by omega)) (lw_ix hL (by omega)) ?_
        refine L_aload0 dL_law_400 rfl ?_
        refine L_iload3 dL_law_401 rfl ?_
        refine L_iconst (v := nI 2) dL_law_402 rfl (by decide) ?_
        refine L_iadd dL_law_403 rfl ?_
        refine L_sld (x := xs (i + 2)) dL_law_404 rfl (lw_in hL (by omega)) (lw_ix hL (by omega)) ?_
        refine L_aload0 dL_law_405 rfl ?_
        refine L_iload3 dL_law_406 rfl ?_
        refine L_iconst (v := nI 3) dL_law_407 rfl (by decide) ?_
        refine L_iadd dL_law_408 rfl ?_
        refine L_sld (x := xs (i + 3)) dL_law_409 rfl (lw_in hL (by omega)) (lw_ix hL (by omega)) ?_
        refine L_aload0 dL_law_410 rfl ?_
        refine L_iload3 dL_law_411 rfl ?_
        refine L_iconst (v := nI 4) dL_law_412 rfl (by decide) ?_
        refine L_iadd dL_law_413 rfl ?_
        refine L_sld (x := xs (i + 4)) dL_law_414 rfl (lw_in hL (by omega)) (lw_ix hL (by omega)) ?_
        refine L_call [xs (i + 1), xs (i + 2), xs (i + 3), xs (i + 4)] (r1 := some (.int r2)) (h1 := h2) (sX9_call l k119 hc2) ccX9_call tw_851 tw_852 tw_853 (ci := 9) rfl (by decide) ⟨Nat.le_of_ble_eq_true rfl, Nat.le_of_ble_eq_true rfl⟩ ⟨rfl, rfl⟩ ⟨Nat.le_of_ble_eq_true rfl, Nat.le_of_ble_eq_true rfl⟩ dL_law_415 rfl k119 rfl (Nat.le_of_ble_eq_true rfl) (fun _ _ => rfl) rfl ?_
        refine L_icmp_eq_t (t := 794) dL_law_418 rfl hr ?_
        exact fin
      refine am_if hs (fun hx hs => ?_) (fun hx9 hs => ?_)
      · refine L_tswIn (c' := nI 9) (off := 390) (t := 423) dL_law_33 hx (by decide) (by decide) (by decide) rfl ?_
        obtain ⟨r1, h1, hc1, hs⟩ := am_bind_some hs
        obtain ⟨r2, h2, hc2, hs⟩ := am_bind_some hs
        obtain ⟨hr, rfl⟩ : r1 = r2 ∧ h2 = hh := by simpa using hs
        refine L_aload1 dL_law_423 rfl ?_
        refine L_call [] (r1 := some (.int r1)) (h1 := h1) (sX8_leave l k0 hc1) ccX8_leave tw_407 tw_408 tw_409 (ci := 8) rfl (by decide) ⟨Nat.le_of_ble_eq_true rfl, Nat.le_of_ble_eq_true rfl⟩ ⟨rfl, rfl⟩ ⟨Nat.le_of_ble_eq_true rfl, Nat.le_of_ble_eq_true rfl⟩ dL_law_424 rfl k0 rfl (Nat.le_of_ble_eq_true rfl) (fun _ _ => rfl) rfl ?_
        refine L_aload2 dL_law_427 rfl ?_
        refine L_call [] (r1 := some (.int r2)) (h1 := h2) (sX9_leave l k119 hc2) ccX9_leave tw_859 tw_860 tw_861 (ci := 9) rfl (by decide) ⟨Nat.le_of_ble_eq_true rfl, Nat.le_of_ble_eq_true rfl⟩ ⟨rfl, rfl⟩ ⟨Nat.le_of_ble_eq_true rfl, Nat.le_of_ble_eq_true rfl⟩ dL_law_428 rfl k119 rfl (Nat.le_of_ble_eq_true rfl) (fun _ _ => rfl) rfl ?_
        refine L_icmp_eq_t (t := 794) dL_law_431 rfl hr ?_
        exact fin
      refine am_if hs (fun hx hs => ?_) (fun hx10 hs => ?_)
      · refine L_tswIn (c' := nI 10) (off := 403) (t := 436) dL_law_33 hx (by decide) (by decide) (by decide) rfl ?_
        obtain ⟨r1, h1, hc1, hs⟩ := am_bind_some hs
        obtain ⟨r2, h2, hc2, hs⟩ := am_bind_some hs
        obtain ⟨hr, rfl⟩ : r1 = r2 ∧ h2 = hh := by simpa using hs
        refine L_aload1 dL_law_436 rfl ?_
        refine L_aload0 dL_law_437 rfl ?_
        refine L_iload3 dL_law_438 rfl ?_
        refine L_iconst (v := nI 1) dL_law_439 rfl (by decide) ?_
        refine L_iadd dL_law_440 rfl ?_
        refine L_sld (x := xs (i + 1)) dL_law_441 rfl (lw_in hL (by omega)) (lw_ix hL (by omega)) ?_
        refine L_aload0 dL_law_442 rfl ?_
        refine L_iload3 dL_law_443 rfl ?_
        refine L_iconst (v := nI 2) dL_law_444 rfl (by decide) ?_
        refine L_iadd dL_law_445 rfl ?_
        refine L_sld (x := xs (i + 2)) dL_law_446 rfl (lw_in hL (by omega)) (lw_ix hL (by omega)) ?_
        refine L_call [xs (i + 1), xs (i + 2)] (r1 := some (.int r1)) (h1 := h1) (sX8_local l k0 hc1) ccX8_local tw_419 tw_420 tw_421 (ci := 8) rfl (by decide) ⟨Nat.le_of_ble_eq_true rfl, Nat.le_of_ble_eq_true rfl⟩ ⟨rfl, rfl⟩ ⟨Nat.le_of_ble_eq_true rfl, Nat.le_of_ble_eq_true rfl⟩ dL_law_447 rfl k0 rfl (Nat.le_of_ble_eq_true rfl) (fun _ _ => rfl) rfl ?_
        refine L_aload2 dL_law_450 rfl ?_
        refine L_aload0 dL_law_451 rfl ?_
        refine L_iload3 dL_law_452 rfl ?_
        refine L_iconst (v := nI 1) dL_law_453 rfl (by decide) ?_
        refine L_iadd dL_law_454 rfl ?_
        refine L_sld (x := xs (i + 1)) dL_law_455 rfl (lw_in hL (by omega)) (lw_ix hL (by omega)) ?_
        refine L_aload0 dL_law_456 rfl ?_
        refine L_iload3 dL_law_457 rfl ?_
        refine L_iconst (v := nI 2) dL_law_458 rfl (by decide) ?_
        refine L_iadd dL_law_459 rfl ?_
        refine L_sld (x := xs (i + 2)) dL_law_460 rfl (lw_in hL (by omega)) (lw_ix hL (by omega)) ?_
        refine L_call [xs (i + 1), xs (i + 2)] (r1 := some (.int r2)) (h1 := h2) (sX9_local l k119 hc2) ccX9_local tw_863 tw_864 tw_865 (ci := 9) rfl (by decide) ⟨Nat.le_of_ble_eq_true rfl, Nat.le_of_ble_eq_true rfl⟩ ⟨rfl, rfl⟩ ⟨Nat.le_of_ble_eq_true rfl, Nat.le_of_ble_eq_true rfl⟩ dL_law_461 rfl k119 rfl (Nat.le_of_ble_eq_true rfl) (fun _ _ => rfl) rfl ?_
        refine L_icmp_eq_t (t := 794) dL_law_464 rfl hr ?_
        exact fin
      refine am_if hs (fun hx hs => ?_) (fun hx11 hs => ?_)
      · refine L_tswIn (c' := nI 11) (off := 436) (t := 469) dL_law_33 hx (by decide) (by decide) (by decide) rfl ?_
        obtain ⟨r1, h1, hc1, hs⟩ := am_bind_some hs
        obtain ⟨r2, h2, hc2, hs⟩ := am_bind_some hs
        obtain ⟨hr, rfl⟩ : r1 = r2 ∧ h2 = hh := by simpa using hs
        refine L_aload1 dL_law_469 rfl ?_
        refine L_aload0 dL_law_470 rfl ?_
        refine L_iload3 dL_law_471 rfl ?_
        refine L_iconst (v := nI 1) dL_law_472 rfl (by decide) ?_
        refine L_iadd dL_law_473 rfl ?_
        refine L_sld (x := xs (i + 1)) dL_law_474 rfl (lw_in hL (by omega)) (lw_ix hL (by omega)) ?_
        refine L_call [xs (i + 1)] (r1 := some (.int r1)) (h1 := h1) (sX8_push l k0 hc1) ccX8_push tw_432 tw_433 tw_434 (ci := 8) rfl (by decide) ⟨Nat.le_of_ble_eq_true rfl, Nat.le_of_ble_eq_true rfl⟩ ⟨rfl, rfl⟩ ⟨Nat.le_of_ble_eq_true rfl, Nat.le_of_ble_eq_true rfl⟩ dL_law_475 rfl k0 rfl (Nat.le_of_ble_eq_true rfl) (fun _ _ => rfl) rfl ?_
        refine L_aload2 dL_law_478 rfl ?_
        refine L_aload0 dL_law_479 rfl ?_
        refine L_iload3 dL_law_480 rfl ?_
        refine L_iconst (v := nI 1) dL_law_481 rfl (by decide) ?_
        refine L_iadd dL_law_482 rfl ?_
        refine L_sld (x := xs (i + 1)) dL_law_483 rfl (lw_in hL (by omega)) (lw_ix hL (by omega)) ?_
        refine L_call [xs (i + 1)] (r1 := some (.int r2)) (h1 := h2) (sX9_push l k119 hc2) ccX9_push tw_868 tw_869 tw_870 (ci := 9) rfl (by decide) ⟨Nat.le_of_ble_eq_true rfl, Nat.le_of_ble_eq_true rfl⟩ ⟨rfl, rfl⟩ ⟨Nat.le_of_ble_eq_true rfl, Nat.le_of_ble_eq_true rfl⟩ dL_law_484 rfl k119 rfl (Nat.le_of_ble_eq_true rfl) (fun _ _ => rfl) rfl ?_
        refine L_icmp_eq_t (t := 794) dL_law_487 rfl hr ?_
        exact fin
      refine am_if hs (fun hx hs => ?_) (fun hx12 hs => ?_)
      · refine L_tswIn (c' := nI 12) (off := 459) (t := 492) dL_law_33 hx (by decide) (by decide) (by decide) rfl ?_
        obtain ⟨r1, h1, hc1, hs⟩ := am_bind_some hs
        obtain ⟨r2, h2, hc2, hs⟩ := am_bind_some hs
        obtain ⟨hr, rfl⟩ : r1 = r2 ∧ h2 = hh := by simpa using hs
        refine L_aload1 dL_law_492 rfl ?_
        refine L_call [] (r1 := some (.int r1)) (h1 := h1) (sX8_pop l k0 hc1) ccX8_pop tw_441 tw_442 tw_443 (ci := 8) rfl (by decide) ⟨Nat.le_of_ble_eq_true rfl, Nat.le_of_ble_eq_true rfl⟩ ⟨rfl, rfl⟩ ⟨Nat.le_of_ble_eq_true rfl, Nat.le_of_ble_eq_true rfl⟩ dL_law_493 rfl k0 rfl (Nat.le_of_ble_eq_true rfl) (fun _ _ => rfl) rfl ?_
        refine L_aload2 dL_law_496 rfl ?_
        refine L_call [] (r1 := some (.int r2)) (h1 := h2) (sX9_pop l k119 hc2) ccX9_pop tw_872 tw_873 tw_874 (ci := 9) rfl (by decide) ⟨Nat.le_of_ble_eq_true rfl, Nat.le_of_ble_eq_true rfl⟩ ⟨rfl, rfl⟩ ⟨Nat.le_of_ble_eq_true rfl, Nat.le_of_ble_eq_true rfl⟩ dL_law_497 rfl k119 rfl (Nat.le_of_ble_eq_true rfl) (fun _ _ => rfl) rfl ?_
        refine L_icmp_eq_t (t := 794) dL_law_500 rfl hr ?_
        exact fin
      refine am_if hs (fun hx hs => ?_) (fun hx13 hs => ?_)
      · refine L_tswIn (c' := nI 13) (off := 472) (t := 505) dL_law_33 hx (by decide) (by decide) (by decide) rfl ?_
        obtain ⟨r1, h1, hc1, hs⟩ := am_bind_some hs
        obtain ⟨r2, h2, hc2, hs⟩ := am_bind_some hs
        obtain ⟨hr, rfl⟩ : r1 = r2 ∧ h2 = hh := by simpa using hs
        refine L_aload1 dL_law_505 rfl ?_
        refine L_aload0 dL_law_506 rfl ?_
        refine L_iload3 dL_law_507 rfl ?_
        refine L_iconst (v := nI 1) dL_law_508 rfl (by decide) ?_
        refine L_iadd dL_law_509 rfl ?_
        refine L_sld (x := xs (i + 1)) dL_law_510 rfl (lw_in hL (by omega)) (lw_ix hL (by omega)) ?_
        refine L_aload0 dL_law_511 rfl ?_
        refine L_iload3 dL_law_512 rfl ?_
        refine L_iconst (v := nI 2) dL_law_513 rfl (by decide) ?_
        refine L_iadd dL_law_514 rfl ?_
        refine L_sld (x := xs (i + 2)) dL_law_515 rfl (lw_in hL (by omega)) (lw_ix hL (by omega)) ?_
        refine L_call [xs (i + 1), xs (i + 2)] (r1 := some (.int r1)) (h1 := h1) (sX8_frame l k0 hc1) ccX8_frame tw_449 tw_450 tw_451 (ci := 8) rfl (by decide) ⟨Nat.le_of_ble_eq_true rfl, Nat.le_of_ble_eq_true rfl⟩ ⟨rfl, rfl⟩ ⟨Nat.le_of_ble_eq_true rfl, Nat.le_of_ble_eq_true rfl⟩ dL_law_516 rfl k0 rfl (Nat.le_of_ble_eq_true rfl) (fun _ _ => rfl) rfl ?_
        refine L_aload2 dL_law_519 rfl ?_
        refine L_aload0 dL_law_520 rfl ?_
        refine L_iload3 dL_law_521 rfl ?_
        refine L_iconst (v := nI 1) dL_law_522 rfl (by decide) ?_
        refine L_iadd dL_law_523 rfl ?_
        refine L_sld (x := xs (i + 1)) dL_law_524 rfl (lw_in hL (by omega)) (lw_ix hL (by omega)) ?_
        refine L_aload0 dL_law_525 rfl ?_
        refine L_iload3 dL_law_526 rfl ?_
        refine L_iconst (v := nI 2) dL_law_527 rfl (by decide) ?_
        refine L_iadd dL_law_528 rfl ?_
        refine L_sld (x := xs (i + 2)) dL_law_529 rfl (lw_in hL (by omega)) (lw_ix hL (by omega)) ?_
        refine L_call [xs (i + 1), xs (i + 2)] (r1 := some (.int r2)) (h1 := h2) (sX9_frame l k119 hc2) ccX9_frame tw_876 tw_877 tw_878 (ci := 9) rfl (by decide) ⟨Nat.le_of_ble_eq_true rfl, Nat.le_of_ble_eq_true rfl⟩ ⟨rfl, rfl⟩ ⟨Nat.le_of_ble_eq_true rfl, Nat.le_of_ble_eq_true rfl⟩ dL_law_530 rfl k119 rfl (Nat.le_of_ble_eq_true rfl) (fun _ _ => rfl) rfl ?_
        refine L_icmp_eq_t (t := 794) dL_law_533 rfl hr ?_
        exact fin
      refine am_if hs (fun hx hs => ?_) (fun hx14 hs => ?_)
      · refine L_tswIn (c' := nI 14) (off := 505) (t := 538) dL_law_33 hx (by decide) (by decide) (by decide) rfl ?_
        obtain ⟨r1, h1, hc1, hs⟩ := am_bind_some hs
        obtain ⟨r2, h2, hc2, hs⟩ := am_bind_some hs
        obtain ⟨hr, rfl⟩ : r1 = r2 ∧ h2 = hh := by simpa using hs
        refine L_aload1 dL_law_538 rfl ?_
        refine L_call [] (r1 := some (.long r1)) (h1 := h1) (sX8_print l k0 hc1) ccX8_print tw_454 tw_455 tw_456 (ci := 8) rfl (by decide) ⟨Nat.le_of_ble_eq_true rfl, Nat.le_of_ble_eq_true rfl⟩ ⟨rfl, rfl⟩ ⟨Nat.le_of_ble_eq_true rfl, Nat.le_of_ble_eq_true rfl⟩ dL_law_539 rfl k0 rfl (Nat.le_of_ble_eq_true rfl) (fun _ _ => rfl) rfl ?_
        refine L_aload2 dL_law_542 rfl ?_
        refine L_call [] (r1 := some (.long r2)) (h1 := h2) (sX9_print l k119 hc2) ccX9_print tw_880 tw_881 tw_882 (ci := 9) rfl (by decide) ⟨Nat.le_of_ble_eq_true rfl, Nat.le_of_ble_eq_true rfl⟩ ⟨rfl, rfl⟩ ⟨Nat.le_of_ble_eq_true rfl, Nat.le_of_ble_eq_true rfl⟩ dL_law_543 rfl k119 rfl (Nat.le_of_ble_eq_true rfl) (fun _ _ => rfl) rfl ?_
        refine L_lcmp dL_law_546 rfl ?_
        refine L_if_eq_t (t := 794) dL_law_547 rfl (lw_cmp hr) ?_
        exact fin
      refine am_if hs (fun hx hs => ?_) (fun hx15 hs => ?_)
      · refine L_tswIn (c' := nI 15) (off := 519) (t := 552) dL_law_33 hx (by decide) (by decide) (by decide) rfl ?_
        refine am_if hs (fun hz hs => ?_) (fun hz hs => ?_)
        · obtain ⟨r1, h1, hc1, hs⟩ := am_bind_some hs
          obtain ⟨r2, h2, hc2, hs⟩ := am_bind_some hs
          obtain ⟨hr, rfl⟩ : r1 = r2 ∧ h2 = hh := by simpa using hs
          refine L_aload1 dL_law_552 rfl ?_
          refine L_aload0 dL_law_553 rfl ?_
          refine L_iload3 dL_law_554 rfl ?_
          refine L_iconst (v := nI 1) dL_law_555 rfl (by decide) ?_
          refine L_iadd dL_law_556 rfl ?_
          refine L_sld (x := xs (i + 1)) dL_law_557 rfl (lw_in hL (by omega)) (lw_ix hL (by omega)) ?_
          refine L_if_eq_t (t := 565) dL_law_558 rfl hz ?_
          refine L_iconst (v := nI 0) dL_law_565 rfl (by decide) ?_
          refine L_call [nI 0] (r1 := some (.int r1)) (h1 := h1) (sX8_save l k0 hc1) ccX8_save tw_475 tw_476 tw_477 (ci := 8) rfl (by decide) ⟨Nat.le_of_ble_eq_true rfl, Nat.le_of_ble_eq_true rfl⟩ ⟨rfl, rfl⟩ ⟨Nat.le_of_ble_eq_true rfl, Nat.le_of_ble_eq_true rfl⟩ dL_law_566 rfl k0 rfl (Nat.le_of_ble_eq_true rfl) (fun _ _ => rfl) rfl ?_
          refine L_aload2 dL_law_569 rfl ?_
          refine L_aload0 dL_law_570 rfl ?_
          refine L_iload3 dL_law_571 rfl ?_
          refine L_iconst (v := nI 1) dL_law_572 rfl (by decide) ?_
          refine L_iadd dL_law_573 rfl ?_
          refine L_sld (x := xs (i + 1)) dL_law_574 rfl (lw_in hL (by omega)) (lw_ix hL (by omega)) ?_
          refine L_if_eq_t (t := 582) dL_law_575 rfl hz ?_
          refine L_iconst (v := nI 0) dL_law_582 rfl (by decide) ?_
          refine L_call [nI 0] (r1 := some (.int r2)) (h1 := h2) (sX9_save l k119 hc2) ccX9_save tw_894 tw_895 tw_896 (ci := 9) rfl (by decide) ⟨Nat.le_of_ble_eq_true rfl, Nat.le_of_ble_eq_true rfl⟩ ⟨rfl, rfl⟩ ⟨Nat.le_of_ble_eq_true rfl, Nat.le_of_ble_eq_true rfl⟩ dL_law_583 rfl k119 rfl (Nat.le_of_ble_eq_true rfl) (fun _ _ => rfl) rfl ?_
          refine L_icmp_eq_t (t := 794) dL_law_586 rfl hr ?_
          exact fin
        · obtain ⟨r1, h1, hc1, hs⟩ := am_bind_some hs
          obtain ⟨r2, h2, hc2, hs⟩ := am_bind_some hs
          obtain ⟨hr, rfl⟩ : r1 = r2 ∧ h2 = hh := by simpa using hs
          refine L_aload1 dL_law_552 rfl ?_
          refine L_aload0 dL_law_553 rfl ?_
          refine L_iload3 dL_law_554 rfl ?_
          refine L_iconst (v := nI 1) dL_law_555 rfl (by decide) ?_
          refine L_iadd dL_law_556 rfl ?_
          refine L_sld (x := xs (i + 1)) dL_law_557 rfl (lw_in hL (by omega)) (lw_ix hL (by omega)) ?_
          refine L_if_eq_f (t := 565) dL_law_558 rfl rfl hz ?_
          refine L_iconst (v := nI 1) dL_law_561 rfl (by decide) ?_
          refine L_goto (t := 566) dL_law_562 rfl ?_
          refine L_call [nI 1] (r1 := some (.int r1)) (h1 := h1) (sX8_save l k0 hc1) ccX8_save tw_475 tw_476 tw_477 (ci := 8) rfl (by decide) ⟨Nat.le_of_ble_eq_true rfl, Nat.le_of_ble_eq_true rfl⟩ ⟨rfl, rfl⟩ ⟨Nat.le_of_ble_eq_true rfl, Nat.le_of_ble_eq_true rfl⟩ dL_law_566 rfl k0 rfl (Nat.le_of_ble_eq_true rfl) (fun _ _ => rfl) rfl ?_
          refine L_aload2 dL_law_569 rfl ?_
          refine L_aload0 dL_law_570 rfl ?_
          refine L_iload3 dL_law_571 rfl ?_
          refine L_iconst (v := nI 1) dL_law_572 rfl (by decide) ?_
          refine L_iadd dL_law_573 rfl ?_
          refine L_sld (x := xs (i + 1)) dL_law_574 rfl (lw_in hL (by omega)) (lw_ix hL (by omega)) ?_
          refine L_if_eq_f (t := 582) dL_law_575 rfl rfl hz ?_
          refine L_iconst (v := nI 1) dL_law_578 rfl (by decide) ?_
          refine L_goto (t := 583) dL_law_579 rfl ?_
          refine L_call [nI 1] (r1 := some (.int r2)) (h1 := h2) (sX9_save l k119 hc2) ccX9_save tw_894 tw_895 tw_896 (ci := 9) rfl (by decide) ⟨Nat.le_of_ble_eq_true rfl, Nat.le_of_ble_eq_true rfl⟩ ⟨rfl, rfl⟩ ⟨Nat.le_of_ble_eq_true rfl, Nat.le_of_ble_eq_true rfl⟩ dL_law_583 rfl k119 rfl (Nat.le_of_ble_eq_true rfl) (fun _ _ => rfl) rfl ?_
          refine L_icmp_eq_t (t := 794) dL_law_586 rfl hr ?_
          exact fin
      refine am_if hs (fun hx hs => ?_) (fun hx16 hs => ?_)
      · refine L_tswIn (c' := nI 16) (off := 558) (t := 591) dL_law_33 hx (by decide) (by decide) (by decide) rfl ?_
        obtain ⟨r1, h1, hc1, hs⟩ := am_bind_some hs
        obtain ⟨r2, h2, hc2, hs⟩ := am_bind_some hs
        obtain ⟨hr, rfl⟩ : r1 = r2 ∧ h2 = hh := by simpa using hs
        refine L_aload1 dL_law_591 rfl ?_
        refine L_call [] (r1 := some (.int r1)) (h1 := h1) (sX8_restore l k0 hc1) ccX8_restore tw_534 tw_535 tw_536 (ci := 8) rfl (by decide) ⟨Nat.le_of_ble_eq_true rfl, Nat.le_of_ble_eq_true rfl⟩ ⟨rfl, rfl⟩ ⟨Nat.le_of_ble_eq_true rfl, Nat.le_of_ble_eq_true rfl⟩ dL_law_592 rfl k0 rfl (Nat.le_of_ble_eq_true rfl) (fun _ _ => rfl) rfl ?_
        refine L_aload2 dL_law_595 rfl ?_
        refine L_call [] (r1 := some (.int r2)) (h1 := h2) (sX9_restore l k119 hc2) ccX9_restore tw_920 tw_921 tw_922 (ci := 9) rfl (by decide) ⟨Nat.le_of_ble_eq_true rfl, Nat.le_of_ble_eq_true rfl⟩ ⟨rfl, rfl⟩ ⟨Nat.le_of_ble_eq_true rfl, Nat.le_of_ble_eq_true rfl⟩ dL_law_596 rfl k119 rfl (Nat.le_of_ble_eq_true rfl) (fun _ _ => rfl) rfl ?_
        refine L_icmp_eq_t (t := 794) dL_law_599 rfl hr ?_
        exact fin
      refine am_if hs (fun hx hs => ?_) (fun hx17 hs => ?_)
      · refine L_tswIn (c' := nI 17) (off := 571) (t := 604) dL_law_33 hx (by decide) (by decide) (by decide) rfl ?_
        obtain ⟨r1, h1, hc1, hs⟩ := am_bind_some hs
        obtain ⟨r2, h2, hc2, hs⟩ := am_bind_some hs
        obtain ⟨hr, rfl⟩ : r1 = r2 ∧ h2 = hh := by simpa using hs
        refine L_aload1 dL_law_604 rfl ?_
        refine L_aload0 dL_law_605 rfl ?_
        refine L_iload3 dL_law_606 rfl ?_
        refine L_iconst (v := nI 1) dL_law_607 rfl (by decide) ?_
        refine L_iadd dL_law_608 rfl ?_
        refine L_sld (x := xs (i + 1)) dL_law_609 rfl (lw_in hL (by omega)) (lw_ix hL (by omega)) ?_
        refine L_call [xs (i + 1)] (r1 := some (.int r1)) (h1 := h1) (sX8_why l k0 hc1) ccX8_why tw_639 tw_640 tw_641 (ci := 8) rfl (by decide) ⟨Nat.le_of_ble_eq_true rfl, Nat.le_of_ble_eq_true rfl⟩ ⟨rfl, rfl⟩ ⟨Nat.le_of_ble_eq_true rfl, Nat.le_of_ble_eq_true rfl⟩ dL_law_610 rfl k0 rfl (Nat.le_of_ble_eq_true rfl) (fun _ _ => rfl) rfl ?_
        refine L_aload2 dL_law_613 rfl ?_
        refine L_aload0 dL_law_614 rfl ?_
        refine L_iload3 dL_law_615 rfl ?_
        refine L_iconst (v := nI 1) dL_law_616 rfl (by decide) ?_
        refine L_iadd dL_law_617 rfl ?_
        refine L_sld (x := xs (i + 1)) dL_law_618 rfl (lw_in hL (by omega)) (lw_ix hL (by omega)) ?_
        refine L_call [xs (i + 1)] (r1 := some (.int r2)) (h1 := h2) (sX9_why l k119 hc2) ccX9_why tw_964 tw_965 tw_966 (ci := 9) rfl (by decide) ⟨Nat.le_of_ble_eq_true rfl, Nat.le_of_ble_eq_true rfl⟩ ⟨rfl, rfl⟩ ⟨Nat.le_of_ble_eq_true rfl, Nat.le_of_ble_eq_true rfl⟩ dL_law_619 rfl k119 rfl (Nat.le_of_ble_eq_true rfl) (fun _ _ => rfl) rfl ?_
        refine L_icmp_eq_t (t := 794) dL_law_622 rfl hr ?_
        exact fin
      refine am_if hs (fun hx hs => ?_) (fun hx18 hs => ?_)
      · refine L_tswIn (c' := nI 18) (off := 594) (t := 627) dL_law_33 hx (by decide) (by decide) (by decide) rfl ?_
        obtain ⟨r1, h1, hc1, hs⟩ := am_bind_some hs
        obtain ⟨r2, h2, hc2, hs⟩ := am_bind_some hs
        obtain ⟨hr, rfl⟩ : r1 = r2 ∧ h2 = hh := by simpa using hs
        refine L_aload1 dL_law_627 rfl ?_
        refine L_aload0 dL_law_628 rfl ?_
        refine L_iload3 dL_law_629 rfl ?_
        refine L_iconst (v := nI 1) dL_law_630 rfl (by decide) ?_
        refine L_iadd dL_law_631 rfl ?_
        refine L_sld (x := xs (i + 1)) dL_law_632 rfl (lw_in hL (by omega)) (lw_ix hL (by omega)) ?_
        refine L_aload0 dL_law_633 rfl ?_
        refine L_iload3 dL_law_634 rfl ?_
        refine L_iconst (v := nI 2) dL_law_635 rfl (by decide) ?_
        refine L_iadd dL_law_636 rfl ?_
        refine L_sld (x := xs (i + 2)) dL_law_637 rfl (lw_in hL (by omega)) (lw_ix hL (by omega)) ?_
        refine L_call [xs (i + 1), xs (i + 2)] (r1 := some (.int r1)) (h1 := h1) (sX8_chunk l k0 hc1) ccX8_chunk tw_643 tw_644 tw_645 (ci := 8) rfl (by decide) ⟨Nat.le_of_ble_eq_true rfl, Nat.le_of_ble_eq_true rfl⟩ ⟨rfl, rfl⟩ ⟨Nat.le_of_ble_eq_true rfl, Nat.le_of_ble_eq_true rfl⟩ dL_law_638 rfl k0 rfl (Nat.le_of_ble_eq_true rfl) (fun _ _ => rfl) rfl ?_
        refine L_aload2 dL_law_641 rfl ?_
        refine L_aload0 dL_law_642 rfl ?_
        refine L_iload3 dL_law_643 rfl ?_
        refine L_iconst (v := nI 1) dL_law_644 rfl (by decide) ?_
        refine L_iadd dL_law_645 rfl ?_
        refine L_sld (x := xs (i + 1)) dL_law_646 rfl (lw_in hL (by omega)) (lw_ix hL (by omega)) ?_
        refine L_aload0 dL_law_647 rfl ?_
        refine L_iload3 dL_law_648 rfl ?_
        refine L_iconst (v := nI 2) dL_law_649 rfl (by decide) ?_
        refine L_iadd dL_law_650 rfl ?_
        refine L_sld (x := xs (i + 2)) dL_law_651 rfl (lw_in hL (by omega)) (lw_ix hL (by omega)) ?_
        refine L_call [xs (i + 1), xs (i + 2)] (r1 := some (.int r2)) (h1 := h2) (sX9_chunk l k119 hc2) ccX9_chunk tw_968 tw_969 tw_970 (ci := 9) rfl (by decide) ⟨Nat.le_of_ble_eq_true rfl, Nat.le_of_ble_eq_true rfl⟩ ⟨rfl, rfl⟩ ⟨Nat.le_of_ble_eq_true rfl, Nat.le_of_ble_eq_true rfl⟩ dL_law_652 rfl k119 rfl (Nat.le_of_ble_eq_true rfl) (fun _ _ => rfl) rfl ?_
        refine L_icmp_eq_t (t := 794) dL_law_655 rfl hr ?_
        exact fin
      refine am_if hs (fun hx hs => ?_) (fun hx19 hs => ?_)
      · refine L_tswIn (c' := nI 19) (off := 627) (t := 660) dL_law_33 hx (by decide) (by decide) (by decide) rfl ?_
        obtain ⟨r1, h1, hc1, hs⟩ := am_bind_some hs
        obtain ⟨r2, h2, hc2, hs⟩ := am_bind_some hs
        obtain ⟨hr, rfl⟩ : r1 = r2 ∧ h2 = hh := by simpa using hs
        refine L_aload1 dL_law_660 rfl ?_
        refine L_call [] (r1 := some (.int r1)) (h1 := h1) (sX8_write l k0 hc1) ccX8_write tw_651 tw_652 tw_653 (ci := 8) rfl (by decide) ⟨Nat.le_of_ble_eq_true rfl, Nat.le_of_ble_eq_true rfl⟩ ⟨rfl, rfl⟩ ⟨Nat.le_of_ble_eq_true rfl, Nat.le_of_ble_eq_true rfl⟩ dL_law_661 rfl k0 rfl (Nat.le_of_ble_eq_true rfl) (fun _ _ => rfl) rfl ?_
        refine L_aload2 dL_law_664 rfl ?_
        refine L_call [] (r1 := some (.int r2)) (h1 := h2) (sX9_write l k119 hc2) ccX9_write tw_972 tw_973 tw_974 (ci := 9) rfl (by decide) ⟨Nat.le_of_ble_eq_true rfl, Nat.le_of_ble_eq_true rfl⟩ ⟨rfl, rfl⟩ ⟨Nat.le_of_ble_eq_true rfl, Nat.le_of_ble_eq_true rfl⟩ dL_law_665 rfl k119 rfl (Nat.le_of_ble_eq_true rfl) (fun _ _ => rfl) rfl ?_
        refine L_icmp_eq_t (t := 794) dL_law_668 rfl hr ?_
        exact fin
      refine am_if hs (fun hx hs => ?_) (fun hx20 hs => ?_)
      · refine L_tswIn (c' := nI 20) (off := 640) (t := 673) dL_law_33 hx (by decide) (by decide) (by decide) rfl ?_
        obtain ⟨r1, h1, hc1, hs⟩ := am_bind_some hs
        obtain ⟨r2, h2, hc2, hs⟩ := am_bind_some hs
        obtain ⟨hr, rfl⟩ : r1 = r2 ∧ h2 = hh := by simpa using hs
        refine L_aload1 dL_law_673 rfl ?_
        refine L_aload0 dL_law_674 rfl ?_
        refine L_iload3 dL_law_675 rfl ?_
        refine L_iconst (v := nI 1) dL_law_676 rfl (by decide) ?_
        refine L_iadd dL_law_677 rfl ?_
        refine L_sld (x := xs (i + 1)) dL_law_678 rfl (lw_in hL (by omega)) (lw_ix hL (by omega)) ?_
        refine L_call [xs (i + 1)] (r1 := some (.int r1)) (h1 := h1) (sX8_cut l k0 hc1) ccX8_cut tw_655 tw_656 tw_657 (ci := 8) rfl (by decide) ⟨Nat.le_of_ble_eq_true rfl, Nat.le_of_ble_eq_true rfl⟩ ⟨rfl, rfl⟩ ⟨Nat.le_of_ble_eq_true rfl, Nat.le_of_ble_eq_true rfl⟩ dL_law_679 rfl k0 rfl (Nat.le_of_ble_eq_true rfl) (fun _ _ => rfl) rfl ?_
        refine L_aload2 dL_law_682 rfl ?_
        refine L_aload0 dL_law_683 rfl ?_
        refine L_iload3 dL_law_684 rfl ?_
        refine L_iconst (v := nI 1) dL_law_685 rfl (by decide) ?_
        refine L_iadd dL_law_686 rfl ?_
        refine L_sld (x := xs (i + 1)) dL_law_687 rfl (lw_in hL (by omega)) (lw_ix hL (by omega)) ?_
        refine L_call [xs (i + 1)] (r1 := some (.int r2)) (h1 := h2) (sX9_cut l k119 hc2) ccX9_cut tw_976 tw_977 tw_978 (ci := 9) rfl (by decide) ⟨Nat.le_of_ble_eq_true rfl, Nat.le_of_ble_eq_true rfl⟩ ⟨rfl, rfl⟩ ⟨Nat.le_of_ble_eq_true rfl, Nat.le_of_ble_eq_true rfl⟩ dL_law_688 rfl k119 rfl (Nat.le_of_ble_eq_true rfl) (fun _ _ => rfl) rfl ?_
        refine L_icmp_eq_t (t := 794) dL_law_691 rfl hr ?_
        exact fin
      refine am_if hs (fun hx hs => ?_) (fun hx21 hs => ?_)
      · refine L_tswIn (c' := nI 21) (off := 663) (t := 696) dL_law_33 hx (by decide) (by decide) (by decide) rfl ?_
        obtain ⟨r1, h1, hc1, hs⟩ := am_bind_some hs
        obtain ⟨r2, h2, hc2, hs⟩ := am_bind_some hs
        obtain ⟨hr, rfl⟩ : r1 = r2 ∧ h2 = hh := by simpa using hs
        refine L_aload1 dL_law_696 rfl ?_
        refine L_call [] (r1 := some (.int r1)) (h1 := h1) (sX8_load l k0 hc1) ccX8_load tw_659 tw_660 tw_661 (ci := 8) rfl (by decide) ⟨Nat.le_of_ble_eq_true rfl, Nat.le_of_ble_eq_true rfl⟩ ⟨rfl, rfl⟩ ⟨Nat.le_of_ble_eq_true rfl, Nat.le_of_ble_eq_true rfl⟩ dL_law_697 rfl k0 rfl (Nat.le_of_ble_eq_true rfl) (fun _ _ => rfl) rfl ?_
        refine L_aload2 dL_law_700 rfl ?_
        refine L_call [] (r1 := some (.int r2)) (h1 := h2) (sX9_load l k119 hc2) ccX9_load tw_980 tw_981 tw_982 (ci := 9) rfl (by decide) ⟨Nat.le_of_ble_eq_true rfl, Nat.le_of_ble_eq_true rfl⟩ ⟨rfl, rfl⟩ ⟨Nat.le_of_ble_eq_true rfl, Nat.le_of_ble_eq_true rfl⟩ dL_law_701 rfl k119 rfl (Nat.le_of_ble_eq_true rfl) (fun _ _ => rfl) rfl ?_
        refine L_icmp_eq_t (t := 794) dL_law_704 rfl hr ?_
        exact fin
      refine am_if hs (fun hx hs => ?_) (fun hx22 hs => ?_)
      · refine L_tswIn (c' := nI 22) (off := 676) (t := 709) dL_law_33 hx (by decide) (by decide) (by decide) rfl ?_
        obtain ⟨r1, h1, hc1, hs⟩ := am_bind_some hs
        obtain ⟨r2, h2, hc2, hs⟩ := am_bind_some hs
        obtain ⟨hr, rfl⟩ : r1 = r2 ∧ h2 = hh := by simpa using hs
        refine L_aload1 dL_law_709 rfl ?_
        refine L_call [] (r1 := some (.int r1)) (h1 := h1) (sX8_keep l k0 hc1) ccX8_keep tw_663 tw_664 tw_665 (ci := 8) rfl (by decide) ⟨Nat.le_of_ble_eq_true rfl, Nat.le_of_ble_eq_true rfl⟩ ⟨rfl, rfl⟩ ⟨Nat.le_of_ble_eq_true rfl, Nat.le_of_ble_eq_true rfl⟩ dL_law_710 rfl k0 rfl (Nat.le_of_ble_eq_true rfl) (fun _ _ => rfl) rfl ?_
        refine L_aload2 dL_law_713 rfl ?_
        refine L_call [] (r1 := some (.int r2)) (h1 := h2) (sX9_keep l k119 hc2) ccX9_keep tw_984 tw_985 tw_986 (ci := 9) rfl (by decide) ⟨Nat.le_of_ble_eq_true rfl, Nat.le_of_ble_eq_true rfl⟩ ⟨rfl, rfl⟩ ⟨Nat.le_of_ble_eq_true rfl, Nat.le_of_ble_eq_true rfl⟩ dL_law_714 rfl k119 rfl (Nat.le_of_ble_eq_true rfl) (fun _ _ => rfl) rfl ?_
        refine L_icmp_eq_t (t := 794) dL_law_717 rfl hr ?_
        exact fin
      refine am_if hs (fun hx hs => ?_) (fun hx23 hs => ?_)
      · refine L_tswIn (c' := nI 23) (off := 689) (t := 722) dL_law_33 hx (by decide) (by decide) (by decide) rfl ?_
        obtain ⟨r1, h1, hc1, hs⟩ := am_bind_some hs
        obtain ⟨r2, h2, hc2, hs⟩ := am_bind_some hs
        obtain ⟨hr, rfl⟩ : r1 = r2 ∧ h2 = hh := by simpa using hs
        refine L_aload1 dL_law_722 rfl ?_
        refine L_call [] (r1 := some (.int r1)) (h1 := h1) (sX8_undo l k0 hc1) ccX8_undo tw_688 tw_689 tw_690 (ci := 8) rfl (by decide) ⟨Nat.le_of_ble_eq_true rfl, Nat.le_of_ble_eq_true rfl⟩ ⟨rfl, rfl⟩ ⟨Nat.le_of_ble_eq_true rfl, Nat.le_of_ble_eq_true rfl⟩ dL_law_723 rfl k0 rfl (Nat.le_of_ble_eq_true rfl) (fun _ _ => rfl) rfl ?_
        refine L_aload2 dL_law_726 rfl ?_
        refine L_call [] (r1 := some (.int r2)) (h1 := h2) (sX9_undo l k119 hc2) ccX9_undo tw_1000 tw_1001 tw_1002 (ci := 9) rfl (by decide) ⟨Nat.le_of_ble_eq_true rfl, Nat.le_of_ble_eq_true rfl⟩ ⟨rfl, rfl⟩ ⟨Nat.le_of_ble_eq_true rfl, Nat.le_of_ble_eq_true rfl⟩ dL_law_727 rfl k119 rfl (Nat.le_of_ble_eq_true rfl) (fun _ _ => rfl) rfl ?_
        refine L_icmp_eq_t (t := 794) dL_law_730 rfl hr ?_
        exact fin
      refine am_if hs (fun hx hs => ?_) (fun hx24 hs => ?_)
      · refine L_tswIn (c' := nI 24) (off := 702) (t := 735) dL_law_33 hx (by decide) (by decide) (by decide) rfl ?_
        obtain ⟨r1, h1, hc1, hs⟩ := am_bind_some hs
        obtain ⟨r2, h2, hc2, hs⟩ := am_bind_some hs
        obtain ⟨hr, rfl⟩ : r1 = r2 ∧ h2 = hh := by simpa using hs
        refine L_aload1 dL_law_735 rfl ?_
        refine L_aload0 dL_law_736 rfl ?_
        refine L_iload3 dL_law_737 rfl ?_
        refine L_iconst (v := nI 1) dL_law_738 rfl (by decide) ?_
        refine L_iadd dL_law_739 rfl ?_
        refine L_sld (x := xs (i + 1)) dL_law_740 rfl (lw_in hL (by omega)) (lw_ix hL (by omega)) ?_
        refine L_call [xs (i + 1)] (r1 := some (.int r1)) (h1 := h1) (sX8_bound l k0 hc1) ccX8_bound tw_700 tw_701 tw_702 (ci := 8) rfl (by decide) ⟨Nat.le_of_ble_eq_true rfl, Nat.le_of_ble_eq_true rfl⟩ ⟨rfl, rfl⟩ ⟨Nat.le_of_ble_eq_true rfl, Nat.le_of_ble_eq_true rfl⟩ dL_law_741 rfl k0 rfl (Nat.le_of_ble_eq_true rfl) (fun _ _ => rfl) rfl ?_
        refine L_aload2 dL_law_744 rfl ?_
        refine L_aload0 dL_law_745 rfl ?_
        refine L_iload3 dL_law_746 rfl ?_
        refine L_iconst (v := nI 1) dL_law_747 rfl (by decide) ?_
        refine L_iadd dL_law_748 rfl ?_
        refine L_sld (x := xs (i + 1)) dL_law_749 rfl (lw_in hL (by omega)) (lw_ix hL (by omega)) ?_
        refine L_call [xs (i + 1)] (r1 := some (.int r2)) (h1 := h2) (sX9_bound l k119 hc2) ccX9_bound tw_1004 tw_1005 tw_1006 (ci := 9) rfl (by decide) ⟨Nat.le_of_ble_eq_true rfl, Nat.le_of_ble_eq_true rfl⟩ ⟨rfl, rfl⟩ ⟨Nat.le_of_ble_eq_true rfl, Nat.le_of_ble_eq_true rfl⟩ dL_law_750 rfl k119 rfl (Nat.le_of_ble_eq_true rfl) (fun _ _ => rfl) rfl ?_
        refine L_icmp_eq_t (t := 794) dL_law_753 rfl hr ?_
        exact fin
      refine am_if hs (fun hx hs => ?_) (fun hx25 hs => ?_)
      · refine L_tswIn (c' := nI 25) (off := 725) (t := 758) dL_law_33 hx (by decide) (by decide) (by decide) rfl ?_
        obtain ⟨r1, h1, hc1, hs⟩ := am_bind_some hs
        obtain ⟨r2, h2, hc2, hs⟩ := am_bind_some hs
        obtain ⟨hr, rfl⟩ : r1 = r2 ∧ h2 = hh := by simpa using hs
        refine L_aload1 dL_law_758 rfl ?_
        refine L_call [] (r1 := some (.int r1)) (h1 := h1) (sX8_restart l k0 hc1) ccX8_restart tw_705 tw_706 tw_707 (ci := 8) rfl (by decide) ⟨Nat.le_of_ble_eq_true rfl, Nat.le_of_ble_eq_true rfl⟩ ⟨rfl, rfl⟩ ⟨Nat.le_of_ble_eq_true rfl, Nat.le_of_ble_eq_true rfl⟩ dL_law_759 rfl k0 rfl (Nat.le_of_ble_eq_true rfl) (fun _ _ => rfl) rfl ?_
        refine L_aload2 dL_law_762 rfl ?_
        refine L_call [] (r1 := some (.int r2)) (h1 := h2) (sX9_restart l k119 hc2) ccX9_restart tw_1008 tw_1009 tw_1010 (ci := 9) rfl (by decide) ⟨Nat.le_of_ble_eq_true rfl, Nat.le_of_ble_eq_true rfl⟩ ⟨rfl, rfl⟩ ⟨Nat.le_of_ble_eq_true rfl, Nat.le_of_ble_eq_true rfl⟩ dL_law_763 rfl k119 rfl (Nat.le_of_ble_eq_true rfl) (fun _ _ => rfl) rfl ?_
        refine L_icmp_eq_t (t := 794) dL_law_766 rfl hr ?_
        exact fin
      refine am_if hs (fun hx hs => ?_) (fun hx26 hs => ?_)
      · refine L_tswIn (c' := nI 26) (off := 738) (t := 771) dL_law_33 hx (by decide) (by decide) (by decide) rfl ?_
        obtain ⟨r1, h1, hc1, hs⟩ := am_bind_some hs
        obtain ⟨r2, h2, hc2, hs⟩ := am_bind_some hs
        obtain ⟨hr, rfl⟩ : r1 = r2 ∧ h2 = hh := by simpa using hs
        refine L_aload1 dL_law_771 rfl ?_
        refine L_aload0 dL_law_772 rfl ?_
        refine L_iload3 dL_law_773 rfl ?_
        refine L_iconst (v := nI 1) dL_law_774 rfl (by decide) ?_
        refine L_iadd dL_law_775 rfl ?_
        refine L_sld (x := xs (i + 1)) dL_law_776 rfl (lw_in hL (by omega)) (lw_ix hL (by omega)) ?_
        refine L_call [xs (i + 1)] (r1 := some (.int r1)) (h1 := h1) (sX8_told l k0 hc1) ccX8_told tw_709 tw_710 tw_711 (ci := 8) rfl (by decide) ⟨Nat.le_of_ble_eq_true rfl, Nat.le_of_ble_eq_true rfl⟩ ⟨rfl, rfl⟩ ⟨Nat.le_of_ble_eq_true rfl, Nat.le_of_ble_eq_true rfl⟩ dL_law_777 rfl k0 rfl (Nat.le_of_ble_eq_true rfl) (fun _ _ => rfl) rfl ?_
        refine L_aload2 dL_law_780 rfl ?_
        refine L_aload0 dL_law_781 rfl ?_
        refine L_iload3 dL_law_782 rfl ?_
        refine L_iconst (v := nI 1) dL_law_783 rfl (by decide) ?_
        refine L_iadd dL_law_784 rfl ?_
        refine L_sld (x := xs (i + 1)) dL_law_785 rfl (lw_in hL (by omega)) (lw_ix hL (by omega)) ?_
        refine L_call [xs (i + 1)] (r1 := some (.int r2)) (h1 := h2) (sX9_told l k119 hc2) ccX9_told tw_1012 tw_1013 tw_1014 (ci := 9) rfl (by decide) ⟨Nat.le_of_ble_eq_true rfl, Nat.le_of_ble_eq_true rfl⟩ ⟨rfl, rfl⟩ ⟨Nat.le_of_ble_eq_true rfl, Nat.le_of_ble_eq_true rfl⟩ dL_law_786 rfl k119 rfl (Nat.le_of_ble_eq_true rfl) (fun _ _ => rfl) rfl ?_
        refine L_icmp_eq_t (t := 794) dL_law_789 rfl hr ?_
        exact fin
      obtain rfl : h = hh := by simpa using hs
      refine L_tswOut (t := 794) dL_law_33 (by have e0 := lv_neT (a := 0) hx0 (by decide); have e1 := lv_neT (a := 1) hx1 (by decide); have e2 := lv_neT (a := 2) hx2 (by decide); have e3 := lv_neT (a := 3) hx3 (by decide); have e4 := lv_neT (a := 4) hx4 (by decide); have e5 := lv_neT (a := 5) hx5 (by decide); have e6 := lv_neT (a := 6) hx6 (by decide); have e7 := lv_neT (a := 7) hx7 (by decide); have e8 := lv_neT (a := 8) hx8 (by decide); have e9 := lv_neT (a := 9) hx9 (by decide); have e10 := lv_neT (a := 10) hx10 (by decide); have e11 := lv_neT (a := 11) hx11 (by decide); have e12 := lv_neT (a := 12) hx12 (by decide); have e13 := lv_neT (a := 13) hx13 (by decide); have e14 := lv_neT (a := 14) hx14 (by decide); have e15 := lv_neT (a := 15) hx15 (by decide); have e16 := lv_neT (a := 16) hx16 (by decide); have e17 := lv_neT (a := 17) hx17 (by decide); have e18 := lv_neT (a := 18) hx18 (by decide); have e19 := lv_neT (a := 19) hx19 (by decide); have e20 := lv_neT (a := 20) hx20 (by decide); have e21 := lv_neT (a := 21) hx21 (by decide); have e22 := lv_neT (a := 22) hx22 (by decide); have e23 := lv_neT (a := 23) hx23 (by decide); have e24 := lv_neT (a := 24) hx24 (by decide); have e25 := lv_neT (a := 25) hx25 (by decide); have e26 := lv_neT (a := 26) hx26 (by decide); omega) rfl ?_
      exact fin
