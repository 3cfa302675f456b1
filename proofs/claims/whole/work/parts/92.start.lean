/-! ===== the law's beginning ===== -/
def am_hz : AH := (fun _ _ => 0, fun _ _ => none)
theorem am_N.start {s : State} {A : Array Value} (h : ∀ w ∈ lw_tbl, w.before A s = true) (hA : (Cond.arrayOver (.object "ZSaves$Frame")).before A s = true) : am_N s := by
  refine ⟨fun w hw => ?_, va_AO.of hA⟩
  have h1 := h w (am_nw_in w hw)
  have h2 : am_isN w = true := List.all_eq_true.mp am_nw_all w hw
  cases w <;> first | exact va_Nw.of rfl h1 | (exact absurd h2 (by simp [am_isN]))
section LWS
variable {p : Program} {l : Launch} {e : Env} {s : State} {m : MethodId} {below : List Frame} {meth : Method} {c : Code} {b Ln : Nat} {xs : Nat → Int32} {D : va_G} {cI cF : ClassId} {H : Heap} {locs : List Loc} {k n pc : Nat} {ls : Array Slot} {rest : List Value} {Q : State → Prop} {Γ : Gm} {h : AH}
theorem lw_new (C : lw_At p s m meth c b Ln xs) (hK : va_K D vwCl (am_tys cI cF) s) (hW : am_Wd D cI cF s.heap.size Γ h H) (hS : am_S s.heap.size s k Γ H locs) {idx ci : Nat} {CN : String} {T : u_T} {N : Nat} {ty : Nat → FieldType} (hd : decode code pc = .ok (.new idx, 3)) (hcl : Cond.classLink R_law idx CN ∈ am_T) (hit : Cond.instantiable CN N ∈ am_T) (hii : Cond.initialized CN ∈ am_T) (fc : am_FC ci CN T N) (hty : ∀ k, k < N → parseFieldDescriptor (T k).2.2.1 = some (ty k)) (hdv : ∀ j, j < N → defaultValue (ty j) = if am_fk ci j = 99 then .int 0 else .null) (hR : k + 1 ≤ room_1.cells ∧ n + N ≤ room_1.slots)
    (kk : ∀ H1 : Heap, am_Wd D cI cF s.heap.size (Γ ++ [(ci, 0)]) (am_new h Γ.length) H1 → am_S s.heap.size s (k + 1) (Γ ++ [(ci, 0)]) H1 locs → W p l e room_1 s m #[Value.ref b] below meth c H1 locs (k + 1) (n + N) Q (F0 m (pc + 3) ls (.ref (s.heap.size + Γ.length) :: rest))) : W p l e room_1 s m #[Value.ref b] below meth c H locs k n Q (F0 m pc ls rest) := by
  obtain ⟨hc10, hv, hN, hin⟩ := fc
  have hts : ∀ w ∈ am_T, w.before #[Value.ref b] s = true := fun w hw => C.2.2.2.2.2.1 w (am_T_in hw)
  refine va_new (fs := (List.range (am_nf ci)).map (am_fld s.heap.size ci Γ.length (am_new h Γ.length))) C.1 C.2.1 hts hin ty hty C.2.2.2.2.1 (hts _ hcl) (hts _ hit) (hts _ hii) hK hW.2 am_D hS.1 (fun z hz => hz) hv (am_fs_new hN hdv) hR.1 hR.2 hd (fun z H1 hP hD hS1 => ?_)
  refine am_sz (fun hu => ?_)
  have hz := am_place hP hD hS.2 hu
  subst hz
  refine kk H1 ⟨am_WT_new hW.1, ?_⟩ ⟨hS1, by have := hS.2; simp only [List.length_append, List.length_cons, List.length_nil]; omega⟩
  rw [am_ws_push, am_cell_O hc10]
  exact hP
theorem lw_init (C : lw_At p s m meth c b Ln xs) (hK : va_K D vwCl (am_tys cI cF) s) (hN : am_N s) (hW : am_Wd D cI cF s.heap.size Γ h H) (hS : am_S s.heap.size s k Γ H locs) {idx z : Nat} {y : MethodName} {M' : AMt} {Γ1 : Gm} {h1 : AH} (hM : AR l y M' [.ref z] Γ h (none, Γ1, h1)) (hc : am_CC y M' 0) (hret : M'.2.2.1 = none) (hl : Cond.methodLink R_law idx y ∈ am_T) (hi : Cond.instanceMethod y ∈ am_T) (hy : y.name = "<init>") (hR : M'.2.2.2.2.2.1.frames + 1 ≤ room_1.frames ∧ 8 + (M'.2.1 + 11) + M'.2.2.2.2.2.1.locals ≤ room_1.locals ∧ k + M'.2.2.2.2.2.2.1 ≤ room_1.cells ∧ n + M'.2.2.2.2.2.2.2.1 ≤ room_1.slots)
    (hd : decode code pc = .ok (.invokespecial idx, 3)) (hls : ls.size = 4) (hst : (rest.map fun v => v.category).sum ≤ 8) (hg : Γ1.length = Γ.length + M'.2.2.2.2.2.2.1)
    (kk : ∀ (H1 : Heap) (locs1 : List Loc), am_Wd D cI cF s.heap.size Γ1 h1 H1 → am_S s.heap.size s (k + M'.2.2.2.2.2.2.1) Γ1 H1 locs1 → W p l e room_1 s m #[Value.ref b] below meth c H1 locs1 (k + M'.2.2.2.2.2.2.1) (n + M'.2.2.2.2.2.2.2.1) Q (F0 m (pc + 3) ls rest)) : W p l e room_1 s m #[Value.ref b] below meth c H locs k n Q (F0 m pc ls (.ref (s.heap.size + z) :: rest)) := by
  have hts : ∀ w ∈ am_T, w.before #[Value.ref b] s = true := fun w hw => C.2.2.2.2.2.1 w (am_T_in hw)
  refine am_sz (fun hu => ?_)
  have hpre : ∀ U : State, U.heap = H → s.WarmedH U.vm → am_Pc s.heap.size D cI cF Γ h [.ref z] (([.ref z] : List Value).map (am_v s.heap.size)).toArray U := by
    intro U hU hWm
    refine ⟨rfl, va_K.moved hWm.alike hK, hN.warm hWm, ?_, by rw [hU]; exact hW⟩
    rw [hU]
    exact am_size hW hS (Nat.le_refl _) hu
  have cb : CallB room_1 s #[Value.ref b] R_law idx y M'.1 M'.2.1 none (.code y M'.1 M'.2.1 M'.2.2.1 :: am_T) M'.2.2.2.2.2.1 M'.2.2.2.2.2.2.1 M'.2.2.2.2.2.2.2.1 0 := callB_of (ws' := am_T) 0 hts (am_goodc hc) (by rw [hret]) hc.2.2.2.1 hc.2.2.2.2 (hts _ hc.2.1) (hts _ hl) hc.2.2.1 ⟨hR.1, hR.2.1⟩
  have run := va_runI (H := H) (locs := locs) (cells := k) (slots := n) (rest := rest) (below := below) (meth := meth) (e := e) (g := F0 m pc ls (.ref (s.heap.size + z) :: rest)) (b := s.heap.size + z) (As := []) ⟨C.1, C.2.1, C.2.2.2.1, C.2.2.2.2.1, hts⟩ (hM s.heap.size D cI cF) ⟨cb, hy, hts _ hi⟩ ⟨am_blind, hpre⟩ rfl rfl hls rfl (lv_room hst) hd ⟨hR.2.2.1, hR.2.2.2⟩
  exact am_cont run hS hg (fun H1 locs1 _ a1 a2 => kk H1 locs1 a1 a2)
end LWS
set_option maxRecDepth 100000 in
set_option maxHeartbeats 8000000 in
theorem start_open {p : Program} {e : Env} {s : State} {m : MethodId} {below : List Frame} {meth : Method} {c : Code} (l : Launch) {b L : Nat} {xs : Nat → Int32} (hL : L ≤ 3072) (C0 : lw_At p s m meth c b L xs) (Inv : AH → Prop) (hinit : ∃ (Γ8 : Gm) (h8 h9 : AH), fX8_init [(8, 0)] 0 (am_new am_hz 0) = some (Γ8, h8) ∧ fX9_init (Γ8 ++ [(9, 0)]) 119 (am_new h8 119) = some (GG, h9) ∧ Inv h9) (hstep : ∀ (i : Nat) (h : AH), i + 6 ≤ L → Inv h → ∃ h2, stepL xs i h = some (true, h2) ∧ Inv h2) : W p l e room_1 s m #[Value.ref b] below meth c s.heap [] 0 0 (lw_Z below #[Value.ref b] s) (entryFrame m ([Value.ref b] : List Value).toArray 4) := by
  obtain ⟨hx, hb, hr, hml, hown, hts, hX, hbl, hlocks, hgv⟩ := id C0
  obtain ⟨Γ8, h8, h9, hf8, hf9, hI⟩ := hinit
  obtain ⟨c0, iS0, hKn0⟩ := u_known (C := RX0) (T := TX0) (N := 2) (n := 2) hts (fun w h => am_T_in (am_in0 w h)) (hts _ (am_T_in tw_29))
  obtain ⟨c1, iS1, hKn1⟩ := u_known (C := RX1) (T := TX1) (N := 6) (n := 6) hts (fun w h => am_T_in (am_in1 w h)) (hts _ (am_T_in tw_151))
  obtain ⟨c2, iS2, hKn2⟩ := u_known (C := RX2) (T := TX2) (N := 6) (n := 6) hts (fun w h => am_T_in (am_in2 w h)) (hts _ (am_T_in tw_114))
  obtain ⟨c3, iS3, hKn3⟩ := u_known (C := RX3) (T := TX3) (N := 5) (n := 5) hts (fun w h => am_T_in (am_in3 w h)) (hts _ (am_T_in tw_23))
  obtain ⟨c4, iS4, hKn4⟩ := u_known (C := RX4) (T := TX4) (N := 5) (n := 5) hts (fun w h => am_T_in (am_in4 w h)) (hts _ (am_T_in tw_144))
  obtain ⟨c5, iS5, hKn5⟩ := u_known (C := RX5) (T := TX5) (N := 3) (n := 3) hts (fun w h => am_T_in (am_in5 w h)) (hts _ (am_T_in tw_96))
  obtain ⟨c6, iS6, hKn6⟩ := u_known (C := RX6) (T := TX6) (N := 4) (n := 4) hts (fun w h => am_T_in (am_in6 w h)) (hts _ (am_T_in tw_203))
  obtain ⟨c7, iS7, hKn7⟩ := u_known (C := RX7) (T := TX7) (N := 5) (n := 5) hts (fun w h => am_T_in (am_in7 w h)) (hts _ (am_T_in tw_68))
  obtain ⟨c8, iS8, hKn8⟩ := u_known (C := RX8) (T := TX8) (N := 16) (n := 16) hts (fun w h => am_T_in (am_in8 w h)) (hts _ (am_T_in tw_15))
  obtain ⟨c9, iS9, hKn9⟩ := u_known (C := RX9) (T := TX9) (N := 29) (n := 29) hts (fun w h => am_T_in (am_in9 w h)) (hts _ (am_T_in tw_714))
  obtain ⟨dC, dI, hKc⟩ : ∃ (dC : Nat → ClassId) (dI : Nat → Nat → Nat), ∀ (k : Nat) (q : vw_C), vwCl[k]? = some q → u_Kn s q.1 q.2.1 q.2.2 (dC k) (dI k) := by
    refine ⟨fun k => if k = 0 then c0 else if k = 1 then c1 else if k = 2 then c2 else if k = 3 then c3 else if k = 4 then c4 else if k = 5 then c5 else if k = 6 then c6 else if k = 7 then c7 else if k = 8 then c8 else c9, fun k => if k = 0 then iS0 else if k = 1 then iS1 else if k = 2 then iS2 else if k = 3 then iS3 else if k = 4 then iS4 else if k = 5 then iS5 else if k = 6 then iS6 else if k = 7 then iS7 else if k = 8 then iS8 else iS9, ?_⟩
    intro k q hq
    match k, hq with
    | 0, hq => cases hq; exact hKn0
    | 1, hq => cases hq; exact hKn1
    | 2, hq => cases hq; exact hKn2
    | 3, hq => cases hq; exact hKn3
    | 4, hq => cases hq; exact hKn4
    | 5, hq => cases hq; exact hKn5
    | 6, hq => cases hq; exact hKn6
    | 7, hq => cases hq; exact hKn7
    | 8, hq => cases hq; exact hKn8
    | 9, hq => cases hq; exact hKn9
    | k + 10, hq => simp [vwCl] at hq
  obtain ⟨cI, kI, compI, a1, a2, a3⟩ := Cond.arrayClass_spec (hts _ (am_T_in tw_49))
  have hov : (Cond.arrayOver (.object "ZSaves$Frame")).before #[Value.ref b] s = true := hts _ (List.mem_of_getElem? (i := 184) (by decide +kernel))
  obtain ⟨compF, cF, kF, b1, -, b2, b3, b4⟩ := Cond.arrayOver_spec hov
  have hK : va_K (dC, dI) vwCl (am_tys cI cF) s := by
    refine ⟨hKc, fun k q h => ?_⟩
    match k, h with
    | 0, h => cases h; exact ⟨fun n z => ⟨fun k h => (by cases h), kI, a2, compI, a3⟩, a1⟩
    | 1, h => cases h; exact ⟨fun n z => ⟨fun k h => (by cases h), kF, b2, compF, b3⟩, kF, compF, b2, b3, b1, b4⟩
    | k + 2, h => simp [am_tys] at h
  have hN : am_N s := am_N.start hts hov
  have hW : am_Wd (dC, dI) cI cF s.heap.size [] am_hz s.heap := ⟨fun a kd j z h => by simp at h, fun k q h => by simp [am_ws] at h⟩
  have hS : am_S s.heap.size s 0 [] s.heap [] := ⟨va_S.rf, rfl⟩
  have hl := lv_entry ([.ref b]) (n := 4) (Nat.le_of_ble_eq_true rfl)
  rw [lg_entry_eq]
  generalize (lg_sl ([.ref b]) ++ List.replicate (4 - (lg_sl ([.ref b])).length) Slot.unset).toArray = ls at hl ⊢
  have hl : lv_has ls 4 [(0, .ref b)] := hl
  refine lw_new (ci := 8) C0 hK hW hS dL_law_0 tw_14 tw_15 tw_1 ⟨by decide, rfl, rfl, am_in8⟩ tyX8_ok (by decide +kernel) ⟨Nat.le_of_ble_eq_true rfl, Nat.le_of_ble_eq_true rfl⟩ (fun H hW hS => ?_)
  refine lv_dup hx hb dL_law_3 rfl ?_
  have e8 := eX8_init hf8
  refine lw_init (z := 0) C0 hK hN hW hS (sX8_init l (n_v0 := 0) rfl hf8) ccX8_init rfl tw_16 tw_17 rfl ⟨Nat.le_of_ble_eq_true rfl, Nat.le_of_ble_eq_true rfl, Nat.le_of_ble_eq_true rfl, Nat.le_of_ble_eq_true rfl⟩ dL_law_4 hl.1 (Nat.le_of_ble_eq_true rfl) e8.2 (fun H locs hW hS => ?_)
  refine lv_astore_n (lv' := [(1, .ref (s.heap.size + 0)), (0, .ref b)]) hx hb dL_law_7 rfl hl (by decide) rfl (fun ls hl => ?_)
  have hlen : Γ8.length = 119 := e8.2
  refine lw_new (ci := 9) C0 hK hW hS dL_law_8 tw_713 tw_714 tw_11 ⟨by decide, rfl, rfl, am_in9⟩ tyX9_ok (by decide +kernel) ⟨Nat.le_of_ble_eq_true rfl, Nat.le_of_ble_eq_true rfl⟩ (fun H hW hS => ?_)
  rw [hlen] at hW
  rw [hlen]
  refine lv_dup hx hb dL_law_11 rfl ?_
  have e9 := eX9_init hf9
  refine lw_init (z := 119) C0 hK hN hW hS (sX9_init l (n_v0 := 0) (by rw [List.getElem?_append_right (by omega), hlen]; rfl) hf9) ccX9_init rfl tw_715 tw_716 rfl ⟨Nat.le_of_ble_eq_true rfl, Nat.le_of_ble_eq_true rfl, Nat.le_of_ble_eq_true rfl, Nat.le_of_ble_eq_true rfl⟩ dL_law_12 hl.1 (Nat.le_of_ble_eq_true rfl) e9.2 (fun H locs hW hS => ?_)
  refine lv_astore_n (lv' := [(2, .ref (s.heap.size + 119)), (1, .ref (s.heap.size + 0)), (0, .ref b)]) hx hb dL_law_15 rfl hl (by decide) rfl (fun ls hl => ?_)
  refine lv_iconst (v := nI 0) hx hb dL_law_16 (by decide) ?_
  refine lv_istore_n (lv' := [(3, .int (nI 0)), (2, .ref (s.heap.size + 119)), (1, .ref (s.heap.size + 0)), (0, .ref b)]) hx hb dL_law_17 rfl hl (by decide) rfl (fun ls hl => ?_)
  exact law_loop l hL Inv hstep (L + 1) 0 h9 (Nat.zero_le _) (by omega) hI p e s m below meth c b (dC, dI) cI cF H locs ls C0 hK hN hW hS (lv_sub hl [3, 2, 1, 0] rfl)
