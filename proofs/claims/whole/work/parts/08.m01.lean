set_option maxRecDepth 100000 in
set_option maxHeartbeats 4000000 in
theorem sX0_room (l : Launch) {Γ : Gm} {h h' : AH} {v0 : Nat} {r : Int32} {n_v0 : Nat} (k_v0 : Γ[v0]? = some (0, n_v0)) (hf : fX0_room Γ v0 h = some (r, h')) : AR l yX0_room mX0_room [.ref v0] Γ h (some (.int r), Γ, h') := by
  refine AR.of [some (.ref v0)] (by decide +kernel) rfl (fun z => by cases z) (Nat.le_of_ble_eq_true rfl) ⟨rfl, trivial⟩ ?_
  unfold fX0_room at hf
  refine a_aload_n dX0_room_0 rfl rfl ?_
  refine a_getR fl_RX0_15 dX0_room_1 rfl k_v0 rfl (by decide) hf (fun b1 n_b1 _ k_b1 hf => ?_)
  refine a_alen dX0_room_4 rfl k_b1 ?_
  refine a_aload_n dX0_room_5 rfl rfl ?_
  refine a_getI fl_RX0_21 dX0_room_6 rfl k_v0 rfl ?_
  refine a_isub dX0_room_9 rfl ?_
  cases hf
  exact a_iret dX0_room_10 rfl rfl rfl (by decide)
set_option maxRecDepth 100000 in
set_option maxHeartbeats 4000000 in
theorem sX0_at (l : Launch) {Γ : Gm} {h h' : AH} {v0 : Nat} {v1 : Int32} {r : Int32} {n_v0 : Nat} (k_v0 : Γ[v0]? = some (0, n_v0)) (hf : fX0_at Γ v0 v1 h = some (r, h')) : AR l yX0_at mX0_at [.ref v0, .int v1] Γ h (some (.int r), Γ, h') := by
  refine AR.of [some (.ref v0), some (.int v1)] (by decide +kernel) rfl (fun z => by cases z) (Nat.le_of_ble_eq_true rfl) ⟨rfl, ⟨rfl, trivial⟩⟩ ?_
  unfold fX0_at at hf
  refine a_iload_n dX0_at_0 rfl rfl ?_
  refine a_if_lt (t := 30) dX0_at_1 rfl rfl hf (fun _ hf => ?_) (fun _ hf => ?_)
  · refine a_iconst (v := nI 0) dX0_at_30 rfl (by decide) ?_
    cases hf
    exact a_iret dX0_at_31 rfl rfl rfl (by decide)
  refine a_iload_n dX0_at_4 rfl rfl ?_
  refine a_aload_n dX0_at_5 rfl rfl ?_
  refine a_getI fl_RX0_21 dX0_at_6 rfl k_v0 rfl ?_
  refine a_icmp_ge (t := 30) dX0_at_9 rfl rfl hf (fun _ hf => ?_) (fun _ hf => ?_)
  · refine a_iconst (v := nI 0) dX0_at_30 rfl (by decide) ?_
    cases hf
    exact a_iret dX0_at_31 rfl rfl rfl (by decide)
  refine a_iload_n dX0_at_12 rfl rfl ?_
  refine a_aload_n dX0_at_13 rfl rfl ?_
  refine a_getR fl_RX0_15 dX0_at_14 rfl k_v0 rfl (by decide) hf (fun b14 n_b14 _ k_b14 hf => ?_)
  refine a_alen dX0_at_17 rfl k_b14 ?_
  refine a_icmp_ge (t := 30) dX0_at_18 rfl rfl hf (fun _ hf => ?_) (fun _ hf => ?_)
  · refine a_iconst (v := nI 0) dX0_at_30 rfl (by decide) ?_
    cases hf
    exact a_iret dX0_at_31 rfl rfl rfl (by decide)
  refine a_aload_n dX0_at_21 rfl rfl ?_
  refine a_getR fl_RX0_15 dX0_at_22 rfl k_v0 rfl (by decide) hf (fun b22 n_b22 _ k_b22 hf => ?_)
  refine a_iload_n dX0_at_25 rfl rfl ?_
  refine a_iald dX0_at_26 rfl k_b22 hf (fun hf => ?_)
  refine a_goto (t := 31) dX0_at_27 rfl ?_
  cases hf
  exact a_iret dX0_at_31 rfl rfl rfl (by decide)
set_option maxRecDepth 100000 in
set_option maxHeartbeats 4000000 in
theorem wX0_number_5 (l : Launch) {Γ : Gm} {r : Int32} {h' : AH} : ∀ (z : Nat) (v0 : Nat) (v1 : Int32) (v2 : Int32) (v3 : Int32) (v4 : Int32) (h : AH), ∀ n_v0 : Nat, Γ[v0]? = some (0, n_v0) → fX0_number_5 Γ z v0 v1 v2 v3 v4 h = some (r, h') → AW l mX0_number (some (.int r), Γ, h') 0 0 5 [some (.ref v0), some (.int v1), some (.int v2), some (.int v3), some (.int v4)] [] Γ h := by
  intro z
  induction z with
  | zero => intro v0 v1 v2 v3 v4 h n_v0 k_v0 hf; cases hf
  | succ z ih =>
    intro v0 v1 v2 v3 v4 h n_v0 k_v0 hf
    unfold fX0_number_5 at hf
    refine a_iload dX0_number_5 rfl rfl ?_
    refine a_iload_n dX0_number_7 rfl rfl ?_
    refine a_icmp_ge (t := 31) dX0_number_8 rfl rfl hf (fun _ hf => ?_) (fun _ hf => ?_)
    · refine a_iload_n dX0_number_31 rfl rfl ?_
      cases hf
      exact a_iret dX0_number_32 rfl rfl rfl (by decide)
    refine a_iload_n dX0_number_11 rfl rfl ?_
    refine a_bipush (v := nI 8) dX0_number_12 rfl (by decide) ?_
    refine a_ishl dX0_number_14 rfl ?_
    refine a_aload_n dX0_number_15 rfl rfl ?_
    refine a_iload_n dX0_number_16 rfl rfl ?_
    refine a_iload dX0_number_17 rfl rfl ?_
    refine a_iadd dX0_number_19 rfl ?_
    obtain ⟨r20, h20, hc20, hf⟩ := am_bind_some hf
    refine a_callV (As := [.int (v1 + v4)]) (r1 := (some (.int r20), Γ, h20)) (sX0_at l k_v0 hc20) ccX0_at tw_555 tw_309 tw_310 (ci := 0) rfl (by decide) ⟨Nat.le_of_ble_eq_true rfl, Nat.le_of_ble_eq_true rfl, Nat.le_of_ble_eq_true rfl, Nat.le_of_ble_eq_true rfl⟩ dX0_number_20 rfl k_v0 rfl (Nat.le_of_ble_eq_true rfl) rfl rfl (fun hr20 => ?_)
    refine a_ior dX0_number_23 rfl ?_
    refine a_nmI hf (fun x24 hf => ?_)
    refine a_istore_n (L' := [some (.ref v0), some (.int v1), some (.int v2), some (.int x24), some (.int v4)]) dX0_number_24 rfl (Nat.le_of_ble_eq_true rfl) (fun _ _ hv => by cases hv; rfl) rfl ?_
    refine a_iinc (v := v4 + nI 1) (L' := [some (.ref v0), some (.int v1), some (.int v2), some (.int x24), some (.int (v4 + nI 1))]) dX0_number_25 rfl rfl rfl (Nat.le_of_ble_eq_true rfl) (fun _ _ hv => by cases hv; rfl) rfl ?_
    refine a_goto (t := 5) dX0_number_28 rfl ?_
    exact AW.weak (ih v0 v1 v2 x24 (v4 + nI 1) h20 _ k_v0 hf) ⟨rfl, ⟨rfl, ⟨rfl, ⟨rfl, ⟨rfl, trivial⟩⟩⟩⟩⟩
set_option maxRecDepth 100000 in
set_option maxHeartbeats 4000000 in
theorem sX0_number (l : Launch) {Γ : Gm} {h h' : AH} {v0 : Nat} {v1 : Int32} {v2 : Int32} {r : Int32} {n_v0 : Nat} (k_v0 : Γ[v0]? = some (0, n_v0)) (hf : fX0_number Γ v0 v1 v2 h = some (r, h')) : AR l yX0_number mX0_number [.ref v0, .int v1, .int v2] Γ h (some (.int r), Γ, h') := by
  refine AR.of [some (.ref v0), some (.int v1), some (.int v2), none, none] (by decide +kernel) rfl (fun z => by cases z) (Nat.le_of_ble_eq_true rfl) ⟨rfl, ⟨rfl, ⟨rfl, trivial⟩⟩⟩ ?_
  unfold fX0_number at hf
  refine a_iconst (v := nI 0) dX0_number_0 rfl (by decide) ?_
  refine a_istore_n (L' := [some (.ref v0), some (.int v1), some (.int v2), some (.int (nI 0)), none]) dX0_number_1 rfl (Nat.le_of_ble_eq_true rfl) (fun _ _ hv => by cases hv; rfl) rfl ?_
  refine a_iconst (v := nI 0) dX0_number_2 rfl (by decide) ?_
  refine a_istore (L' := [some (.ref v0), some (.int v1), some (.int v2), some (.int (nI 0)), some (.int (nI 0))]) dX0_number_3 rfl (Nat.le_of_ble_eq_true rfl) (fun _ _ hv => by cases hv; rfl) rfl ?_
  exact AW.weak (wX0_number_5 l am_fuel v0 v1 v2 (nI 0) (nI 0) h _ k_v0 hf) ⟨rfl, ⟨rfl, ⟨rfl, ⟨rfl, ⟨rfl, trivial⟩⟩⟩⟩⟩
set_option maxRecDepth 100000 in
set_option maxHeartbeats 4000000 in
theorem sX0_add (l : Launch) {Γ : Gm} {h h' : AH} {v0 : Nat} {v1 : Int32} {r : Unit} {n_v0 : Nat} (k_v0 : Γ[v0]? = some (0, n_v0)) (hf : fX0_add Γ v0 v1 h = some (r, h')) : AR l yX0_add mX0_add [.ref v0, .int v1] Γ h (none, Γ, h') := by
  refine AR.of [some (.ref v0), some (.int v1)] (by decide +kernel) rfl (fun z => by cases z) (Nat.le_of_ble_eq_true rfl) ⟨rfl, ⟨rfl, trivial⟩⟩ ?_
  unfold fX0_add at hf
  refine a_aload_n dX0_add_0 rfl rfl ?_
  refine a_getI fl_RX0_21 dX0_add_1 rfl k_v0 rfl ?_
  refine a_if_lt (t := 43) dX0_add_4 rfl rfl hf (fun _ hf => ?_) (fun _ hf => ?_)
  · cases hf
    exact a_ret dX0_add_43 rfl rfl rfl
  refine a_aload_n dX0_add_7 rfl rfl ?_
  refine a_getI fl_RX0_21 dX0_add_8 rfl k_v0 rfl ?_
  refine a_aload_n dX0_add_11 rfl rfl ?_
  refine a_getR fl_RX0_15 dX0_add_12 rfl k_v0 rfl (by decide) hf (fun b12 n_b12 _ k_b12 hf => ?_)
  refine a_alen dX0_add_15 rfl k_b12 ?_
  refine a_icmp_ge (t := 43) dX0_add_16 rfl rfl hf (fun _ hf => ?_) (fun _ hf => ?_)
  · cases hf
    exact a_ret dX0_add_43 rfl rfl rfl
  refine a_aload_n dX0_add_19 rfl rfl ?_
  refine a_getR fl_RX0_15 dX0_add_20 rfl k_v0 rfl (by decide) hf (fun b20 n_b20 _ k_b20 hf => ?_)
  refine a_aload_n dX0_add_23 rfl rfl ?_
  refine a_getI fl_RX0_21 dX0_add_24 rfl k_v0 rfl ?_
  refine a_iload_n dX0_add_27 rfl rfl ?_
  refine a_sipush (v := nI 255) dX0_add_28 rfl (by decide) ?_
  refine a_iand dX0_add_31 rfl ?_
  refine a_iast dX0_add_32 rfl k_b20 hf (fun h32 hf => ?_)
  refine a_aload_n dX0_add_33 rfl rfl ?_
  refine a_dup dX0_add_34 rfl rfl ?_
  refine a_getI fl_RX0_21 dX0_add_35 rfl k_v0 rfl ?_
  refine a_iconst (v := nI 1) dX0_add_38 rfl (by decide) ?_
  refine a_iadd dX0_add_39 rfl ?_
  refine a_putI fp_RX0_21 dX0_add_40 rfl k_v0 rfl hf (fun h40 hf => ?_)
  cases hf
  exact a_ret dX0_add_43 rfl rfl rfl
set_option maxRecDepth 100000 in
set_option maxHeartbeats 4000000 in
theorem wX0_addNumber_4 (l : Launch) {Γ : Gm} {r : Unit} {h' : AH} : ∀ (z : Nat) (v0 : Nat) (v1 : Int32) (v3 : Int32) (h : AH), ∀ n_v0 : Nat, Γ[v0]? = some (0, n_v0) → fX0_addNumber_4 Γ z v0 v1 v3 h = some (r, h') → AW l mX0_addNumber (none, Γ, h') 0 0 4 [some (.ref v0), some (.int v1), none, some (.int v3)] [] Γ h := by
  intro z
  induction z with
  | zero => intro v0 v1 v3 h n_v0 k_v0 hf; cases hf
  | succ z ih =>
    intro v0 v1 v3 h n_v0 k_v0 hf
    unfold fX0_addNumber_4 at hf
    refine a_iload_n dX0_addNumber_4 rfl rfl ?_
    refine a_if_lt (t := 24) dX0_addNumber_5 rfl rfl hf (fun _ hf => ?_) (fun _ hf => ?_)
    · cases hf
      exact a_ret dX0_addNumber_24 rfl rfl rfl
    refine a_aload_n dX0_addNumber_8 rfl rfl ?_
    refine a_iload_n dX0_addNumber_9 rfl rfl ?_
    refine a_bipush (v := nI 8) dX0_addNumber_10 rfl (by decide) ?_
    refine a_iload_n dX0_addNumber_12 rfl rfl ?_
    refine a_imul dX0_addNumber_13 rfl ?_
    refine a_iushr dX0_addNumber_14 rfl ?_
    obtain ⟨r15, h15, hc15, hf⟩ := am_bind_some hf
    refine a_callV (As := [.int (am_ushr v1 ((nI 8) * v3))]) (r1 := (none, Γ, h15)) (sX0_add l k_v0 hc15) ccX0_add tw_289 tw_290 tw_291 (ci := 0) rfl (by decide) ⟨Nat.le_of_ble_eq_true rfl, Nat.le_of_ble_eq_true rfl, Nat.le_of_ble_eq_true rfl, Nat.le_of_ble_eq_true rfl⟩ dX0_addNumber_15 rfl k_v0 rfl (Nat.le_of_ble_eq_true rfl) rfl rfl (fun hr15 => ?_)
    refine a_iinc (v := v3 + (-1 : Int32)) (L' := [some (.ref v0), some (.int v1), none, some (.int (v3 + (-1 : Int32)))]) dX0_addNumber_18 rfl rfl rfl (Nat.le_of_ble_eq_true rfl) (fun _ _ hv => by cases hv) rfl ?_
    refine a_goto (t := 4) dX0_addNumber_21 rfl ?_
    exact AW.weak (ih v0 v1 (v3 + (-1 : Int32)) h15 _ k_v0 hf) ⟨rfl, ⟨rfl, ⟨rfl, trivial⟩⟩⟩
set_option maxRecDepth 100000 in
set_option maxHeartbeats 4000000 in
theorem sX0_addNumber (l : Launch) {Γ : Gm} {h h' : AH} {v0 : Nat} {v1 : Int32} {v2 : Int32} {r : Unit} {n_v0 : Nat} (k_v0 : Γ[v0]? = some (0, n_v0)) (hf : fX0_addNumber Γ v0 v1 v2 h = some (r, h')) : AR l yX0_addNumber mX0_addNumber [.ref v0, .int v1, .int v2] Γ h (none, Γ, h') := by
  refine AR.of [some (.ref v0), some (.int v1), some (.int v2), none] (by decide +kernel) rfl (fun z => by cases z) (Nat.le_of_ble_eq_true rfl) ⟨rfl, ⟨rfl, ⟨rfl, trivial⟩⟩⟩ ?_
  unfold fX0_addNumber at hf
  refine a_iload_n dX0_addNumber_0 rfl rfl ?_
  refine a_iconst (v := nI 1) dX0_addNumber_1 rfl (by decide) ?_
  refine a_isub dX0_addNumber_2 rfl ?_
  refine a_nmI hf (fun x3 hf => ?_)
  refine a_istore_n (L' := [some (.ref v0), some (.int v1), some (.int v2), some (.int x3)]) dX0_addNumber_3 rfl (Nat.le_of_ble_eq_true rfl) (fun _ _ hv => by cases hv; rfl) rfl ?_
  exact AW.weak (wX0_addNumber_4 l am_fuel v0 v1 x3 h _ k_v0 hf) ⟨rfl, ⟨rfl, ⟨rfl, trivial⟩⟩⟩
set_option maxRecDepth 100000 in
set_option maxHeartbeats 4000000 in
theorem sX0_addPart (l : Launch) {Γ : Gm} {h h' : AH} {v0 : Nat} {v1 : Nat} {v2 : Int32} {v3 : Int32} {r : Unit} {n_v0 : Nat} (k_v0 : Γ[v0]? = some (0, n_v0)) {n_v1 : Nat} (k_v1 : Γ[v1]? = some (0, n_v1)) (hf : fX0_addPart Γ v0 v1 v2 v3 h = some (r, h')) : AR l yX0_addPart mX0_addPart [.ref v0, .ref v1, .int v2, .int v3] Γ h (none, Γ, h') := by
  refine AR.of [some (.ref v0), some (.ref v1), some (.int v2), some (.int v3)] (by decide +kernel) rfl (fun z => by cases z) (Nat.le_of_ble_eq_true rfl) ⟨rfl, ⟨rfl, ⟨rfl, ⟨rfl, trivial⟩⟩⟩⟩ ?_
  unfold fX0_addPart at hf
  refine a_iload_n dX0_addPart_0 rfl rfl ?_
  refine a_if_lt (t := 53) dX0_addPart_1 rfl rfl hf (fun _ hf => ?_) (fun _ hf => ?_)
  · cases hf
    exact a_ret dX0_addPart_53 rfl rfl rfl
  refine a_iload_n dX0_addPart_4 rfl rfl ?_
  refine a_if_lt (t := 53) dX0_addPart_5 rfl rfl hf (fun _ hf => ?_) (fun _ hf => ?_)
  · cases hf
    exact a_ret dX0_addPart_53 rfl rfl rfl
  refine a_iload_n dX0_addPart_8 rfl rfl ?_
  refine a_aload_n dX0_addPart_9 rfl rfl ?_
  refine a_getI fl_RX0_21 dX0_addPart_10 rfl k_v1 rfl ?_
  refine a_iload_n dX0_addPart_13 rfl rfl ?_
  refine a_isub dX0_addPart_14 rfl ?_
  refine a_icmp_gt (t := 53) dX0_addPart_15 rfl rfl hf (fun _ hf => ?_) (fun _ hf => ?_)
  · cases hf
    exact a_ret dX0_addPart_53 rfl rfl rfl
  refine a_iload_n dX0_addPart_18 rfl rfl ?_
  refine a_aload_n dX0_addPart_19 rfl rfl ?_
  obtain ⟨r20, h20, hc20, hf⟩ := am_bind_some hf
  refine a_callV (As := []) (r1 := (some (.int r20), Γ, h20)) (sX0_room l k_v0 hc20) ccX0_room tw_332 tw_282 tw_283 (ci := 0) rfl (by decide) ⟨Nat.le_of_ble_eq_true rfl, Nat.le_of_ble_eq_true rfl, Nat.le_of_ble_eq_true rfl, Nat.le_of_ble_eq_true rfl⟩ dX0_addPart_20 rfl k_v0 rfl (Nat.le_of_ble_eq_true rfl) rfl rfl (fun hr20 => ?_)
  refine a_icmp_gt (t := 53) dX0_addPart_23 rfl rfl hf (fun _ hf => ?_) (fun _ hf => ?_)
  · cases hf
    exact a_ret dX0_addPart_53 rfl rfl rfl
  refine a_aload_n dX0_addPart_26 rfl rfl ?_
  refine a_getR fl_RX0_15 dX0_addPart_27 rfl k_v1 rfl (by decide) hf (fun b27 n_b27 _ k_b27 hf => ?_)
  refine a_iload_n dX0_addPart_30 rfl rfl ?_
  refine a_aload_n dX0_addPart_31 rfl rfl ?_
  refine a_getR fl_RX0_15 dX0_addPart_32 rfl k_v0 rfl (by decide) hf (fun b32 n_b32 _ k_b32 hf => ?_)
  refine a_aload_n dX0_addPart_35 rfl rfl ?_
  refine a_getI fl_RX0_21 dX0_addPart_36 rfl k_v0 rfl ?_
  refine a_iload_n dX0_addPart_39 rfl rfl ?_
  refine a_copy dX0_addPart_40 rfl tw_333 tw_335 tw_334 tw_12 ⟨Nat.le_of_ble_eq_true rfl, Nat.le_of_ble_eq_true rfl⟩ k_b27 k_b32 hf (fun h40 hf => ?_)
  refine a_aload_n dX0_addPart_43 rfl rfl ?_
  refine a_dup dX0_addPart_44 rfl rfl ?_
  refine a_getI fl_RX0_21 dX0_addPart_45 rfl k_v0 rfl ?_
  refine a_iload_n dX0_addPart_48 rfl rfl ?_
  refine a_iadd dX0_addPart_49 rfl ?_
  refine a_putI fp_RX0_21 dX0_addPart_50 rfl k_v0 rfl hf (fun h50 hf => ?_)
  cases hf
  exact a_ret dX0_addPart_53 rfl rfl rfl
set_option maxRecDepth 100000 in
set_option maxHeartbeats 4000000 in
theorem wX0_setNumber_16 (l : Launch) {Γ : Gm} {r : Unit} {h' : AH} : ∀ (z : Nat) (v0 : Nat) (v1 : Int32) (v2 : Int32) (v3 : Int32) (h : AH), ∀ n_v0 : Nat, Γ[v0]? = some (0, n_v0) → fX0_setNumber_16 Γ z v0 v1 v2 v3 h = some (r, h') → AW l mX0_setNumber (none, Γ, h') 0 0 16 [some (.ref v0), some (.int v1), some (.int v2), some (.int v3)] [] Γ h := by
  intro z
  induction z with
  | zero => intro v0 v1 v2 v3 h n_v0 k_v0 hf; cases hf
  | succ z ih =>
    intro v0 v1 v2 v3 h n_v0 k_v0 hf
    unfold fX0_setNumber_16 at hf
    refine a_iload_n dX0_setNumber_16 rfl rfl ?_
    refine a_iconst (v := nI 4) dX0_setNumber_17 rfl (by decide) ?_
    refine a_icmp_ge (t := 48) dX0_setNumber_18 rfl rfl hf (fun _ hf => ?_) (fun _ hf => ?_)
    · cases hf
      exact a_ret dX0_setNumber_48 rfl rfl rfl
    refine a_aload_n dX0_setNumber_21 rfl rfl ?_
    refine a_getR fl_RX0_15 dX0_setNumber_22 rfl k_v0 rfl (by decide) hf (fun b22 n_b22 _ k_b22 hf => ?_)
    refine a_iload_n dX0_setNumber_25 rfl rfl ?_
    refine a_iload_n dX0_setNumber_26 rfl rfl ?_
    refine a_iadd dX0_setNumber_27 rfl ?_
    refine a_iload_n dX0_setNumber_28 rfl rfl ?_
    refine a_bipush (v := nI 24) dX0_setNumber_29 rfl (by decide) ?_
    refine a_bipush (v := nI 8) dX0_setNumber_31 rfl (by decide) ?_
    refine a_iload_n dX0_setNumber_33 rfl rfl ?_
    refine a_imul dX0_setNumber_34 rfl ?_
    refine a_isub dX0_setNumber_35 rfl ?_
    refine a_iushr dX0_setNumber_36 rfl ?_
    refine a_sipush (v := nI 255) dX0_setNumber_37 rfl (by decide) ?_
    refine a_iand dX0_setNumber_40 rfl ?_
    refine a_iast dX0_setNumber_41 rfl k_b22 hf (fun h41 hf => ?_)
    refine a_iinc (v := v3 + nI 1) (L' := [some (.ref v0), some (.int v1), some (.int v2), some (.int (v3 + nI 1))]) dX0_setNumber_42 rfl rfl rfl (Nat.le_of_ble_eq_true rfl) (fun _ _ hv => by cases hv; rfl) rfl ?_
    refine a_goto (t := 16) dX0_setNumber_45 rfl ?_
    exact AW.weak (ih v0 v1 v2 (v3 + nI 1) h41 _ k_v0 hf) ⟨rfl, ⟨rfl, ⟨rfl, ⟨rfl, trivial⟩⟩⟩⟩
set_option maxRecDepth 100000 in
set_option maxHeartbeats 4000000 in
theorem sX0_setNumber (l : Launch) {Γ : Gm} {h h' : AH} {v0 : Nat} {v1 : Int32} {v2 : Int32} {r : Unit} {n_v0 : Nat} (k_v0 : Γ[v0]? = some (0, n_v0)) (hf : fX0_setNumber Γ v0 v1 v2 h = some (r, h')) : AR l yX0_setNumber mX0_setNumber [.ref v0, .int v1, .int v2] Γ h (none, Γ, h') := by
  refine AR.of [some (.ref v0), some (.int v1), some (.int v2), none] (by decide +kernel) rfl (fun z => by cases z) (Nat.le_of_ble_eq_true rfl) ⟨rfl, ⟨rfl, ⟨rfl, trivial⟩⟩⟩ ?_
  unfold fX0_setNumber at hf
  refine a_iload_n dX0_setNumber_0 rfl rfl ?_
  refine a_if_lt (t := 48) dX0_setNumber_1 rfl rfl hf (fun _ hf => ?_) (fun _ hf => ?_)
  · cases hf
    exact a_ret dX0_setNumber_48 rfl rfl rfl
  refine a_iload_n dX0_setNumber_4 rfl rfl ?_
  refine a_aload_n dX0_setNumber_5 rfl rfl ?_
  refine a_getI fl_RX0_21 dX0_setNumber_6 rfl k_v0 rfl ?_
  refine a_iconst (v := nI 4) dX0_setNumber_9 rfl (by decide) ?_
  refine a_isub dX0_setNumber_10 rfl ?_
  refine a_icmp_gt (t := 48) dX0_setNumber_11 rfl rfl hf (fun _ hf => ?_) (fun _ hf => ?_)
  · cases hf
    exact a_ret dX0_setNumber_48 rfl rfl rfl
  refine a_iconst (v := nI 0) dX0_setNumber_14 rfl (by decide) ?_
  refine a_istore_n (L' := [some (.ref v0), some (.int v1), some (.int v2), some (.int (nI 0))]) dX0_setNumber_15 rfl (Nat.le_of_ble_eq_true rfl) (fun _ _ hv => by cases hv; rfl) rfl ?_
  exact AW.weak (wX0_setNumber_16 l am_fuel v0 v1 v2 (nI 0) h _ k_v0 hf) ⟨rfl, ⟨rfl, ⟨rfl, ⟨rfl, trivial⟩⟩⟩⟩
set_option maxRecDepth 100000 in
set_option maxHeartbeats 4000000 in
theorem sX0_clear (l : Launch) {Γ : Gm} {h h' : AH} {v0 : Nat} {r : Unit} {n_v0 : Nat} (k_v0 : Γ[v0]? = some (0, n_v0)) (hf : fX0_clear Γ v0 h = some (r, h')) : AR l yX0_clear mX0_clear [.ref v0] Γ h (none, Γ, h') := by
  refine AR.of [some (.ref v0)] (by decide +kernel) rfl (fun z => by cases z) (Nat.le_of_ble_eq_true rfl) ⟨rfl, trivial⟩ ?_
  unfold fX0_clear at hf
  refine a_aload_n dX0_clear_0 rfl rfl ?_
  refine a_iconst (v := nI 0) dX0_clear_1 rfl (by decide) ?_
  refine a_putI fp_RX0_21 dX0_clear_2 rfl k_v0 rfl hf (fun h2 hf => ?_)
  cases hf
  exact a_ret dX0_clear_5 rfl rfl rfl
set_option maxRecDepth 100000 in
set_option maxHeartbeats 4000000 in
theorem sX0_copyOf (l : Launch) {Γ : Gm} {h h' : AH} {v0 : Nat} {v1 : Nat} {r : Unit} {n_v0 : Nat} (k_v0 : Γ[v0]? = some (0, n_v0)) {n_v1 : Nat} (k_v1 : Γ[v1]? = some (0, n_v1)) (hf : fX0_copyOf Γ v0 v1 h = some (r, h')) : AR l yX0_copyOf mX0_copyOf [.ref v0, .ref v1] Γ h (none, Γ, h') := by
  refine AR.of [some (.ref v0), some (.ref v1)] (by decide +kernel) rfl (fun z => by cases z) (Nat.le_of_ble_eq_true rfl) ⟨rfl, ⟨rfl, trivial⟩⟩ ?_
  unfold fX0_copyOf at hf
  refine a_aload_n dX0_copyOf_0 rfl rfl ?_
  obtain ⟨r1, h1, hc1, hf⟩ := am_bind_some hf
  refine a_callV (As := []) (r1 := (none, Γ, h1)) (sX0_clear l k_v0 hc1) ccX0_clear tw_324 tw_325 tw_326 (ci := 0) rfl (by decide) ⟨Nat.le_of_ble_eq_true rfl, Nat.le_of_ble_eq_true rfl, Nat.le_of_ble_eq_true rfl, Nat.le_of_ble_eq_true rfl⟩ dX0_copyOf_1 rfl k_v0 rfl (Nat.le_of_ble_eq_true rfl) rfl rfl (fun hr1 => ?_)
  refine a_aload_n dX0_copyOf_4 rfl rfl ?_
  refine a_aload_n dX0_copyOf_5 rfl rfl ?_
  refine a_iconst (v := nI 0) dX0_copyOf_6 rfl (by decide) ?_
  refine a_aload_n dX0_copyOf_7 rfl rfl ?_
  refine a_getI fl_RX0_21 dX0_copyOf_8 rfl k_v1 rfl ?_
  obtain ⟨r11, h11, hc11, hf⟩ := am_bind_some hf
  refine a_callV (As := [.ref v1, .int (nI 0), .int (h1.1 v1 1)]) (r1 := (none, Γ, h11)) (sX0_addPart l k_v0 k_v1 hc11) ccX0_addPart tw_328 tw_329 tw_330 (ci := 0) rfl (by decide) ⟨Nat.le_of_ble_eq_true rfl, Nat.le_of_ble_eq_true rfl, Nat.le_of_ble_eq_true rfl, Nat.le_of_ble_eq_true rfl⟩ dX0_copyOf_11 rfl k_v0 rfl (Nat.le_of_ble_eq_true rfl) rfl rfl (fun hr11 => ?_)
  cases hf
  exact a_ret dX0_copyOf_14 rfl rfl rfl
set_option maxRecDepth 100000 in
set_option maxHeartbeats 4000000 in
theorem sX0_keepFirst (l : Launch) {Γ : Gm} {h h' : AH} {v0 : Nat} {v1 : Int32} {r : Unit} {n_v0 : Nat} (k_v0 : Γ[v0]? = some (0, n_v0)) (hf : fX0_keepFirst Γ v0 v1 h = some (r, h')) : AR l yX0_keepFirst mX0_keepFirst [.ref v0, .int v1] Γ h (none, Γ, h') := by
  refine AR.of [some (.ref v0), some (.int v1)] (by decide +kernel) rfl (fun z => by cases z) (Nat.le_of_ble_eq_true rfl) ⟨rfl, ⟨rfl, trivial⟩⟩ ?_
  unfold fX0_keepFirst at hf
  refine a_iload_n dX0_keepFirst_0 rfl rfl ?_
  refine a_if_lt (t := 17) dX0_keepFirst_1 rfl rfl hf (fun _ hf => ?_) (fun _ hf => ?_)
  · cases hf
    exact a_ret dX0_keepFirst_17 rfl rfl rfl
  refine a_iload_n dX0_keepFirst_4 rfl rfl ?_
  refine a_aload_n dX0_keepFirst_5 rfl rfl ?_
  refine a_getI fl_RX0_21 dX0_keepFirst_6 rfl k_v0 rfl ?_
  refine a_icmp_ge (t := 17) dX0_keepFirst_9 rfl rfl hf (fun _ hf => ?_) (fun _ hf => ?_)
  · cases hf
    exact a_ret dX0_keepFirst_17 rfl rfl rfl
  refine a_aload_n dX0_keepFirst_12 rfl rfl ?_
  refine a_iload_n dX0_keepFirst_13 rfl rfl ?_
  refine a_putI fp_RX0_21 dX0_keepFirst_14 rfl k_v0 rfl hf (fun h14 hf => ?_)
  cases hf
  exact a_ret dX0_keepFirst_17 rfl rfl rfl
set_option maxRecDepth 100000 in
set_option maxHeartbeats 4000000 in
theorem sX0_dropFirst (l : Launch) {Γ : Gm} {h h' : AH} {v0 : Nat} {v1 : Int32} {r : Unit} {n_v0 : Nat} (k_v0 : Γ[v0]? = some (0, n_v0)) (hf : fX0_dropFirst Γ v0 v1 h = some (r, h')) : AR l yX0_dropFirst mX0_dropFirst [.ref v0, .int v1] Γ h (none, Γ, h') := by
  refine AR.of [some (.ref v0), some (.int v1)] (by decide +kernel) rfl (fun z => by cases z) (Nat.le_of_ble_eq_true rfl) ⟨rfl, ⟨rfl, trivial⟩⟩ ?_
  unfold fX0_dropFirst at hf
  refine a_iload_n dX0_dropFirst_0 rfl rfl ?_
  refine a_if_lt (t := 41) dX0_dropFirst_1 rfl rfl hf (fun _ hf => ?_) (fun _ hf => ?_)
  · cases hf
    exact a_ret dX0_dropFirst_41 rfl rfl rfl
  refine a_iload_n dX0_dropFirst_4 rfl rfl ?_
  refine a_aload_n dX0_dropFirst_5 rfl rfl ?_
  refine a_getI fl_RX0_21 dX0_dropFirst_6 rfl k_v0 rfl ?_
  refine a_icmp_gt (t := 41) dX0_dropFirst_9 rfl rfl hf (fun _ hf => ?_) (fun _ hf => ?_)
  · cases hf
    exact a_ret dX0_dropFirst_41 rfl rfl rfl
  refine a_aload_n dX0_dropFirst_12 rfl rfl ?_
  refine a_getR fl_RX0_15 dX0_dropFirst_13 rfl k_v0 rfl (by decide) hf (fun b13 n_b13 _ k_b13 hf => ?_)
  refine a_iload_n dX0_dropFirst_16 rfl rfl ?_
  refine a_aload_n dX0_dropFirst_17 rfl rfl ?_
  refine a_getR fl_RX0_15 dX0_dropFirst_18 rfl k_v0 rfl (by decide) hf (fun b18 n_b18 _ k_b18 hf => ?_)
  refine a_iconst (v := nI 0) dX0_dropFirst_21 rfl (by decide) ?_
  refine a_aload_n dX0_dropFirst_22 rfl rfl ?_
  refine a_getI fl_RX0_21 dX0_dropFirst_23 rfl k_v0 rfl ?_
  refine a_iload_n dX0_dropFirst_26 rfl rfl ?_
  refine a_isub dX0_dropFirst_27 rfl ?_
  refine a_copy dX0_dropFirst_28 rfl tw_333 tw_335 tw_334 tw_12 ⟨Nat.le_of_ble_eq_true rfl, Nat.le_of_ble_eq_true rfl⟩ k_b13 k_b18 hf (fun h28 hf => ?_)
  refine a_aload_n dX0_dropFirst_31 rfl rfl ?_
  refine a_dup dX0_dropFirst_32 rfl rfl ?_
  refine a_getI fl_RX0_21 dX0_dropFirst_33 rfl k_v0 rfl ?_
  refine a_iload_n dX0_dropFirst_36 rfl rfl ?_
  refine a_isub dX0_dropFirst_37 rfl ?_
  refine a_putI fp_RX0_21 dX0_dropFirst_38 rfl k_v0 rfl hf (fun h38 hf => ?_)
  cases hf
  exact a_ret dX0_dropFirst_41 rfl rfl rfl
set_option maxRecDepth 100000 in
set_option maxHeartbeats 4000000 in
theorem wX1_begin_29 (l : Launch) {Γ : Gm} {r : Unit} {h' : AH} : ∀ (z : Nat) (v0 : Nat) (v5 : Int32) (h : AH), ∀ n_v0 : Nat, Γ[v0]? = some (1, n_v0) → fX1_begin_29 Γ z v0 v5 h = some (r, h') → AW l mX1_begin (none, Γ, h') 0 0 29 [some (.ref v0), none, none, none, none, some (.int v5)] [] Γ h := by
  intro z
  induction z with
  | zero => intro v0 v5 h n_v0 k_v0 hf; cases hf
  | succ z ih =>
    intro v0 v5 h n_v0 k_v0 hf
    unfold fX1_begin_29 at hf
    refine a_iload dX1_begin_29 rfl rfl ?_
    refine a_bipush (v := nI 15) dX1_begin_31 rfl (by decide) ?_
    refine a_icmp_ge (t := 50) dX1_begin_33 rfl rfl hf (fun _ hf => ?_) (fun _ hf => ?_)
    · cases hf
      exact a_ret dX1_begin_50 rfl rfl rfl
    refine a_aload_n dX1_begin_36 rfl rfl ?_
    refine a_getR fl_RX1_9 dX1_begin_37 rfl k_v0 rfl (by decide) hf (fun b37 n_b37 _ k_b37 hf => ?_)
    refine a_iload dX1_begin_40 rfl rfl ?_
    refine a_iconst (v := nI 0) dX1_begin_42 rfl (by decide) ?_
    refine a_iast dX1_begin_43 rfl k_b37 hf (fun h43 hf => ?_)
    refine a_iinc (v := v5 + nI 1) (L' := [some (.ref v0), none, none, none, none, some (.int (v5 + nI 1))]) dX1_begin_44 rfl rfl rfl (Nat.le_of_ble_eq_true rfl) (fun _ _ hv => by cases hv) rfl ?_
    refine a_goto (t := 29) dX1_begin_47 rfl ?_
    exact AW.weak (ih v0 (v5 + nI 1) h43 _ k_v0 hf) ⟨rfl, ⟨rfl, trivial⟩⟩
set_option maxRecDepth 100000 in
set_option maxHeartbeats 4000000 in
theorem sX1_begin (l : Launch) {Γ : Gm} {h h' : AH} {v0 : Nat} {v1 : Int32} {v2 : Int32} {v3 : Int32} {v4 : Int32} {r : Unit} {n_v0 : Nat} (k_v0 : Γ[v0]? = some (1, n_v0)) (hf : fX1_begin Γ v0 v1 v2 v3 v4 h = some (r, h')) : AR l yX1_begin mX1_begin [.ref v0, .int v1, .int v2, .int v3, .int v4] Γ h (none, Γ, h') := by
  refine AR.of [some (.ref v0), some (.int v1), some (.int v2), some (.int v3), some (.int v4), none] (by decide +kernel) rfl (fun z => by cases z) (Nat.le_of_ble_eq_true rfl) ⟨rfl, ⟨rfl, ⟨rfl, ⟨rfl, ⟨rfl, trivial⟩⟩⟩⟩⟩ ?_
  unfold fX1_begin at hf
  refine a_aload_n dX1_begin_0 rfl rfl ?_
  refine a_iload_n dX1_begin_1 rfl rfl ?_
  refine a_putI fp_RX1_15 dX1_begin_2 rfl k_v0 rfl hf (fun h2 hf => ?_)
  refine a_aload_n dX1_begin_5 rfl rfl ?_
  refine a_iload_n dX1_begin_6 rfl rfl ?_
  refine a_putI fp_RX1_19 dX1_begin_7 rfl k_v0 rfl hf (fun h7 hf => ?_)
  refine a_aload_n dX1_begin_10 rfl rfl ?_
  refine a_iload_n dX1_begin_11 rfl rfl ?_
  refine a_putI fp_RX1_22 dX1_begin_12 rfl k_v0 rfl hf (fun h12 hf => ?_)
  refine a_aload_n dX1_begin_15 rfl rfl ?_
  refine a_iload dX1_begin_16 rfl rfl ?_
  refine a_putI fp_RX1_25 dX1_begin_18 rfl k_v0 rfl hf (fun h18 hf => ?_)
  refine a_aload_n dX1_begin_21 rfl rfl ?_
  refine a_iconst (v := nI 0) dX1_begin_22 rfl (by decide) ?_
  refine a_putI fp_RX1_28 dX1_begin_23 rfl k_v0 rfl hf (fun h23 hf => ?_)
  refine a_iconst (v := nI 0) dX1_begin_26 rfl (by decide) ?_
  refine a_istore (L' := [some (.ref v0), some (.int v1), some (.int v2), some (.int v3), some (.int v4), some (.int (nI 0))]) dX1_begin_27 rfl (Nat.le_of_ble_eq_true rfl) (fun _ _ hv => by cases hv; rfl) rfl ?_
  exact AW.weak (wX1_begin_29 l am_fuel v0 (nI 0) h23 _ k_v0 hf) ⟨rfl, ⟨rfl, trivial⟩⟩
set_option maxRecDepth 100000 in
set_option maxHeartbeats 4000000 in
theorem sX1_words (l : Launch) {Γ : Gm} {h h' : AH} {v0 : Nat} {r : Int32} {n_v0 : Nat} (k_v0 : Γ[v0]? = some (1, n_v0)) (hf : fX1_words Γ v0 h = some (r, h')) : AR l yX1_words mX1_words [.ref v0] Γ h (some (.int r), Γ, h') := by
  refine AR.of [some (.ref v0)] (by decide +kernel) rfl (fun z => by cases z) (Nat.le_of_ble_eq_true rfl) ⟨rfl, trivial⟩ ?_
  unfold fX1_words at hf
  refine a_aload_n dX1_words_0 rfl rfl ?_
  refine a_getI fl_RX1_25 dX1_words_1 rfl k_v0 rfl ?_
  refine a_aload_n dX1_words_4 rfl rfl ?_
  refine a_getI fl_RX1_28 dX1_words_5 rfl k_v0 rfl ?_
  refine a_iadd dX1_words_8 rfl ?_
  cases hf
  exact a_iret dX1_words_9 rfl rfl rfl (by decide)
set_option maxRecDepth 100000 in
set_option maxHeartbeats 4000000 in
theorem sX1_wordAt (l : Launch) {Γ : Gm} {h h' : AH} {v0 : Nat} {v1 : Int32} {r : Int32} {n_v0 : Nat} (k_v0 : Γ[v0]? = some (1, n_v0)) (hf : fX1_wordAt Γ v0 v1 h = some (r, h')) : AR l yX1_wordAt mX1_wordAt [.ref v0, .int v1] Γ h (some (.int r), Γ, h') := by
  refine AR.of [some (.ref v0), some (.int v1)] (by decide +kernel) rfl (fun z => by cases z) (Nat.le_of_ble_eq_true rfl) ⟨rfl, ⟨rfl, trivial⟩⟩ ?_
  unfold fX1_wordAt at hf
  refine a_iload_n dX1_wordAt_0 rfl rfl ?_
  refine a_if_lt (t := 22) dX1_wordAt_1 rfl rfl hf (fun _ hf => ?_) (fun _ hf => ?_)
  · refine a_iconst (v := nI 0) dX1_wordAt_22 rfl (by decide) ?_
    cases hf
    exact a_iret dX1_wordAt_23 rfl rfl rfl (by decide)
  refine a_iload_n dX1_wordAt_4 rfl rfl ?_
  refine a_aload_n dX1_wordAt_5 rfl rfl ?_
  refine a_getR fl_RX1_9 dX1_wordAt_6 rfl k_v0 rfl (by decide) hf (fun b6 n_b6 _ k_b6 hf => ?_)
  refine a_alen dX1_wordAt_9 rfl k_b6 ?_
  refine a_icmp_ge (t := 22) dX1_wordAt_10 rfl rfl hf (fun _ hf => ?_) (fun _ hf => ?_)
  · refine a_iconst (v := nI 0) dX1_wordAt_22 rfl (by decide) ?_
    cases hf
    exact a_iret dX1_wordAt_23 rfl rfl rfl (by decide)
  refine a_aload_n dX1_wordAt_13 rfl rfl ?_
  refine a_getR fl_RX1_9 dX1_wordAt_14 rfl k_v0 rfl (by decide) hf (fun b14 n_b14 _ k_b14 hf => ?_)
  refine a_iload_n dX1_wordAt_17 rfl rfl ?_
  refine a_iald dX1_wordAt_18 rfl k_b14 hf (fun hf => ?_)
  refine a_goto (t := 23) dX1_wordAt_19 rfl ?_
  cases hf
  exact a_iret dX1_wordAt_23 rfl rfl rfl (by decide)
set_option maxRecDepth 100000 in
set_option maxHeartbeats 4000000 in
theorem sX1_setWord (l : Launch) {Γ : Gm} {h h' : AH} {v0 : Nat} {v1 : Int32} {v2 : Int32} {r : Unit} {n_v0 : Nat} (k_v0 : Γ[v0]? = some (1, n_v0)) (hf : fX1_setWord Γ v0 v1 v2 h = some (r, h')) : AR l yX1_setWord mX1_setWord [.ref v0, .int v1, .int v2] Γ h (none, Γ, h') := by
  refine AR.of [some (.ref v0), some (.int v1), some (.int v2)] (by decide +kernel) rfl (fun z => by cases z) (Nat.le_of_ble_eq_true rfl) ⟨rfl, ⟨rfl, ⟨rfl, trivial⟩⟩⟩ ?_
  unfold fX1_setWord at hf
  refine a_iload_n dX1_setWord_0 rfl rfl ?_
  refine a_if_lt (t := 20) dX1_setWord_1 rfl rfl hf (fun _ hf => ?_) (fun _ hf => ?_)
  · cases hf
    exact a_ret dX1_setWord_20 rfl rfl rfl
  refine a_iload_n dX1_setWord_4 rfl rfl ?_
  refine a_aload_n dX1_setWord_5 rfl rfl ?_
  refine a_getR fl_RX1_9 dX1_setWord_6 rfl k_v0 rfl (by decide) hf (fun b6 n_b6 _ k_b6 hf => ?_)
  refine a_alen dX1_setWord_9 rfl k_b6 ?_
  refine a_icmp_ge (t := 20) dX1_setWord_10 rfl rfl hf (fun _ hf => ?_) (fun _ hf => ?_)
  · cases hf
    exact a_ret dX1_setWord_20 rfl rfl rfl
  refine a_aload_n dX1_setWord_13 rfl rfl ?_
  refine a_getR fl_RX1_9 dX1_setWord_14 rfl k_v0 rfl (by decide) hf (fun b14 n_b14 _ k_b14 hf => ?_)
  refine a_iload_n dX1_setWord_17 rfl rfl ?_
  refine a_iload_n dX1_setWord_18 rfl rfl ?_
  refine a_iast dX1_setWord_19 rfl k_b14 hf (fun h19 hf => ?_)
  cases hf
  exact a_ret dX1_setWord_20 rfl rfl rfl
set_option maxRecDepth 100000 in
set_option maxHeartbeats 4000000 in
theorem sX1_stackWord (l : Launch) {Γ : Gm} {h h' : AH} {v0 : Nat} {v1 : Int32} {r : Unit} {n_v0 : Nat} (k_v0 : Γ[v0]? = some (1, n_v0)) (hf : fX1_stackWord Γ v0 v1 h = some (r, h')) : AR l yX1_stackWord mX1_stackWord [.ref v0, .int v1] Γ h (none, Γ, h') := by
  refine AR.of [some (.ref v0), some (.int v1)] (by decide +kernel) rfl (fun z => by cases z) (Nat.le_of_ble_eq_true rfl) ⟨rfl, ⟨rfl, trivial⟩⟩ ?_
  unfold fX1_stackWord at hf
  refine a_aload_n dX1_stackWord_0 rfl rfl ?_
  refine a_getI fl_RX1_28 dX1_stackWord_1 rfl k_v0 rfl ?_
  refine a_bipush (v := nI 40) dX1_stackWord_4 rfl (by decide) ?_
  refine a_icmp_ge (t := 33) dX1_stackWord_6 rfl rfl hf (fun _ hf => ?_) (fun _ hf => ?_)
  · cases hf
    exact a_ret dX1_stackWord_33 rfl rfl rfl
  refine a_aload_n dX1_stackWord_9 rfl rfl ?_
  refine a_aload_n dX1_stackWord_10 rfl rfl ?_
  refine a_getI fl_RX1_25 dX1_stackWord_11 rfl k_v0 rfl ?_
  refine a_aload_n dX1_stackWord_14 rfl rfl ?_
  refine a_getI fl_RX1_28 dX1_stackWord_15 rfl k_v0 rfl ?_
  refine a_iadd dX1_stackWord_18 rfl ?_
  refine a_iload_n dX1_stackWord_19 rfl rfl ?_
  obtain ⟨r20, h20, hc20, hf⟩ := am_bind_some hf
  refine a_callV (As := [.int ((h.1 v0 4) + (h.1 v0 5)), .int v1]) (r1 := (none, Γ, h20)) (sX1_setWord l k_v0 hc20) ccX1_setWord tw_440 tw_429 tw_430 (ci := 1) rfl (by decide) ⟨Nat.le_of_ble_eq_true rfl, Nat.le_of_ble_eq_true rfl, Nat.le_of_ble_eq_true rfl, Nat.le_of_ble_eq_true rfl⟩ dX1_stackWord_20 rfl k_v0 rfl (Nat.le_of_ble_eq_true rfl) rfl rfl (fun hr20 => ?_)
  refine a_aload_n dX1_stackWord_23 rfl rfl ?_
  refine a_dup dX1_stackWord_24 rfl rfl ?_
  refine a_getI fl_RX1_28 dX1_stackWord_25 rfl k_v0 rfl ?_
  refine a_iconst (v := nI 1) dX1_stackWord_28 rfl (by decide) ?_
  refine a_iadd dX1_stackWord_29 rfl ?_
  refine a_putI fp_RX1_28 dX1_stackWord_30 rfl k_v0 rfl hf (fun h30 hf => ?_)
  cases hf
  exact a_ret dX1_stackWord_33 rfl rfl rfl
