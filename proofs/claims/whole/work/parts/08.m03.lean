set_option maxRecDepth 100000 in
set_option maxHeartbeats 4000000 in
theorem wX4_begin_10 (l : Launch) {Γ : Gm} {r : Unit} {h' : AH} : ∀ (z : Nat) (v0 : Nat) (v1 : Nat) (v2 : Int32) (h : AH), ∀ n_v0 : Nat, Γ[v0]? = some (4, n_v0) → ∀ n_v1 : Nat, Γ[v1]? = some (5, n_v1) → fX4_begin_10 Γ z v0 v1 v2 h = some (r, h') → AW l mX4_begin (none, Γ, h') 0 0 10 [some (.ref v0), some (.ref v1), some (.int v2)] [] Γ h := by
  intro z
  induction z with
  | zero => intro v0 v1 v2 h n_v0 k_v0 n_v1 k_v1 hf; cases hf
  | succ z ih =>
    intro v0 v1 v2 h n_v0 k_v0 n_v1 k_v1 hf
    unfold fX4_begin_10 at hf
    refine a_iload_n dX4_begin_10 rfl rfl ?_
    refine a_aload_n dX4_begin_11 rfl rfl ?_
    refine a_getI fl_RX4_21 dX4_begin_12 rfl k_v0 rfl ?_
    refine a_icmp_ge (t := 34) dX4_begin_15 rfl rfl hf (fun _ hf => ?_) (fun _ hf => ?_)
    · refine a_aload_n dX4_begin_34 rfl rfl ?_
      refine a_iconst (v := nI 0) dX4_begin_35 rfl (by decide) ?_
      refine a_putI fp_RX4_25 dX4_begin_36 rfl k_v0 rfl hf (fun h36 hf => ?_)
      refine a_aload_n dX4_begin_39 rfl rfl ?_
      refine a_iconst (v := nI 0) dX4_begin_40 rfl (by decide) ?_
      refine a_putI fp_RX4_28 dX4_begin_41 rfl k_v0 rfl hf (fun h41 hf => ?_)
      refine a_aload_n dX4_begin_44 rfl rfl ?_
      refine a_iconst (v := nI 0) dX4_begin_45 rfl (by decide) ?_
      refine a_iconst (v := nI 0) dX4_begin_46 rfl (by decide) ?_
      refine a_iconst (v := nI 0) dX4_begin_47 rfl (by decide) ?_
      refine a_iconst (v := nI 0) dX4_begin_48 rfl (by decide) ?_
      obtain ⟨r49, h49, hc49, hf⟩ := am_bind_some hf
      refine a_callV (As := [.int (nI 0), .int (nI 0), .int (nI 0), .int (nI 0)]) (r1 := (none, Γ, h49)) (sX4_addFrame l k_v0 hc49) ccX4_addFrame tw_361 tw_362 tw_363 (ci := 4) rfl (by decide) ⟨Nat.le_of_ble_eq_true rfl, Nat.le_of_ble_eq_true rfl, Nat.le_of_ble_eq_true rfl, Nat.le_of_ble_eq_true rfl⟩ dX4_begin_49 rfl k_v0 rfl (Nat.le_of_ble_eq_true rfl) rfl rfl (fun hr49 => ?_)
      cases hf
      exact a_ret dX4_begin_52 rfl rfl rfl
    refine a_aload_n dX4_begin_18 rfl rfl ?_
    refine a_iload_n dX4_begin_19 rfl rfl ?_
    refine a_aload_n dX4_begin_20 rfl rfl ?_
    refine a_iload_n dX4_begin_21 rfl rfl ?_
    obtain ⟨r22, h22, hc22, hf⟩ := am_bind_some hf
    refine a_callV (As := [.int v2]) (r1 := (some (.int r22), Γ, h22)) (sX5_byteAt l k_v1 hc22) ccX5_byteAt tw_353 tw_354 tw_355 (ci := 5) rfl (by decide) ⟨Nat.le_of_ble_eq_true rfl, Nat.le_of_ble_eq_true rfl, Nat.le_of_ble_eq_true rfl, Nat.le_of_ble_eq_true rfl⟩ dX4_begin_22 rfl k_v1 rfl (Nat.le_of_ble_eq_true rfl) rfl rfl (fun hr22 => ?_)
    obtain ⟨r25, h25, hc25, hf⟩ := am_bind_some hf
    refine a_callV (As := [.int v2, .int r22]) (r1 := (none, Γ, h25)) (sX4_setByte l k_v0 hc25) ccX4_setByte tw_357 tw_358 tw_359 (ci := 4) rfl (by decide) ⟨Nat.le_of_ble_eq_true rfl, Nat.le_of_ble_eq_true rfl, Nat.le_of_ble_eq_true rfl, Nat.le_of_ble_eq_true rfl⟩ dX4_begin_25 rfl k_v0 rfl (Nat.le_of_ble_eq_true rfl) rfl rfl (fun hr25 => ?_)
    refine a_iinc (v := v2 + nI 1) (L' := [some (.ref v0), some (.ref v1), some (.int (v2 + nI 1))]) dX4_begin_28 rfl rfl rfl (Nat.le_of_ble_eq_true rfl) (fun _ _ hv => by cases hv; rfl) rfl ?_
    refine a_goto (t := 10) dX4_begin_31 rfl ?_
    exact AW.weak (ih v0 v1 (v2 + nI 1) h25 _ k_v0 _ k_v1 hf) ⟨rfl, ⟨rfl, ⟨rfl, trivial⟩⟩⟩
set_option maxRecDepth 100000 in
set_option maxHeartbeats 4000000 in
theorem sX4_begin (l : Launch) {Γ : Gm} {h h' : AH} {v0 : Nat} {v1 : Nat} {r : Unit} {n_v0 : Nat} (k_v0 : Γ[v0]? = some (4, n_v0)) {n_v1 : Nat} (k_v1 : Γ[v1]? = some (5, n_v1)) (hf : fX4_begin Γ v0 v1 h = some (r, h')) : AR l yX4_begin mX4_begin [.ref v0, .ref v1] Γ h (none, Γ, h') := by
  refine AR.of [some (.ref v0), some (.ref v1), none] (by decide +kernel) rfl (fun z => by cases z) (Nat.le_of_ble_eq_true rfl) ⟨rfl, ⟨rfl, trivial⟩⟩ ?_
  unfold fX4_begin at hf
  refine a_aload_n dX4_begin_0 rfl rfl ?_
  refine a_aload_n dX4_begin_1 rfl rfl ?_
  refine a_getI fl_RX4_32 dX4_begin_2 rfl k_v1 rfl ?_
  refine a_putI fp_RX4_21 dX4_begin_5 rfl k_v0 rfl hf (fun h5 hf => ?_)
  refine a_iconst (v := nI 0) dX4_begin_8 rfl (by decide) ?_
  refine a_istore_n (L' := [some (.ref v0), some (.ref v1), some (.int (nI 0))]) dX4_begin_9 rfl (Nat.le_of_ble_eq_true rfl) (fun _ _ hv => by cases hv; rfl) rfl ?_
  exact AW.weak (wX4_begin_10 l am_fuel v0 v1 (nI 0) h5 _ k_v0 _ k_v1 hf) ⟨rfl, ⟨rfl, ⟨rfl, trivial⟩⟩⟩
set_option maxRecDepth 100000 in
set_option maxHeartbeats 4000000 in
theorem sX8_fault (l : Launch) {Γ : Gm} {h h' : AH} {v0 : Int32} {v1 : Int32} {r : Int32} (hf : fX8_fault Γ v0 v1 h = some (r, h')) : AR l yX8_fault mX8_fault [.int v0, .int v1] Γ h (some (.int r), Γ, h') := by
  refine AR.of [some (.int v0), some (.int v1)] (by decide +kernel) rfl (fun z => by cases z) (Nat.le_of_ble_eq_true rfl) ⟨rfl, ⟨rfl, trivial⟩⟩ ?_
  unfold fX8_fault at hf
  refine a_iload_n dX8_fault_0 rfl rfl ?_
  refine a_bipush (v := nI 16) dX8_fault_1 rfl (by decide) ?_
  refine a_ishl dX8_fault_3 rfl ?_
  refine a_iload_n dX8_fault_4 rfl rfl ?_
  refine a_ior dX8_fault_5 rfl ?_
  cases hf
  exact a_iret dX8_fault_6 rfl rfl rfl (by decide)
set_option maxRecDepth 100000 in
set_option maxHeartbeats 4000000 in
theorem wX4_wrongInFirst_2 (l : Launch) {Γ : Gm} {r : Int32} {h' : AH} : ∀ (z : Nat) (v0 : Nat) (v1 : Int32) (v2 : Int32) (h : AH), ∀ n_v0 : Nat, Γ[v0]? = some (0, n_v0) → fX4_wrongInFirst_2 Γ z v0 v1 v2 h = some (r, h') → AW l mX4_wrongInFirst (some (.int r), Γ, h') 0 0 2 [some (.ref v0), some (.int v1), some (.int v2)] [] Γ h := by
  intro z
  induction z with
  | zero => intro v0 v1 v2 h n_v0 k_v0 hf; cases hf
  | succ z ih =>
    intro v0 v1 v2 h n_v0 k_v0 hf
    unfold fX4_wrongInFirst_2 at hf
    refine a_iload_n dX4_wrongInFirst_2 rfl rfl ?_
    refine a_bipush (v := nI 6) dX4_wrongInFirst_3 rfl (by decide) ?_
    refine a_icmp_ge (t := 26) dX4_wrongInFirst_5 rfl rfl hf (fun _ hf => ?_) (fun _ hf => ?_)
    · refine a_bipush (v := (-2 : Int32)) dX4_wrongInFirst_26 rfl (by decide) ?_
      cases hf
      exact a_iret dX4_wrongInFirst_28 rfl rfl rfl (by decide)
    refine a_aload_n dX4_wrongInFirst_8 rfl rfl ?_
    refine a_iload_n dX4_wrongInFirst_9 rfl rfl ?_
    refine a_iload_n dX4_wrongInFirst_10 rfl rfl ?_
    refine a_iadd dX4_wrongInFirst_11 rfl ?_
    obtain ⟨r12, h12, hc12, hf⟩ := am_bind_some hf
    refine a_callV (As := [.int (v1 + v2)]) (r1 := (some (.int r12), Γ, h12)) (sX0_at l k_v0 hc12) ccX0_at tw_584 tw_309 tw_310 (ci := 0) rfl (by decide) ⟨Nat.le_of_ble_eq_true rfl, Nat.le_of_ble_eq_true rfl, Nat.le_of_ble_eq_true rfl, Nat.le_of_ble_eq_true rfl⟩ dX4_wrongInFirst_12 rfl k_v0 rfl (Nat.le_of_ble_eq_true rfl) rfl rfl (fun hr12 => ?_)
    refine a_if_eq (t := 20) dX4_wrongInFirst_15 rfl rfl hf (fun _ hf => ?_) (fun _ hf => ?_)
    · refine a_iinc (v := v2 + nI 1) (L' := [some (.ref v0), some (.int v1), some (.int (v2 + nI 1))]) dX4_wrongInFirst_20 rfl rfl rfl (Nat.le_of_ble_eq_true rfl) (fun _ _ hv => by cases hv; rfl) rfl ?_
      refine a_goto (t := 2) dX4_wrongInFirst_23 rfl ?_
      exact AW.weak (ih v0 v1 (v2 + nI 1) h12 _ k_v0 hf) ⟨rfl, ⟨rfl, ⟨rfl, trivial⟩⟩⟩
    refine a_iload_n dX4_wrongInFirst_18 rfl rfl ?_
    cases hf
    exact a_iret dX4_wrongInFirst_19 rfl rfl rfl (by decide)
set_option maxRecDepth 100000 in
set_option maxHeartbeats 4000000 in
theorem sX4_wrongInFirst (l : Launch) {Γ : Gm} {h h' : AH} {v0 : Nat} {v1 : Int32} {r : Int32} {n_v0 : Nat} (k_v0 : Γ[v0]? = some (0, n_v0)) (hf : fX4_wrongInFirst Γ v0 v1 h = some (r, h')) : AR l yX4_wrongInFirst mX4_wrongInFirst [.ref v0, .int v1] Γ h (some (.int r), Γ, h') := by
  refine AR.of [some (.ref v0), some (.int v1), none] (by decide +kernel) rfl (fun z => by cases z) (Nat.le_of_ble_eq_true rfl) ⟨rfl, ⟨rfl, trivial⟩⟩ ?_
  unfold fX4_wrongInFirst at hf
  refine a_iconst (v := nI 0) dX4_wrongInFirst_0 rfl (by decide) ?_
  refine a_istore_n (L' := [some (.ref v0), some (.int v1), some (.int (nI 0))]) dX4_wrongInFirst_1 rfl (Nat.le_of_ble_eq_true rfl) (fun _ _ hv => by cases hv; rfl) rfl ?_
  exact AW.weak (wX4_wrongInFirst_2 l am_fuel v0 v1 (nI 0) h _ k_v0 hf) ⟨rfl, ⟨rfl, ⟨rfl, trivial⟩⟩⟩
set_option maxRecDepth 100000 in
set_option maxHeartbeats 4000000 in
theorem wX4_wrongInLater_55 (l : Launch) {Γ : Gm} {r : Int32} {h' : AH} (v3 : Int32) (s0 : Int32) (h : AH) : fX4_wrongInLater_55 Γ v3 s0 h = some (r, h') → AW l mX4_wrongInLater (some (.int r), Γ, h') 0 0 55 [none, none, none, some (.int v3), none] [.int s0] Γ h := by
  intro hf
  unfold fX4_wrongInLater_55 at hf
  refine a_istore (L' := [none, none, none, some (.int v3), some (.int s0)]) dX4_wrongInLater_55 rfl (Nat.le_of_ble_eq_true rfl) (fun _ _ hv => by cases hv; rfl) rfl ?_
  refine a_iload dX4_wrongInLater_57 rfl rfl ?_
  refine a_if_eq (t := 74) dX4_wrongInLater_59 rfl rfl hf (fun _ hf => ?_) (fun _ hf => ?_)
  · refine a_iconst (v := nI 5) dX4_wrongInLater_74 rfl (by decide) ?_
    cases hf
    exact a_iret dX4_wrongInLater_75 rfl rfl rfl (by decide)
  refine a_iload_n dX4_wrongInLater_62 rfl rfl ?_
  refine a_sipush (v := nI 128) dX4_wrongInLater_63 rfl (by decide) ?_
  refine a_icmp_ge (t := 74) dX4_wrongInLater_66 rfl rfl hf (fun _ hf => ?_) (fun _ hf => ?_)
  · refine a_iconst (v := nI 5) dX4_wrongInLater_74 rfl (by decide) ?_
    cases hf
    exact a_iret dX4_wrongInLater_75 rfl rfl rfl (by decide)
  refine a_bipush (v := (-2 : Int32)) dX4_wrongInLater_69 rfl (by decide) ?_
  refine a_goto (t := 75) dX4_wrongInLater_71 rfl ?_
  cases hf
  exact a_iret dX4_wrongInLater_75 rfl rfl rfl (by decide)
set_option maxRecDepth 100000 in
set_option maxHeartbeats 4000000 in
theorem wX4_wrongInLater_34 (l : Launch) {Γ : Gm} {r : Int32} {h' : AH} (v0 : Nat) (v1 : Int32) (h : AH) : ∀ n_v0 : Nat, Γ[v0]? = some (0, n_v0) → fX4_wrongInLater_34 Γ v0 v1 h = some (r, h') → AW l mX4_wrongInLater (some (.int r), Γ, h') 0 0 34 [some (.ref v0), some (.int v1), none, none, none] [] Γ h := by
  intro n_v0 k_v0 hf
  unfold fX4_wrongInLater_34 at hf
  refine a_aload_n dX4_wrongInLater_34 rfl rfl ?_
  refine a_iload_n dX4_wrongInLater_35 rfl rfl ?_
  refine a_iconst (v := nI 5) dX4_wrongInLater_36 rfl (by decide) ?_
  refine a_iadd dX4_wrongInLater_37 rfl ?_
  obtain ⟨r38, h38, hc38, hf⟩ := am_bind_some hf
  refine a_callV (As := [.int (v1 + (nI 5))]) (r1 := (some (.int r38), Γ, h38)) (sX0_at l k_v0 hc38) ccX0_at tw_584 tw_309 tw_310 (ci := 0) rfl (by decide) ⟨Nat.le_of_ble_eq_true rfl, Nat.le_of_ble_eq_true rfl, Nat.le_of_ble_eq_true rfl, Nat.le_of_ble_eq_true rfl⟩ dX4_wrongInLater_38 rfl k_v0 rfl (Nat.le_of_ble_eq_true rfl) rfl rfl (fun hr38 => ?_)
  refine a_istore_n (L' := [some (.ref v0), some (.int v1), none, some (.int r38), none]) dX4_wrongInLater_41 rfl (Nat.le_of_ble_eq_true rfl) (fun _ _ hv => by cases hv) rfl ?_
  refine a_iload_n dX4_wrongInLater_42 rfl rfl ?_
  refine a_iload_n dX4_wrongInLater_43 rfl rfl ?_
  refine a_iconst (v := nI 1) dX4_wrongInLater_44 rfl (by decide) ?_
  refine a_iadd dX4_wrongInLater_45 rfl ?_
  refine a_iand dX4_wrongInLater_46 rfl ?_
  refine a_if_ne (t := 54) dX4_wrongInLater_47 rfl rfl hf (fun _ hf => ?_) (fun _ hf => ?_)
  · refine a_iconst (v := nI 1) dX4_wrongInLater_50 rfl (by decide) ?_
    refine a_goto (t := 55) dX4_wrongInLater_51 rfl ?_
    exact AW.weak (wX4_wrongInLater_55 l r38 (nI 1) h38 hf) ⟨rfl, trivial⟩
  refine a_iconst (v := nI 0) dX4_wrongInLater_54 rfl (by decide) ?_
  exact AW.weak (wX4_wrongInLater_55 l r38 (nI 0) h38 hf) ⟨rfl, trivial⟩
set_option maxRecDepth 100000 in
set_option maxHeartbeats 4000000 in
theorem sX4_wrongInLater (l : Launch) {Γ : Gm} {h h' : AH} {v0 : Nat} {v1 : Int32} {r : Int32} {n_v0 : Nat} (k_v0 : Γ[v0]? = some (0, n_v0)) (hf : fX4_wrongInLater Γ v0 v1 h = some (r, h')) : AR l yX4_wrongInLater mX4_wrongInLater [.ref v0, .int v1] Γ h (some (.int r), Γ, h') := by
  refine AR.of [some (.ref v0), some (.int v1), none, none, none] (by decide +kernel) rfl (fun z => by cases z) (Nat.le_of_ble_eq_true rfl) ⟨rfl, ⟨rfl, trivial⟩⟩ ?_
  unfold fX4_wrongInLater at hf
  refine a_aload_n dX4_wrongInLater_0 rfl rfl ?_
  refine a_iload_n dX4_wrongInLater_1 rfl rfl ?_
  refine a_iconst (v := nI 3) dX4_wrongInLater_2 rfl (by decide) ?_
  refine a_iadd dX4_wrongInLater_3 rfl ?_
  obtain ⟨r4, h4, hc4, hf⟩ := am_bind_some hf
  refine a_callV (As := [.int (v1 + (nI 3))]) (r1 := (some (.int r4), Γ, h4)) (sX0_at l k_v0 hc4) ccX0_at tw_584 tw_309 tw_310 (ci := 0) rfl (by decide) ⟨Nat.le_of_ble_eq_true rfl, Nat.le_of_ble_eq_true rfl, Nat.le_of_ble_eq_true rfl, Nat.le_of_ble_eq_true rfl⟩ dX4_wrongInLater_4 rfl k_v0 rfl (Nat.le_of_ble_eq_true rfl) rfl rfl (fun hr4 => ?_)
  refine a_istore_n (L' := [some (.ref v0), some (.int v1), some (.int r4), none, none]) dX4_wrongInLater_7 rfl (Nat.le_of_ble_eq_true rfl) (fun _ _ hv => by cases hv; rfl) rfl ?_
  refine a_iload_n dX4_wrongInLater_8 rfl rfl ?_
  refine a_bipush (v := nI 31) dX4_wrongInLater_9 rfl (by decide) ?_
  refine a_icmp_le (t := 16) dX4_wrongInLater_11 rfl rfl hf (fun _ hf => ?_) (fun _ hf => ?_)
  · refine a_iload_n dX4_wrongInLater_16 rfl rfl ?_
    refine a_bipush (v := nI 16) dX4_wrongInLater_17 rfl (by decide) ?_
    refine a_icmp_lt (t := 34) dX4_wrongInLater_19 rfl rfl hf (fun _ hf => ?_) (fun _ hf => ?_)
    · exact AW.weak (wX4_wrongInLater_34 l v0 v1 h4 _ k_v0 hf) ⟨rfl, ⟨rfl, trivial⟩⟩
    refine a_aload_n dX4_wrongInLater_22 rfl rfl ?_
    refine a_iload_n dX4_wrongInLater_23 rfl rfl ?_
    refine a_iconst (v := nI 4) dX4_wrongInLater_24 rfl (by decide) ?_
    refine a_iadd dX4_wrongInLater_25 rfl ?_
    obtain ⟨r26, h26, hc26, hf⟩ := am_bind_some hf
    refine a_callV (As := [.int (v1 + (nI 4))]) (r1 := (some (.int r26), Γ, h26)) (sX0_at l k_v0 hc26) ccX0_at tw_584 tw_309 tw_310 (ci := 0) rfl (by decide) ⟨Nat.le_of_ble_eq_true rfl, Nat.le_of_ble_eq_true rfl, Nat.le_of_ble_eq_true rfl, Nat.le_of_ble_eq_true rfl⟩ dX4_wrongInLater_26 rfl k_v0 rfl (Nat.le_of_ble_eq_true rfl) rfl rfl (fun hr26 => ?_)
    refine a_if_eq (t := 34) dX4_wrongInLater_29 rfl rfl hf (fun _ hf => ?_) (fun _ hf => ?_)
    · exact AW.weak (wX4_wrongInLater_34 l v0 v1 h26 _ k_v0 hf) ⟨rfl, ⟨rfl, trivial⟩⟩
    refine a_iconst (v := nI 4) dX4_wrongInLater_32 rfl (by decide) ?_
    cases hf
    exact a_iret dX4_wrongInLater_33 rfl rfl rfl (by decide)
  refine a_iconst (v := nI 3) dX4_wrongInLater_14 rfl (by decide) ?_
  cases hf
  exact a_iret dX4_wrongInLater_15 rfl rfl rfl (by decide)
set_option maxRecDepth 100000 in
set_option maxHeartbeats 4000000 in
theorem wX4_frameFault_35 (l : Launch) {Γ : Gm} {r : Int32} {h' : AH} (v1 : Nat) (v2 : Int32) (v3 : Int32) (s0 : Int32) (h : AH) : ∀ n_v1 : Nat, Γ[v1]? = some (0, n_v1) → fX4_frameFault_35 Γ v1 v2 v3 s0 h = some (r, h') → AW l mX4_frameFault (some (.int r), Γ, h') 0 0 35 [none, some (.ref v1), some (.int v2), some (.int v3), none, none, none] [.int s0] Γ h := by
  intro n_v1 k_v1 hf
  unfold fX4_frameFault_35 at hf
  refine a_istore (L' := [none, some (.ref v1), some (.int v2), some (.int v3), some (.int s0), none, none]) dX4_frameFault_35 rfl (Nat.le_of_ble_eq_true rfl) (fun _ _ hv => by cases hv; rfl) rfl ?_
  refine a_iload dX4_frameFault_37 rfl rfl ?_
  refine a_bipush (v := (-2 : Int32)) dX4_frameFault_39 rfl (by decide) ?_
  refine a_icmp_eq (t := 54) dX4_frameFault_41 rfl rfl hf (fun _ hf => ?_) (fun _ hf => ?_)
  · refine a_aload_n dX4_frameFault_54 rfl rfl ?_
    refine a_iload_n dX4_frameFault_55 rfl rfl ?_
    refine a_bipush (v := nI 6) dX4_frameFault_56 rfl (by decide) ?_
    refine a_iadd dX4_frameFault_58 rfl ?_
    refine a_iconst (v := nI 2) dX4_frameFault_59 rfl (by decide) ?_
    obtain ⟨r60, h60, hc60, hf⟩ := am_bind_some hf
    refine a_callV (As := [.int (v2 + (nI 6)), .int (nI 2)]) (r1 := (some (.int r60), Γ, h60)) (sX0_number l k_v1 hc60) ccX0_number tw_604 tw_552 tw_553 (ci := 0) rfl (by decide) ⟨Nat.le_of_ble_eq_true rfl, Nat.le_of_ble_eq_true rfl, Nat.le_of_ble_eq_true rfl, Nat.le_of_ble_eq_true rfl⟩ dX4_frameFault_60 rfl k_v1 rfl (Nat.le_of_ble_eq_true rfl) rfl rfl (fun hr60 => ?_)
    refine a_istore (L' := [none, some (.ref v1), some (.int v2), some (.int v3), some (.int s0), some (.int r60), none]) dX4_frameFault_63 rfl (Nat.le_of_ble_eq_true rfl) (fun _ _ hv => by cases hv; rfl) rfl ?_
    refine a_iload dX4_frameFault_65 rfl rfl ?_
    refine a_bipush (v := nI 40) dX4_frameFault_67 rfl (by decide) ?_
    refine a_icmp_le (t := 82) dX4_frameFault_69 rfl rfl hf (fun _ hf => ?_) (fun _ hf => ?_)
    · refine a_aload_n dX4_frameFault_82 rfl rfl ?_
      refine a_iload_n dX4_frameFault_83 rfl rfl ?_
      refine a_iconst (v := nI 3) dX4_frameFault_84 rfl (by decide) ?_
      refine a_iadd dX4_frameFault_85 rfl ?_
      obtain ⟨r86, h86, hc86, hf⟩ := am_bind_some hf
      refine a_callV (As := [.int (v2 + (nI 3))]) (r1 := (some (.int r86), Γ, h86)) (sX0_at l k_v1 hc86) ccX0_at tw_584 tw_309 tw_310 (ci := 0) rfl (by decide) ⟨Nat.le_of_ble_eq_true rfl, Nat.le_of_ble_eq_true rfl, Nat.le_of_ble_eq_true rfl, Nat.le_of_ble_eq_true rfl⟩ dX4_frameFault_86 rfl k_v1 rfl (Nat.le_of_ble_eq_true rfl) rfl rfl (fun hr86 => ?_)
      refine a_bipush (v := nI 15) dX4_frameFault_89 rfl (by decide) ?_
      refine a_iand dX4_frameFault_91 rfl ?_
      refine a_iload dX4_frameFault_92 rfl rfl ?_
      refine a_iadd dX4_frameFault_94 rfl ?_
      refine a_nmI hf (fun x95 hf => ?_)
      refine a_istore (L' := [none, some (.ref v1), some (.int v2), some (.int v3), some (.int s0), some (.int r60), some (.int x95)]) dX4_frameFault_95 rfl (Nat.le_of_ble_eq_true rfl) (fun _ _ hv => by cases hv; rfl) rfl ?_
      refine a_iload_n dX4_frameFault_97 rfl rfl ?_
      refine a_iload_n dX4_frameFault_98 rfl rfl ?_
      refine a_isub dX4_frameFault_99 rfl ?_
      refine a_bipush (v := nI 8) dX4_frameFault_100 rfl (by decide) ?_
      refine a_isub dX4_frameFault_102 rfl ?_
      refine a_iconst (v := nI 2) dX4_frameFault_103 rfl (by decide) ?_
      refine a_iload dX4_frameFault_104 rfl rfl ?_
      refine a_imul dX4_frameFault_106 rfl ?_
      refine a_icmp_ge (t := 119) dX4_frameFault_107 rfl rfl hf (fun _ hf => ?_) (fun _ hf => ?_)
      · refine a_iconst (v := nI 0) dX4_frameFault_119 rfl (by decide) ?_
        cases hf
        exact a_iret dX4_frameFault_120 rfl rfl rfl (by decide)
      refine a_bipush (v := nI 8) dX4_frameFault_110 rfl (by decide) ?_
      refine a_iload_n dX4_frameFault_112 rfl rfl ?_
      obtain ⟨r113, h113, hc113, hf⟩ := am_bind_some hf
      refine a_callSN (As := [.int (nI 8), .int v3]) (r1 := (some (.int r113), Γ, h113)) (sX8_fault l hc113) ccX8_fault tn_585 tw_549 ⟨Nat.le_of_ble_eq_true rfl, Nat.le_of_ble_eq_true rfl, Nat.le_of_ble_eq_true rfl, Nat.le_of_ble_eq_true rfl⟩ dX4_frameFault_113 rfl rfl (Nat.le_of_ble_eq_true rfl) rfl rfl (fun hr113 => ?_)
      refine a_goto (t := 120) dX4_frameFault_116 rfl ?_
      cases hf
      exact a_iret dX4_frameFault_120 rfl rfl rfl (by decide)
    refine a_bipush (v := nI 9) dX4_frameFault_72 rfl (by decide) ?_
    refine a_iload_n dX4_frameFault_74 rfl rfl ?_
    refine a_bipush (v := nI 6) dX4_frameFault_75 rfl (by decide) ?_
    refine a_iadd dX4_frameFault_77 rfl ?_
    obtain ⟨r78, h78, hc78, hf⟩ := am_bind_some hf
    refine a_callSN (As := [.int (nI 9), .int (v2 + (nI 6))]) (r1 := (some (.int r78), Γ, h78)) (sX8_fault l hc78) ccX8_fault tn_585 tw_549 ⟨Nat.le_of_ble_eq_true rfl, Nat.le_of_ble_eq_true rfl, Nat.le_of_ble_eq_true rfl, Nat.le_of_ble_eq_true rfl⟩ dX4_frameFault_78 rfl rfl (Nat.le_of_ble_eq_true rfl) rfl rfl (fun hr78 => ?_)
    cases hf
    exact a_iret dX4_frameFault_81 rfl rfl rfl (by decide)
  refine a_bipush (v := nI 8) dX4_frameFault_44 rfl (by decide) ?_
  refine a_iload_n dX4_frameFault_46 rfl rfl ?_
  refine a_iload dX4_frameFault_47 rfl rfl ?_
  refine a_iadd dX4_frameFault_49 rfl ?_
  obtain ⟨r50, h50, hc50, hf⟩ := am_bind_some hf
  refine a_callSN (As := [.int (nI 8), .int (v2 + s0)]) (r1 := (some (.int r50), Γ, h50)) (sX8_fault l hc50) ccX8_fault tn_585 tw_549 ⟨Nat.le_of_ble_eq_true rfl, Nat.le_of_ble_eq_true rfl, Nat.le_of_ble_eq_true rfl, Nat.le_of_ble_eq_true rfl⟩ dX4_frameFault_50 rfl rfl (Nat.le_of_ble_eq_true rfl) rfl rfl (fun hr50 => ?_)
  cases hf
  exact a_iret dX4_frameFault_53 rfl rfl rfl (by decide)
set_option maxRecDepth 100000 in
set_option maxHeartbeats 4000000 in
theorem sX4_frameFault (l : Launch) {Γ : Gm} {h h' : AH} {v0 : Nat} {v1 : Nat} {v2 : Int32} {v3 : Int32} {r : Int32} {n_v0 : Nat} (k_v0 : Γ[v0]? = some (4, n_v0)) {n_v1 : Nat} (k_v1 : Γ[v1]? = some (0, n_v1)) (hf : fX4_frameFault Γ v0 v1 v2 v3 h = some (r, h')) : AR l yX4_frameFault mX4_frameFault [.ref v0, .ref v1, .int v2, .int v3] Γ h (some (.int r), Γ, h') := by
  refine AR.of [some (.ref v0), some (.ref v1), some (.int v2), some (.int v3), none, none, none] (by decide +kernel) rfl (fun z => by cases z) (Nat.le_of_ble_eq_true rfl) ⟨rfl, ⟨rfl, ⟨rfl, ⟨rfl, trivial⟩⟩⟩⟩ ?_
  unfold fX4_frameFault at hf
  refine a_iload_n dX4_frameFault_0 rfl rfl ?_
  refine a_iload_n dX4_frameFault_1 rfl rfl ?_
  refine a_isub dX4_frameFault_2 rfl ?_
  refine a_bipush (v := nI 8) dX4_frameFault_3 rfl (by decide) ?_
  refine a_icmp_ge (t := 15) dX4_frameFault_5 rfl rfl hf (fun _ hf => ?_) (fun _ hf => ?_)
  · refine a_aload_n dX4_frameFault_15 rfl rfl ?_
    refine a_getI fl_RX4_28 dX4_frameFault_16 rfl k_v0 rfl ?_
    refine a_if_ne (t := 30) dX4_frameFault_19 rfl rfl hf (fun _ hf => ?_) (fun _ hf => ?_)
    · refine a_aload_n dX4_frameFault_22 rfl rfl ?_
      refine a_iload_n dX4_frameFault_23 rfl rfl ?_
      obtain ⟨r24, h24, hc24, hf⟩ := am_bind_some hf
      refine a_callS (As := [.ref v1, .int v2]) (r1 := (some (.int r24), Γ, h24)) (sX4_wrongInFirst l k_v1 hc24) ccX4_wrongInFirst tw_598 tw_599 ⟨Nat.le_of_ble_eq_true rfl, Nat.le_of_ble_eq_true rfl, Nat.le_of_ble_eq_true rfl, Nat.le_of_ble_eq_true rfl⟩ dX4_frameFault_24 rfl rfl (Nat.le_of_ble_eq_true rfl) rfl rfl (fun hr24 => ?_)
      refine a_goto (t := 35) dX4_frameFault_27 rfl ?_
      exact AW.weak (wX4_frameFault_35 l v1 v2 v3 r24 h24 _ k_v1 hf) ⟨rfl, ⟨rfl, ⟨rfl, trivial⟩⟩⟩
    refine a_aload_n dX4_frameFault_30 rfl rfl ?_
    refine a_iload_n dX4_frameFault_31 rfl rfl ?_
    obtain ⟨r32, h32, hc32, hf⟩ := am_bind_some hf
    refine a_callS (As := [.ref v1, .int v2]) (r1 := (some (.int r32), Γ, h32)) (sX4_wrongInLater l k_v1 hc32) ccX4_wrongInLater tw_601 tw_602 ⟨Nat.le_of_ble_eq_true rfl, Nat.le_of_ble_eq_true rfl, Nat.le_of_ble_eq_true rfl, Nat.le_of_ble_eq_true rfl⟩ dX4_frameFault_32 rfl rfl (Nat.le_of_ble_eq_true rfl) rfl rfl (fun hr32 => ?_)
    exact AW.weak (wX4_frameFault_35 l v1 v2 v3 r32 h32 _ k_v1 hf) ⟨rfl, ⟨rfl, ⟨rfl, trivial⟩⟩⟩
  refine a_bipush (v := nI 8) dX4_frameFault_8 rfl (by decide) ?_
  refine a_iload_n dX4_frameFault_10 rfl rfl ?_
  obtain ⟨r11, h11, hc11, hf⟩ := am_bind_some hf
  refine a_callSN (As := [.int (nI 8), .int v3]) (r1 := (some (.int r11), Γ, h11)) (sX8_fault l hc11) ccX8_fault tn_585 tw_549 ⟨Nat.le_of_ble_eq_true rfl, Nat.le_of_ble_eq_true rfl, Nat.le_of_ble_eq_true rfl, Nat.le_of_ble_eq_true rfl⟩ dX4_frameFault_11 rfl rfl (Nat.le_of_ble_eq_true rfl) rfl rfl (fun hr11 => ?_)
  cases hf
  exact a_iret dX4_frameFault_14 rfl rfl rfl (by decide)
set_option maxRecDepth 100000 in
set_option maxHeartbeats 4000000 in
theorem sX4_frameAt (l : Launch) {Γ : Gm} {h h' : AH} {v0 : Nat} {v1 : Int32} {r : Option Nat} {n_v0 : Nat} (k_v0 : Γ[v0]? = some (4, n_v0)) (hf : fX4_frameAt Γ v0 v1 h = some (r, h')) : AR l yX4_frameAt mX4_frameAt [.ref v0, .int v1] Γ h (some (am_o r), Γ, h') := by
  refine AR.of [some (.ref v0), some (.int v1)] (by decide +kernel) rfl (fun z => by cases z) (Nat.le_of_ble_eq_true rfl) ⟨rfl, ⟨rfl, trivial⟩⟩ ?_
  unfold fX4_frameAt at hf
  refine a_iload_n dX4_frameAt_0 rfl rfl ?_
  refine a_if_lt (t := 30) dX4_frameAt_1 rfl rfl hf (fun _ hf => ?_) (fun _ hf => ?_)
  · refine a_null dX4_frameAt_30 rfl ?_
    cases hf
    exact a_aretN dX4_frameAt_31 rfl rfl rfl
  refine a_iload_n dX4_frameAt_4 rfl rfl ?_
  refine a_aload_n dX4_frameAt_5 rfl rfl ?_
  refine a_getI fl_RX4_28 dX4_frameAt_6 rfl k_v0 rfl ?_
  refine a_icmp_ge (t := 30) dX4_frameAt_9 rfl rfl hf (fun _ hf => ?_) (fun _ hf => ?_)
  · refine a_null dX4_frameAt_30 rfl ?_
    cases hf
    exact a_aretN dX4_frameAt_31 rfl rfl rfl
  refine a_iload_n dX4_frameAt_12 rfl rfl ?_
  refine a_aload_n dX4_frameAt_13 rfl rfl ?_
  refine a_getR fl_RX4_17 dX4_frameAt_14 rfl k_v0 rfl (by decide) hf (fun b14 n_b14 _ k_b14 hf => ?_)
  refine a_alenF dX4_frameAt_17 rfl k_b14 ?_
  refine a_icmp_ge (t := 30) dX4_frameAt_18 rfl rfl hf (fun _ hf => ?_) (fun _ hf => ?_)
  · refine a_null dX4_frameAt_30 rfl ?_
    cases hf
    exact a_aretN dX4_frameAt_31 rfl rfl rfl
  refine a_aload_n dX4_frameAt_21 rfl rfl ?_
  refine a_getR fl_RX4_17 dX4_frameAt_22 rfl k_v0 rfl (by decide) hf (fun b22 n_b22 _ k_b22 hf => ?_)
  refine a_iload_n dX4_frameAt_25 rfl rfl ?_
  refine a_aald dX4_frameAt_26 rfl k_b22 hf (fun hf => ?_) (fun b26 n_b26 _ k_b26 hf => ?_)
  · refine a_goto (t := 31) dX4_frameAt_27 rfl ?_
    cases hf
    exact a_aretN dX4_frameAt_31 rfl rfl rfl
  refine a_goto (t := 31) dX4_frameAt_27 rfl ?_
  cases hf
  exact a_aretR dX4_frameAt_31 rfl rfl rfl k_b26
set_option maxRecDepth 100000 in
set_option maxHeartbeats 4000000 in
theorem sX4_newest (l : Launch) {Γ : Gm} {h h' : AH} {v0 : Nat} {r : Option Nat} {n_v0 : Nat} (k_v0 : Γ[v0]? = some (4, n_v0)) (hf : fX4_newest Γ v0 h = some (r, h')) : AR l yX4_newest mX4_newest [.ref v0] Γ h (some (am_o r), Γ, h') := by
  refine AR.of [some (.ref v0)] (by decide +kernel) rfl (fun z => by cases z) (Nat.le_of_ble_eq_true rfl) ⟨rfl, trivial⟩ ?_
  unfold fX4_newest at hf
  refine a_aload_n dX4_newest_0 rfl rfl ?_
  refine a_aload_n dX4_newest_1 rfl rfl ?_
  refine a_getI fl_RX4_28 dX4_newest_2 rfl k_v0 rfl ?_
  refine a_iconst (v := nI 1) dX4_newest_5 rfl (by decide) ?_
  refine a_isub dX4_newest_6 rfl ?_
  obtain ⟨r7, h7, hc7, hf⟩ := am_bind_some hf
  refine a_callV (As := [.int ((h.1 v0 4) - (nI 1))]) (r1 := (some (am_o r7), Γ, h7)) (sX4_frameAt l k_v0 hc7) ccX4_frameAt tw_415 tw_416 tw_417 (ci := 4) rfl (by decide) ⟨Nat.le_of_ble_eq_true rfl, Nat.le_of_ble_eq_true rfl, Nat.le_of_ble_eq_true rfl, Nat.le_of_ble_eq_true rfl⟩ dX4_newest_7 rfl k_v0 rfl (Nat.le_of_ble_eq_true rfl) rfl rfl (fun hr7 => ?_)
  cases r7 with
  | none =>
    refine AW.null ?_
    cases hf
    exact a_aretN dX4_newest_10 rfl rfl rfl
  | some b7 =>
    obtain ⟨n_b7, k_b7⟩ := hr7.1 b7 rfl (by decide)
    refine AW.refo ?_
    cases hf
    exact a_aretR dX4_newest_10 rfl rfl rfl k_b7
set_option maxRecDepth 100000 in
set_option maxHeartbeats 4000000 in
theorem sJ6_bitCount_0f7a4 (l : Launch) {Γ : Gm} {h h' : AH} {v0 : Int32} {r : Int32} (hf : fJ6_bitCount_0f7a4 Γ v0 h = some (r, h')) : AR l yJ6_bitCount_0f7a4 mJ6_bitCount_0f7a4 [.int v0] Γ h (some (.int r), Γ, h') := by
  refine AR.of [some (.int v0)] (by decide +kernel) rfl (fun z => by cases z) (Nat.le_of_ble_eq_true rfl) ⟨rfl, trivial⟩ ?_
  unfold fJ6_bitCount_0f7a4 at hf
  refine a_iload_n dJ6_bitCount_0f7a4_0 rfl rfl ?_
  refine a_iload_n dJ6_bitCount_0f7a4_1 rfl rfl ?_
  refine a_iconst (v := nI 1) dJ6_bitCount_0f7a4_2 rfl (by decide) ?_
  refine a_iushr dJ6_bitCount_0f7a4_3 rfl ?_
  refine a_ldcw (v := nI 1431655765) dJ6_bitCount_0f7a4_4 rfl tw_612 ?_
  refine a_iand dJ6_bitCount_0f7a4_7 rfl ?_
  refine a_isub dJ6_bitCount_0f7a4_8 rfl ?_
  refine a_nmI hf (fun x9 hf => ?_)
  refine a_istore_n (L' := [some (.int x9)]) dJ6_bitCount_0f7a4_9 rfl (Nat.le_of_ble_eq_true rfl) (fun _ h0 _ => absurd h0 (by decide)) rfl ?_
  refine a_iload_n dJ6_bitCount_0f7a4_10 rfl rfl ?_
  refine a_ldcw (v := nI 858993459) dJ6_bitCount_0f7a4_11 rfl tw_613 ?_
  refine a_iand dJ6_bitCount_0f7a4_14 rfl ?_
  refine a_iload_n dJ6_bitCount_0f7a4_15 rfl rfl ?_
  refine a_iconst (v := nI 2) dJ6_bitCount_0f7a4_16 rfl (by decide) ?_
  refine a_iushr dJ6_bitCount_0f7a4_17 rfl ?_
  refine a_ldcw (v := nI 858993459) dJ6_bitCount_0f7a4_18 rfl tw_613 ?_
  refine a_iand dJ6_bitCount_0f7a4_21 rfl ?_
  refine a_iadd dJ6_bitCount_0f7a4_22 rfl ?_
  refine a_nmI hf (fun x23 hf => ?_)
  refine a_istore_n (L' := [some (.int x23)]) dJ6_bitCount_0f7a4_23 rfl (Nat.le_of_ble_eq_true rfl) (fun _ h0 _ => absurd h0 (by decide)) rfl ?_
  refine a_iload_n dJ6_bitCount_0f7a4_24 rfl rfl ?_
  refine a_iload_n dJ6_bitCount_0f7a4_25 rfl rfl ?_
  refine a_iconst (v := nI 4) dJ6_bitCount_0f7a4_26 rfl (by decide) ?_
  refine a_iushr dJ6_bitCount_0f7a4_27 rfl ?_
  refine a_iadd dJ6_bitCount_0f7a4_28 rfl ?_
  refine a_ldcw (v := nI 252645135) dJ6_bitCount_0f7a4_29 rfl tw_614 ?_
  refine a_iand dJ6_bitCount_0f7a4_32 rfl ?_
  refine a_nmI hf (fun x33 hf => ?_)
  refine a_istore_n (L' := [some (.int x33)]) dJ6_bitCount_0f7a4_33 rfl (Nat.le_of_ble_eq_true rfl) (fun _ h0 _ => absurd h0 (by decide)) rfl ?_
  refine a_iload_n dJ6_bitCount_0f7a4_34 rfl rfl ?_
  refine a_iload_n dJ6_bitCount_0f7a4_35 rfl rfl ?_
  refine a_bipush (v := nI 8) dJ6_bitCount_0f7a4_36 rfl (by decide) ?_
  refine a_iushr dJ6_bitCount_0f7a4_38 rfl ?_
  refine a_iadd dJ6_bitCount_0f7a4_39 rfl ?_
  refine a_nmI hf (fun x40 hf => ?_)
  refine a_istore_n (L' := [some (.int x40)]) dJ6_bitCount_0f7a4_40 rfl (Nat.le_of_ble_eq_true rfl) (fun _ h0 _ => absurd h0 (by decide)) rfl ?_
  refine a_iload_n dJ6_bitCount_0f7a4_41 rfl rfl ?_
  refine a_iload_n dJ6_bitCount_0f7a4_42 rfl rfl ?_
  refine a_bipush (v := nI 16) dJ6_bitCount_0f7a4_43 rfl (by decide) ?_
  refine a_iushr dJ6_bitCount_0f7a4_45 rfl ?_
  refine a_iadd dJ6_bitCount_0f7a4_46 rfl ?_
  refine a_nmI hf (fun x47 hf => ?_)
  refine a_istore_n (L' := [some (.int x47)]) dJ6_bitCount_0f7a4_47 rfl (Nat.le_of_ble_eq_true rfl) (fun _ h0 _ => absurd h0 (by decide)) rfl ?_
  refine a_iload_n dJ6_bitCount_0f7a4_48 rfl rfl ?_
  refine a_bipush (v := nI 63) dJ6_bitCount_0f7a4_49 rfl (by decide) ?_
  refine a_iand dJ6_bitCount_0f7a4_51 rfl ?_
  cases hf
  exact a_iret dJ6_bitCount_0f7a4_52 rfl rfl rfl (by decide)
