set_option maxRecDepth 100000 in
set_option maxHeartbeats 4000000 in
theorem sX8_leave (l : Launch) {Γ : Gm} {h h' : AH} {v0 : Nat} {r : Int32} {n_v0 : Nat} (k_v0 : Γ[v0]? = some (8, n_v0)) (hf : fX8_leave Γ v0 h = some (r, h')) : AR l yX8_leave mX8_leave [.ref v0] Γ h (some (.int r), Γ, h') := by
  refine AR.of [some (.ref v0), none] (by decide +kernel) rfl (fun z => by cases z) (Nat.le_of_ble_eq_true rfl) ⟨rfl, trivial⟩ ?_
  unfold fX8_leave at hf
  refine a_aload_n dX8_leave_0 rfl rfl ?_
  obtain ⟨r1, h1, hc1, hf⟩ := am_bind_some hf
  refine a_callV (As := []) (r1 := (some (.int r1), Γ, h1)) (sX8_noStory l k_v0 hc1) ccX8_noStory tw_384 tw_386 tp_1 (ci := 8) rfl (by decide) ⟨Nat.le_of_ble_eq_true rfl, Nat.le_of_ble_eq_true rfl, Nat.le_of_ble_eq_true rfl, Nat.le_of_ble_eq_true rfl⟩ dX8_leave_1 rfl k_v0 rfl (Nat.le_of_ble_eq_true rfl) rfl rfl (fun hr1 => ?_)
  refine a_if_eq (t := 10) dX8_leave_4 rfl rfl hf (fun _ hf => ?_) (fun _ hf => ?_)
  · refine a_aload_n dX8_leave_10 rfl rfl ?_
    refine a_getR fl_RX8_62 dX8_leave_11 rfl k_v0 rfl (by decide) hf (fun b11 n_b11 _ k_b11 hf => ?_)
    obtain ⟨r14, h14, hc14, hf⟩ := am_bind_some hf
    refine a_callV (As := []) (r1 := (some (am_o r14), Γ, h14)) (sX4_newest l k_b11 hc14) ccX4_newest tw_411 tw_412 tw_413 (ci := 4) rfl (by decide) ⟨Nat.le_of_ble_eq_true rfl, Nat.le_of_ble_eq_true rfl, Nat.le_of_ble_eq_true rfl, Nat.le_of_ble_eq_true rfl⟩ dX8_leave_14 rfl k_b11 rfl (Nat.le_of_ble_eq_true rfl) rfl rfl (fun hr14 => ?_)
    cases r14 with
    | none =>
      refine AW.null ?_
      refine a_astore_nN (L' := [some (.ref v0), some (.null)]) dX8_leave_17 rfl (Nat.le_of_ble_eq_true rfl) (fun _ _ hv => by cases hv; rfl) rfl ?_
      refine a_aload_nN dX8_leave_18 rfl rfl ?_
      refine a_ifnullN (t := 33) dX8_leave_19 rfl ?_
      refine a_bipush (v := (-2 : Int32)) dX8_leave_33 rfl (by decide) ?_
      cases hf
      exact a_iret dX8_leave_35 rfl rfl rfl (by decide)
    | some b14 =>
      obtain ⟨n_b14, k_b14⟩ := hr14.1 b14 rfl (by decide)
      refine AW.refo ?_
      refine a_astore_n (L' := [some (.ref v0), some (.ref b14)]) dX8_leave_17 rfl (Nat.le_of_ble_eq_true rfl) (fun _ _ hv => by cases hv; rfl) rfl ?_
      refine a_aload_n dX8_leave_18 rfl rfl ?_
      refine a_ifnullR dX8_leave_19 rfl ?_
      refine a_aload_n dX8_leave_22 rfl rfl ?_
      refine a_getR fl_RX8_62 dX8_leave_23 rfl k_v0 rfl (by decide) hf (fun b23 n_b23 _ k_b23 hf => ?_)
      refine a_getI fl_RX8_147 dX8_leave_26 rfl k_b23 rfl ?_
      refine a_iconst (v := nI 1) dX8_leave_29 rfl (by decide) ?_
      refine a_icmp_gt (t := 36) dX8_leave_30 rfl rfl hf (fun _ hf => ?_) (fun _ hf => ?_)
      · refine a_aload_n dX8_leave_36 rfl rfl ?_
        refine a_getR fl_RX8_62 dX8_leave_37 rfl k_v0 rfl (by decide) hf (fun b37 n_b37 _ k_b37 hf => ?_)
        refine a_aload_n dX8_leave_40 rfl rfl ?_
        refine a_getI fl_RX8_158 dX8_leave_41 rfl k_b14 rfl ?_
        refine a_putI fp_RX8_144 dX8_leave_44 rfl k_b37 rfl hf (fun h44 hf => ?_)
        refine a_aload_n dX8_leave_47 rfl rfl ?_
        refine a_getR fl_RX8_62 dX8_leave_48 rfl k_v0 rfl (by decide) hf (fun b48 n_b48 _ k_b48 hf => ?_)
        refine a_dup dX8_leave_51 rfl rfl ?_
        refine a_getI fl_RX8_147 dX8_leave_52 rfl k_b48 rfl ?_
        refine a_iconst (v := nI 1) dX8_leave_55 rfl (by decide) ?_
        refine a_isub dX8_leave_56 rfl ?_
        refine a_putI fp_RX8_147 dX8_leave_57 rfl k_b48 rfl hf (fun h57 hf => ?_)
        refine a_aload_n dX8_leave_60 rfl rfl ?_
        refine a_getR fl_RX8_62 dX8_leave_61 rfl k_v0 rfl (by decide) hf (fun b61 n_b61 _ k_b61 hf => ?_)
        refine a_getI fl_RX8_144 dX8_leave_64 rfl k_b61 rfl ?_
        cases hf
        exact a_iret dX8_leave_67 rfl rfl rfl (by decide)
      refine a_bipush (v := (-2 : Int32)) dX8_leave_33 rfl (by decide) ?_
      cases hf
      exact a_iret dX8_leave_35 rfl rfl rfl (by decide)
  refine a_bipush (v := (-4 : Int32)) dX8_leave_7 rfl (by decide) ?_
  cases hf
  exact a_iret dX8_leave_9 rfl rfl rfl (by decide)
set_option maxRecDepth 100000 in
set_option maxHeartbeats 4000000 in
theorem sX8_local (l : Launch) {Γ : Gm} {h h' : AH} {v0 : Nat} {v1 : Int32} {v2 : Int32} {r : Int32} {n_v0 : Nat} (k_v0 : Γ[v0]? = some (8, n_v0)) (hf : fX8_local Γ v0 v1 v2 h = some (r, h')) : AR l yX8_local mX8_local [.ref v0, .int v1, .int v2] Γ h (some (.int r), Γ, h') := by
  refine AR.of [some (.ref v0), some (.int v1), some (.int v2), none, none] (by decide +kernel) rfl (fun z => by cases z) (Nat.le_of_ble_eq_true rfl) ⟨rfl, ⟨rfl, ⟨rfl, trivial⟩⟩⟩ ?_
  unfold fX8_local at hf
  refine a_aload_n dX8_local_0 rfl rfl ?_
  obtain ⟨r1, h1, hc1, hf⟩ := am_bind_some hf
  refine a_callV (As := []) (r1 := (some (.int r1), Γ, h1)) (sX8_noStory l k_v0 hc1) ccX8_noStory tw_384 tw_386 tp_1 (ci := 8) rfl (by decide) ⟨Nat.le_of_ble_eq_true rfl, Nat.le_of_ble_eq_true rfl, Nat.le_of_ble_eq_true rfl, Nat.le_of_ble_eq_true rfl⟩ dX8_local_1 rfl k_v0 rfl (Nat.le_of_ble_eq_true rfl) rfl rfl (fun hr1 => ?_)
  refine a_if_eq (t := 10) dX8_local_4 rfl rfl hf (fun _ hf => ?_) (fun _ hf => ?_)
  · refine a_aload_n dX8_local_10 rfl rfl ?_
    refine a_getR fl_RX8_62 dX8_local_11 rfl k_v0 rfl (by decide) hf (fun b11 n_b11 _ k_b11 hf => ?_)
    obtain ⟨r14, h14, hc14, hf⟩ := am_bind_some hf
    refine a_callV (As := []) (r1 := (some (am_o r14), Γ, h14)) (sX4_newest l k_b11 hc14) ccX4_newest tw_411 tw_412 tw_413 (ci := 4) rfl (by decide) ⟨Nat.le_of_ble_eq_true rfl, Nat.le_of_ble_eq_true rfl, Nat.le_of_ble_eq_true rfl, Nat.le_of_ble_eq_true rfl⟩ dX8_local_14 rfl k_b11 rfl (Nat.le_of_ble_eq_true rfl) rfl rfl (fun hr14 => ?_)
    cases r14 with
    | none =>
      refine AW.null ?_
      refine a_astore_nN (L' := [some (.ref v0), some (.int v1), some (.int v2), some (.null), none]) dX8_local_17 rfl (Nat.le_of_ble_eq_true rfl) (fun _ _ hv => by cases hv; rfl) rfl ?_
      refine a_aload_nN dX8_local_18 rfl rfl ?_
      refine a_ifnullN (t := 44) dX8_local_19 rfl ?_
      refine a_iconst (v := (-1 : Int32)) dX8_local_44 rfl (by decide) ?_
      cases hf
      exact a_iret dX8_local_45 rfl rfl rfl (by decide)
    | some b14 =>
      obtain ⟨n_b14, k_b14⟩ := hr14.1 b14 rfl (by decide)
      refine AW.refo ?_
      simp only [Option.elim_some] at hf
      refine a_astore_n (L' := [some (.ref v0), some (.int v1), some (.int v2), some (.ref b14), none]) dX8_local_17 rfl (Nat.le_of_ble_eq_true rfl) (fun _ _ hv => by cases hv; rfl) rfl ?_
      refine a_aload_n dX8_local_18 rfl rfl ?_
      refine a_ifnullR dX8_local_19 rfl ?_
      refine a_iload_n dX8_local_22 rfl rfl ?_
      refine a_aload_n dX8_local_23 rfl rfl ?_
      refine a_getI fl_RX8_163 dX8_local_24 rfl k_b14 rfl ?_
      refine a_iconst (v := nI 1) dX8_local_27 rfl (by decide) ?_
      refine a_isub dX8_local_28 rfl ?_
      obtain ⟨r29, h29, hc29, hf⟩ := am_bind_some hf
      refine a_callS (As := [.int v1, .int ((h14.1 b14 4) - (nI 1))]) (r1 := (some (.int r29), Γ, h29)) (sX8_within l hc29) ccX8_within tw_297 tw_298 ⟨Nat.le_of_ble_eq_true rfl, Nat.le_of_ble_eq_true rfl, Nat.le_of_ble_eq_true rfl, Nat.le_of_ble_eq_true rfl⟩ dX8_local_29 rfl rfl (Nat.le_of_ble_eq_true rfl) rfl rfl (fun hr29 => ?_)
      refine a_if_eq (t := 44) dX8_local_32 rfl rfl hf (fun _ hf => ?_) (fun _ hf => ?_)
      · refine a_iconst (v := (-1 : Int32)) dX8_local_44 rfl (by decide) ?_
        cases hf
        exact a_iret dX8_local_45 rfl rfl rfl (by decide)
      refine a_iload_n dX8_local_35 rfl rfl ?_
      refine a_ldc (v := nI 65535) dX8_local_36 rfl tw_423 ?_
      obtain ⟨r38, h38, hc38, hf⟩ := am_bind_some hf
      refine a_callS (As := [.int v2, .int (nI 65535)]) (r1 := (some (.int r38), Γ, h38)) (sX8_within l hc38) ccX8_within tw_297 tw_298 ⟨Nat.le_of_ble_eq_true rfl, Nat.le_of_ble_eq_true rfl, Nat.le_of_ble_eq_true rfl, Nat.le_of_ble_eq_true rfl⟩ dX8_local_38 rfl rfl (Nat.le_of_ble_eq_true rfl) rfl rfl (fun hr38 => ?_)
      refine a_if_ne (t := 46) dX8_local_41 rfl rfl hf (fun _ hf => ?_) (fun _ hf => ?_)
      · refine a_iconst (v := (-1 : Int32)) dX8_local_44 rfl (by decide) ?_
        cases hf
        exact a_iret dX8_local_45 rfl rfl rfl (by decide)
      refine a_aload_n dX8_local_46 rfl rfl ?_
      refine a_iload_n dX8_local_47 rfl rfl ?_
      obtain ⟨r48, h48, hc48, hf⟩ := am_bind_some hf
      refine a_callV (As := [.int v1]) (r1 := (some (.int r48), Γ, h48)) (sX1_wordAt l k_b14 hc48) ccX1_wordAt tw_424 tw_425 tw_426 (ci := 1) rfl (by decide) ⟨Nat.le_of_ble_eq_true rfl, Nat.le_of_ble_eq_true rfl, Nat.le_of_ble_eq_true rfl, Nat.le_of_ble_eq_true rfl⟩ dX8_local_48 rfl k_b14 rfl (Nat.le_of_ble_eq_true rfl) rfl rfl (fun hr48 => ?_)
      refine a_istore (L' := [some (.ref v0), some (.int v1), some (.int v2), some (.ref b14), some (.int r48)]) dX8_local_51 rfl (Nat.le_of_ble_eq_true rfl) (fun _ _ hv => by cases hv; rfl) rfl ?_
      refine a_aload_n dX8_local_53 rfl rfl ?_
      refine a_iload_n dX8_local_54 rfl rfl ?_
      refine a_iload_n dX8_local_55 rfl rfl ?_
      obtain ⟨r56, h56, hc56, hf⟩ := am_bind_some hf
      refine a_callV (As := [.int v1, .int v2]) (r1 := (none, Γ, h56)) (sX1_setWord l k_b14 hc56) ccX1_setWord tw_428 tw_429 tw_430 (ci := 1) rfl (by decide) ⟨Nat.le_of_ble_eq_true rfl, Nat.le_of_ble_eq_true rfl, Nat.le_of_ble_eq_true rfl, Nat.le_of_ble_eq_true rfl⟩ dX8_local_56 rfl k_b14 rfl (Nat.le_of_ble_eq_true rfl) rfl rfl (fun hr56 => ?_)
      refine a_iload dX8_local_59 rfl rfl ?_
      cases hf
      exact a_iret dX8_local_61 rfl rfl rfl (by decide)
  refine a_bipush (v := (-4 : Int32)) dX8_local_7 rfl (by decide) ?_
  cases hf
  exact a_iret dX8_local_9 rfl rfl rfl (by decide)
set_option maxRecDepth 100000 in
set_option maxHeartbeats 4000000 in
theorem sX8_push (l : Launch) {Γ : Gm} {h h' : AH} {v0 : Nat} {v1 : Int32} {r : Int32} {n_v0 : Nat} (k_v0 : Γ[v0]? = some (8, n_v0)) (hf : fX8_push Γ v0 v1 h = some (r, h')) : AR l yX8_push mX8_push [.ref v0, .int v1] Γ h (some (.int r), Γ, h') := by
  refine AR.of [some (.ref v0), some (.int v1), none] (by decide +kernel) rfl (fun z => by cases z) (Nat.le_of_ble_eq_true rfl) ⟨rfl, ⟨rfl, trivial⟩⟩ ?_
  unfold fX8_push at hf
  refine a_aload_n dX8_push_0 rfl rfl ?_
  obtain ⟨r1, h1, hc1, hf⟩ := am_bind_some hf
  refine a_callV (As := []) (r1 := (some (.int r1), Γ, h1)) (sX8_noStory l k_v0 hc1) ccX8_noStory tw_384 tw_386 tp_1 (ci := 8) rfl (by decide) ⟨Nat.le_of_ble_eq_true rfl, Nat.le_of_ble_eq_true rfl, Nat.le_of_ble_eq_true rfl, Nat.le_of_ble_eq_true rfl⟩ dX8_push_1 rfl k_v0 rfl (Nat.le_of_ble_eq_true rfl) rfl rfl (fun hr1 => ?_)
  refine a_if_eq (t := 10) dX8_push_4 rfl rfl hf (fun _ hf => ?_) (fun _ hf => ?_)
  · refine a_iload_n dX8_push_10 rfl rfl ?_
    refine a_ldc (v := nI 65535) dX8_push_11 rfl tw_423 ?_
    obtain ⟨r13, h13, hc13, hf⟩ := am_bind_some hf
    refine a_callS (As := [.int v1, .int (nI 65535)]) (r1 := (some (.int r13), Γ, h13)) (sX8_within l hc13) ccX8_within tw_297 tw_298 ⟨Nat.le_of_ble_eq_true rfl, Nat.le_of_ble_eq_true rfl, Nat.le_of_ble_eq_true rfl, Nat.le_of_ble_eq_true rfl⟩ dX8_push_13 rfl rfl (Nat.le_of_ble_eq_true rfl) rfl rfl (fun hr13 => ?_)
    refine a_if_ne (t := 21) dX8_push_16 rfl rfl hf (fun _ hf => ?_) (fun _ hf => ?_)
    · refine a_iconst (v := (-1 : Int32)) dX8_push_19 rfl (by decide) ?_
      cases hf
      exact a_iret dX8_push_20 rfl rfl rfl (by decide)
    refine a_aload_n dX8_push_21 rfl rfl ?_
    refine a_getR fl_RX8_62 dX8_push_22 rfl k_v0 rfl (by decide) hf (fun b22 n_b22 _ k_b22 hf => ?_)
    obtain ⟨r25, h25, hc25, hf⟩ := am_bind_some hf
    refine a_callV (As := []) (r1 := (some (am_o r25), Γ, h25)) (sX4_newest l k_b22 hc25) ccX4_newest tw_411 tw_412 tw_413 (ci := 4) rfl (by decide) ⟨Nat.le_of_ble_eq_true rfl, Nat.le_of_ble_eq_true rfl, Nat.le_of_ble_eq_true rfl, Nat.le_of_ble_eq_true rfl⟩ dX8_push_25 rfl k_b22 rfl (Nat.le_of_ble_eq_true rfl) rfl rfl (fun hr25 => ?_)
    cases r25 with
    | none =>
      refine AW.null ?_
      refine a_astore_nN (L' := [some (.ref v0), some (.int v1), some (.null)]) dX8_push_28 rfl (Nat.le_of_ble_eq_true rfl) (fun _ _ hv => by cases hv; rfl) rfl ?_
      refine a_aload_nN dX8_push_29 rfl rfl ?_
      refine a_ifnullN (t := 42) dX8_push_30 rfl ?_
      refine a_bipush (v := (-3 : Int32)) dX8_push_42 rfl (by decide) ?_
      cases hf
      exact a_iret dX8_push_44 rfl rfl rfl (by decide)
    | some b25 =>
      obtain ⟨n_b25, k_b25⟩ := hr25.1 b25 rfl (by decide)
      refine AW.refo ?_
      refine a_astore_n (L' := [some (.ref v0), some (.int v1), some (.ref b25)]) dX8_push_28 rfl (Nat.le_of_ble_eq_true rfl) (fun _ _ hv => by cases hv; rfl) rfl ?_
      refine a_aload_n dX8_push_29 rfl rfl ?_
      refine a_ifnullR dX8_push_30 rfl ?_
      refine a_aload_n dX8_push_33 rfl rfl ?_
      refine a_getI fl_RX8_173 dX8_push_34 rfl k_b25 rfl ?_
      refine a_bipush (v := nI 40) dX8_push_37 rfl (by decide) ?_
      refine a_icmp_lt (t := 45) dX8_push_39 rfl rfl hf (fun _ hf => ?_) (fun _ hf => ?_)
      · refine a_aload_n dX8_push_45 rfl rfl ?_
        refine a_iload_n dX8_push_46 rfl rfl ?_
        obtain ⟨r47, h47, hc47, hf⟩ := am_bind_some hf
        refine a_callV (As := [.int v1]) (r1 := (none, Γ, h47)) (sX1_stackWord l k_b25 hc47) ccX1_stackWord tw_436 tw_437 tw_438 (ci := 1) rfl (by decide) ⟨Nat.le_of_ble_eq_true rfl, Nat.le_of_ble_eq_true rfl, Nat.le_of_ble_eq_true rfl, Nat.le_of_ble_eq_true rfl⟩ dX8_push_47 rfl k_b25 rfl (Nat.le_of_ble_eq_true rfl) rfl rfl (fun hr47 => ?_)
        refine a_aload_n dX8_push_50 rfl rfl ?_
        refine a_getI fl_RX8_173 dX8_push_51 rfl k_b25 rfl ?_
        cases hf
        exact a_iret dX8_push_54 rfl rfl rfl (by decide)
      refine a_bipush (v := (-3 : Int32)) dX8_push_42 rfl (by decide) ?_
      cases hf
      exact a_iret dX8_push_44 rfl rfl rfl (by decide)
  refine a_bipush (v := (-4 : Int32)) dX8_push_7 rfl (by decide) ?_
  cases hf
  exact a_iret dX8_push_9 rfl rfl rfl (by decide)
set_option maxRecDepth 100000 in
set_option maxHeartbeats 4000000 in
theorem sX8_pop (l : Launch) {Γ : Gm} {h h' : AH} {v0 : Nat} {r : Int32} {n_v0 : Nat} (k_v0 : Γ[v0]? = some (8, n_v0)) (hf : fX8_pop Γ v0 h = some (r, h')) : AR l yX8_pop mX8_pop [.ref v0] Γ h (some (.int r), Γ, h') := by
  refine AR.of [some (.ref v0), none, none] (by decide +kernel) rfl (fun z => by cases z) (Nat.le_of_ble_eq_true rfl) ⟨rfl, trivial⟩ ?_
  unfold fX8_pop at hf
  refine a_aload_n dX8_pop_0 rfl rfl ?_
  obtain ⟨r1, h1, hc1, hf⟩ := am_bind_some hf
  refine a_callV (As := []) (r1 := (some (.int r1), Γ, h1)) (sX8_noStory l k_v0 hc1) ccX8_noStory tw_384 tw_386 tp_1 (ci := 8) rfl (by decide) ⟨Nat.le_of_ble_eq_true rfl, Nat.le_of_ble_eq_true rfl, Nat.le_of_ble_eq_true rfl, Nat.le_of_ble_eq_true rfl⟩ dX8_pop_1 rfl k_v0 rfl (Nat.le_of_ble_eq_true rfl) rfl rfl (fun hr1 => ?_)
  refine a_if_eq (t := 10) dX8_pop_4 rfl rfl hf (fun _ hf => ?_) (fun _ hf => ?_)
  · refine a_aload_n dX8_pop_10 rfl rfl ?_
    refine a_getR fl_RX8_62 dX8_pop_11 rfl k_v0 rfl (by decide) hf (fun b11 n_b11 _ k_b11 hf => ?_)
    obtain ⟨r14, h14, hc14, hf⟩ := am_bind_some hf
    refine a_callV (As := []) (r1 := (some (am_o r14), Γ, h14)) (sX4_newest l k_b11 hc14) ccX4_newest tw_411 tw_412 tw_413 (ci := 4) rfl (by decide) ⟨Nat.le_of_ble_eq_true rfl, Nat.le_of_ble_eq_true rfl, Nat.le_of_ble_eq_true rfl, Nat.le_of_ble_eq_true rfl⟩ dX8_pop_14 rfl k_b11 rfl (Nat.le_of_ble_eq_true rfl) rfl rfl (fun hr14 => ?_)
    cases r14 with
    | none =>
      refine AW.null ?_
      refine a_astore_nN (L' := [some (.ref v0), some (.null), none]) dX8_pop_17 rfl (Nat.le_of_ble_eq_true rfl) (fun _ _ hv => by cases hv; rfl) rfl ?_
      refine a_aload_nN dX8_pop_18 rfl rfl ?_
      refine a_ifnullN (t := 29) dX8_pop_19 rfl ?_
      refine a_bipush (v := (-2 : Int32)) dX8_pop_29 rfl (by decide) ?_
      cases hf
      exact a_iret dX8_pop_31 rfl rfl rfl (by decide)
    | some b14 =>
      obtain ⟨n_b14, k_b14⟩ := hr14.1 b14 rfl (by decide)
      refine AW.refo ?_
      refine a_astore_n (L' := [some (.ref v0), some (.ref b14), none]) dX8_pop_17 rfl (Nat.le_of_ble_eq_true rfl) (fun _ _ hv => by cases hv; rfl) rfl ?_
      refine a_aload_n dX8_pop_18 rfl rfl ?_
      refine a_ifnullR dX8_pop_19 rfl ?_
      refine a_aload_n dX8_pop_22 rfl rfl ?_
      refine a_getI fl_RX8_173 dX8_pop_23 rfl k_b14 rfl ?_
      refine a_if_gt (t := 32) dX8_pop_26 rfl rfl hf (fun _ hf => ?_) (fun _ hf => ?_)
      · refine a_aload_n dX8_pop_32 rfl rfl ?_
        refine a_aload_n dX8_pop_33 rfl rfl ?_
        obtain ⟨r34, h34, hc34, hf⟩ := am_bind_some hf
        refine a_callV (As := []) (r1 := (some (.int r34), Γ, h34)) (sX1_words l k_b14 hc34) ccX1_words tw_445 tw_446 tw_447 (ci := 1) rfl (by decide) ⟨Nat.le_of_ble_eq_true rfl, Nat.le_of_ble_eq_true rfl, Nat.le_of_ble_eq_true rfl, Nat.le_of_ble_eq_true rfl⟩ dX8_pop_34 rfl k_b14 rfl (Nat.le_of_ble_eq_true rfl) rfl rfl (fun hr34 => ?_)
        refine a_iconst (v := nI 1) dX8_pop_37 rfl (by decide) ?_
        refine a_isub dX8_pop_38 rfl ?_
        obtain ⟨r39, h39, hc39, hf⟩ := am_bind_some hf
        refine a_callV (As := [.int (r34 - (nI 1))]) (r1 := (some (.int r39), Γ, h39)) (sX1_wordAt l k_b14 hc39) ccX1_wordAt tw_424 tw_425 tw_426 (ci := 1) rfl (by decide) ⟨Nat.le_of_ble_eq_true rfl, Nat.le_of_ble_eq_true rfl, Nat.le_of_ble_eq_true rfl, Nat.le_of_ble_eq_true rfl⟩ dX8_pop_39 rfl k_b14 rfl (Nat.le_of_ble_eq_true rfl) rfl rfl (fun hr39 => ?_)
        refine a_istore_n (L' := [some (.ref v0), some (.ref b14), some (.int r39)]) dX8_pop_42 rfl (Nat.le_of_ble_eq_true rfl) (fun _ _ hv => by cases hv; rfl) rfl ?_
        refine a_aload_n dX8_pop_43 rfl rfl ?_
        refine a_dup dX8_pop_44 rfl rfl ?_
        refine a_getI fl_RX8_173 dX8_pop_45 rfl k_b14 rfl ?_
        refine a_iconst (v := nI 1) dX8_pop_48 rfl (by decide) ?_
        refine a_isub dX8_pop_49 rfl ?_
        refine a_putI fp_RX8_173 dX8_pop_50 rfl k_b14 rfl hf (fun h50 hf => ?_)
        refine a_iload_n dX8_pop_53 rfl rfl ?_
        cases hf
        exact a_iret dX8_pop_54 rfl rfl rfl (by decide)
      refine a_bipush (v := (-2 : Int32)) dX8_pop_29 rfl (by decide) ?_
      cases hf
      exact a_iret dX8_pop_31 rfl rfl rfl (by decide)
  refine a_bipush (v := (-4 : Int32)) dX8_pop_7 rfl (by decide) ?_
  cases hf
  exact a_iret dX8_pop_9 rfl rfl rfl (by decide)
set_option maxRecDepth 100000 in
set_option maxHeartbeats 4000000 in
theorem sX8_frame (l : Launch) {Γ : Gm} {h h' : AH} {v0 : Nat} {v1 : Int32} {v2 : Int32} {r : Int32} {n_v0 : Nat} (k_v0 : Γ[v0]? = some (8, n_v0)) (hf : fX8_frame Γ v0 v1 v2 h = some (r, h')) : AR l yX8_frame mX8_frame [.ref v0, .int v1, .int v2] Γ h (some (.int r), Γ, h') := by
  refine AR.of [some (.ref v0), some (.int v1), some (.int v2), none] (by decide +kernel) rfl (fun z => by cases z) (Nat.le_of_ble_eq_true rfl) ⟨rfl, ⟨rfl, ⟨rfl, trivial⟩⟩⟩ ?_
  unfold fX8_frame at hf
  refine a_aload_n dX8_frame_0 rfl rfl ?_
  obtain ⟨r1, h1, hc1, hf⟩ := am_bind_some hf
  refine a_callV (As := []) (r1 := (some (.int r1), Γ, h1)) (sX8_noStory l k_v0 hc1) ccX8_noStory tw_384 tw_386 tp_1 (ci := 8) rfl (by decide) ⟨Nat.le_of_ble_eq_true rfl, Nat.le_of_ble_eq_true rfl, Nat.le_of_ble_eq_true rfl, Nat.le_of_ble_eq_true rfl⟩ dX8_frame_1 rfl k_v0 rfl (Nat.le_of_ble_eq_true rfl) rfl rfl (fun hr1 => ?_)
  refine a_if_eq (t := 10) dX8_frame_4 rfl rfl hf (fun _ hf => ?_) (fun _ hf => ?_)
  · refine a_aload_n dX8_frame_10 rfl rfl ?_
    refine a_getR fl_RX8_62 dX8_frame_11 rfl k_v0 rfl (by decide) hf (fun b11 n_b11 _ k_b11 hf => ?_)
    refine a_iload_n dX8_frame_14 rfl rfl ?_
    obtain ⟨r15, h15, hc15, hf⟩ := am_bind_some hf
    refine a_callV (As := [.int v1]) (r1 := (some (am_o r15), Γ, h15)) (sX4_frameAt l k_b11 hc15) ccX4_frameAt tw_453 tw_416 tw_417 (ci := 4) rfl (by decide) ⟨Nat.le_of_ble_eq_true rfl, Nat.le_of_ble_eq_true rfl, Nat.le_of_ble_eq_true rfl, Nat.le_of_ble_eq_true rfl⟩ dX8_frame_15 rfl k_b11 rfl (Nat.le_of_ble_eq_true rfl) rfl rfl (fun hr15 => ?_)
    cases r15 with
    | none =>
      refine AW.null ?_
      refine a_astore_nN (L' := [some (.ref v0), some (.int v1), some (.int v2), some (.null)]) dX8_frame_18 rfl (Nat.le_of_ble_eq_true rfl) (fun _ _ hv => by cases hv; rfl) rfl ?_
      refine a_aload_nN dX8_frame_19 rfl rfl ?_
      refine a_ifnonnullN dX8_frame_20 rfl ?_
      refine a_bipush (v := (-2 : Int32)) dX8_frame_23 rfl (by decide) ?_
      cases hf
      exact a_iret dX8_frame_25 rfl rfl rfl (by decide)
    | some b15 =>
      obtain ⟨n_b15, k_b15⟩ := hr15.1 b15 rfl (by decide)
      refine AW.refo ?_
      refine a_astore_n (L' := [some (.ref v0), some (.int v1), some (.int v2), some (.ref b15)]) dX8_frame_18 rfl (Nat.le_of_ble_eq_true rfl) (fun _ _ hv => by cases hv; rfl) rfl ?_
      refine a_aload_n dX8_frame_19 rfl rfl ?_
      refine a_ifnonnullR (t := 26) dX8_frame_20 rfl ?_
      refine a_iload_n dX8_frame_26 rfl rfl ?_
      refine a_bipush (v := nI 10) dX8_frame_27 rfl (by decide) ?_
      refine a_icmp_lt (t := 57) dX8_frame_29 rfl rfl hf (fun _ hf => ?_) (fun _ hf => ?_)
      · refine a_iload_n dX8_frame_57 rfl rfl ?_
        refine am_if hf (fun hx hf => ?_) (fun hx0 hf => ?_)
        · refine a_tswIn (c := nI 0) (off := 34) (t := 92) dX8_frame_58 hx (by decide) (by decide) (by decide) rfl ?_
          refine a_aload_n dX8_frame_92 rfl rfl ?_
          refine a_getI fl_RX8_158 dX8_frame_93 rfl k_b15 rfl ?_
          cases hf
          exact a_iret dX8_frame_96 rfl rfl rfl (by decide)
        refine am_if hf (fun hx hf => ?_) (fun hx1 hf => ?_)
        · refine a_tswIn (c := nI 1) (off := 39) (t := 97) dX8_frame_58 hx (by decide) (by decide) (by decide) rfl ?_
          refine a_aload_n dX8_frame_97 rfl rfl ?_
          refine a_getI fl_RX8_186 dX8_frame_98 rfl k_b15 rfl ?_
          cases hf
          exact a_iret dX8_frame_101 rfl rfl rfl (by decide)
        refine am_if hf (fun hx hf => ?_) (fun hx2 hf => ?_)
        · refine a_tswIn (c := nI 2) (off := 44) (t := 102) dX8_frame_58 hx (by decide) (by decide) (by decide) rfl ?_
          refine a_aload_n dX8_frame_102 rfl rfl ?_
          refine a_getI fl_RX8_189 dX8_frame_103 rfl k_b15 rfl ?_
          cases hf
          exact a_iret dX8_frame_106 rfl rfl rfl (by decide)
        refine am_if hf (fun hx hf => ?_) (fun hx3 hf => ?_)
        · refine a_tswIn (c := nI 3) (off := 49) (t := 107) dX8_frame_58 hx (by decide) (by decide) (by decide) rfl ?_
          refine a_aload_n dX8_frame_107 rfl rfl ?_
          refine a_getI fl_RX8_163 dX8_frame_108 rfl k_b15 rfl ?_
          cases hf
          exact a_iret dX8_frame_111 rfl rfl rfl (by decide)
        refine am_if hf (fun hx hf => ?_) (fun hx4 hf => ?_)
        · refine a_tswIn (c := nI 4) (off := 54) (t := 112) dX8_frame_58 hx (by decide) (by decide) (by decide) rfl ?_
          refine a_aload_n dX8_frame_112 rfl rfl ?_
          refine a_getI fl_RX8_173 dX8_frame_113 rfl k_b15 rfl ?_
          cases hf
          exact a_iret dX8_frame_116 rfl rfl rfl (by decide)
        refine a_tswOut (t := 117) dX8_frame_58 (by have e0 := lv_neT (a := 0) hx0 (by decide); have e1 := lv_neT (a := 1) hx1 (by decide); have e2 := lv_neT (a := 2) hx2 (by decide); have e3 := lv_neT (a := 3) hx3 (by decide); have e4 := lv_neT (a := 4) hx4 (by decide); omega) rfl ?_
        refine a_iconst (v := (-1 : Int32)) dX8_frame_117 rfl (by decide) ?_
        cases hf
        exact a_iret dX8_frame_118 rfl rfl rfl (by decide)
      refine a_iload_n dX8_frame_32 rfl rfl ?_
      refine a_bipush (v := nI 10) dX8_frame_33 rfl (by decide) ?_
      refine a_isub dX8_frame_35 rfl ?_
      refine a_aload_n dX8_frame_36 rfl rfl ?_
      obtain ⟨r37, h37, hc37, hf⟩ := am_bind_some hf
      refine a_callV (As := []) (r1 := (some (.int r37), Γ, h37)) (sX1_words l k_b15 hc37) ccX1_words tw_445 tw_446 tw_447 (ci := 1) rfl (by decide) ⟨Nat.le_of_ble_eq_true rfl, Nat.le_of_ble_eq_true rfl, Nat.le_of_ble_eq_true rfl, Nat.le_of_ble_eq_true rfl⟩ dX8_frame_37 rfl k_b15 rfl (Nat.le_of_ble_eq_true rfl) rfl rfl (fun hr37 => ?_)
      refine a_icmp_ge (t := 54) dX8_frame_40 rfl rfl hf (fun _ hf => ?_) (fun _ hf => ?_)
      · refine a_bipush (v := (-2 : Int32)) dX8_frame_54 rfl (by decide) ?_
        cases hf
        exact a_iret dX8_frame_56 rfl rfl rfl (by decide)
      refine a_aload_n dX8_frame_43 rfl rfl ?_
      refine a_iload_n dX8_frame_44 rfl rfl ?_
      refine a_bipush (v := nI 10) dX8_frame_45 rfl (by decide) ?_
      refine a_isub dX8_frame_47 rfl ?_
      obtain ⟨r48, h48, hc48, hf⟩ := am_bind_some hf
      refine a_callV (As := [.int (v2 - (nI 10))]) (r1 := (some (.int r48), Γ, h48)) (sX1_wordAt l k_b15 hc48) ccX1_wordAt tw_424 tw_425 tw_426 (ci := 1) rfl (by decide) ⟨Nat.le_of_ble_eq_true rfl, Nat.le_of_ble_eq_true rfl, Nat.le_of_ble_eq_true rfl, Nat.le_of_ble_eq_true rfl⟩ dX8_frame_48 rfl k_b15 rfl (Nat.le_of_ble_eq_true rfl) rfl rfl (fun hr48 => ?_)
      refine a_goto (t := 56) dX8_frame_51 rfl ?_
      cases hf
      exact a_iret dX8_frame_56 rfl rfl rfl (by decide)
  refine a_bipush (v := (-4 : Int32)) dX8_frame_7 rfl (by decide) ?_
  cases hf
  exact a_iret dX8_frame_9 rfl rfl rfl (by decide)
set_option maxRecDepth 100000 in
set_option maxHeartbeats 4000000 in
theorem sX8_printed (l : Launch) {Γ : Gm} {h h' : AH} {v0 : Int64} {v2 : Int32} {r : Int64} (hf : fX8_printed Γ v0 v2 h = some (r, h')) : AR l yX8_printed mX8_printed [.long v0, .int v2] Γ h (some (.long r), Γ, h') := by
  refine AR.of [some (.long v0), none, some (.int v2)] (by decide +kernel) rfl (fun z => by cases z) (Nat.le_of_ble_eq_true rfl) ⟨rfl, ⟨rfl, trivial⟩⟩ ?_
  unfold fX8_printed at hf
  refine a_lload_n dX8_printed_0 rfl rfl ?_
  refine a_iload_n dX8_printed_1 rfl rfl ?_
  refine a_i2l dX8_printed_2 rfl ?_
  refine a_lxor dX8_printed_3 rfl ?_
  refine a_ldc2 (v := (1099511628211 : Int64)) dX8_printed_4 rfl tw_462 ?_
  refine a_lmul dX8_printed_7 rfl ?_
  cases hf
  exact a_lret dX8_printed_8 rfl rfl rfl
set_option maxRecDepth 100000 in
set_option maxHeartbeats 4000000 in
theorem wX8_print_80 (l : Launch) {Γ : Gm} {r : Int64} {h' : AH} : ∀ (z : Nat) (v0 : Nat) (v1 : Int64) (v3 : Int32) (h : AH), ∀ n_v0 : Nat, Γ[v0]? = some (8, n_v0) → fX8_print_80 Γ z v0 v1 v3 h = some (r, h') → AW l mX8_print (some (.long r), Γ, h') 0 0 80 [some (.ref v0), some (.long v1), none, some (.int v3)] [] Γ h := by
  intro z
  induction z with
  | zero => intro v0 v1 v3 h n_v0 k_v0 hf; cases hf
  | succ z ih =>
    intro v0 v1 v3 h n_v0 k_v0 hf
    unfold fX8_print_80 at hf
    refine a_iload_n dX8_print_80 rfl rfl ?_
    refine a_aload_n dX8_print_81 rfl rfl ?_
    refine a_getR fl_RX8_42 dX8_print_82 rfl k_v0 rfl (by decide) hf (fun b82 n_b82 _ k_b82 hf => ?_)
    refine a_getI fl_RX8_101 dX8_print_85 rfl k_b82 rfl ?_
    refine a_icmp_ge (t := 110) dX8_print_88 rfl rfl hf (fun _ hf => ?_) (fun _ hf => ?_)
    · refine a_lload_n dX8_print_110 rfl rfl ?_
      cases hf
      exact a_lret dX8_print_111 rfl rfl rfl
    refine a_lload_n dX8_print_91 rfl rfl ?_
    refine a_aload_n dX8_print_92 rfl rfl ?_
    refine a_getR fl_RX8_42 dX8_print_93 rfl k_v0 rfl (by decide) hf (fun b93 n_b93 _ k_b93 hf => ?_)
    refine a_iload_n dX8_print_96 rfl rfl ?_
    obtain ⟨r97, h97, hc97, hf⟩ := am_bind_some hf
    refine a_callV (As := [.int v3]) (r1 := (some (.int r97), Γ, h97)) (sX0_at l k_b93 hc97) ccX0_at tw_308 tw_309 tw_310 (ci := 0) rfl (by decide) ⟨Nat.le_of_ble_eq_true rfl, Nat.le_of_ble_eq_true rfl, Nat.le_of_ble_eq_true rfl, Nat.le_of_ble_eq_true rfl⟩ dX8_print_97 rfl k_b93 rfl (Nat.le_of_ble_eq_true rfl) rfl rfl (fun hr97 => ?_)
    obtain ⟨r100, h100, hc100, hf⟩ := am_bind_some hf
    refine a_callS (As := [.long v1, .int r97]) (r1 := (some (.long r100), Γ, h100)) (sX8_printed l hc100) ccX8_printed tw_459 tw_460 ⟨Nat.le_of_ble_eq_true rfl, Nat.le_of_ble_eq_true rfl, Nat.le_of_ble_eq_true rfl, Nat.le_of_ble_eq_true rfl⟩ dX8_print_100 rfl rfl (Nat.le_of_ble_eq_true rfl) rfl rfl (fun hr100 => ?_)
    refine a_lstore_n (L' := [some (.ref v0), some (.long r100), none, some (.int v3)]) dX8_print_103 rfl (Nat.le_of_ble_eq_true rfl) (fun _ _ hv => by cases hv; rfl) rfl ?_
    refine a_iinc (v := v3 + nI 1) (L' := [some (.ref v0), some (.long r100), none, some (.int (v3 + nI 1))]) dX8_print_104 rfl rfl rfl (Nat.le_of_ble_eq_true rfl) (fun _ _ hv => by cases hv) rfl ?_
    refine a_goto (t := 80) dX8_print_107 rfl ?_
    exact AW.weak (ih v0 r100 (v3 + nI 1) h100 _ k_v0 hf) ⟨rfl, ⟨rfl, ⟨rfl, trivial⟩⟩⟩
set_option maxRecDepth 100000 in
set_option maxHeartbeats 4000000 in
theorem wX8_print_15 (l : Launch) {Γ : Gm} {r : Int64} {h' : AH} : ∀ (z : Nat) (v0 : Nat) (v1 : Int64) (v3 : Int32) (h : AH), ∀ n_v0 : Nat, Γ[v0]? = some (8, n_v0) → fX8_print_15 Γ z v0 v1 v3 h = some (r, h') → AW l mX8_print (some (.long r), Γ, h') 0 0 15 [some (.ref v0), some (.long v1), none, some (.int v3)] [] Γ h := by
  intro z
  induction z with
  | zero => intro v0 v1 v3 h n_v0 k_v0 hf; cases hf
  | succ z ih =>
    intro v0 v1 v3 h n_v0 k_v0 hf
    unfold fX8_print_15 at hf
    refine a_iload_n dX8_print_15 rfl rfl ?_
    refine a_aload_n dX8_print_16 rfl rfl ?_
    refine a_getR fl_RX8_62 dX8_print_17 rfl k_v0 rfl (by decide) hf (fun b17 n_b17 _ k_b17 hf => ?_)
    refine a_getI fl_RX8_136 dX8_print_20 rfl k_b17 rfl ?_
    refine a_icmp_ge (t := 45) dX8_print_23 rfl rfl hf (fun _ hf => ?_) (fun _ hf => ?_)
    · refine a_aload_n dX8_print_45 rfl rfl ?_
      refine a_getR fl_RX8_42 dX8_print_46 rfl k_v0 rfl (by decide) hf (fun b46 n_b46 _ k_b46 hf => ?_)
      obtain ⟨r49, h49, hc49, hf⟩ := am_bind_some hf
      refine a_callV (As := []) (r1 := (none, Γ, h49)) (sX0_clear l k_b46 hc49) ccX0_clear tw_379 tw_325 tw_326 (ci := 0) rfl (by decide) ⟨Nat.le_of_ble_eq_true rfl, Nat.le_of_ble_eq_true rfl, Nat.le_of_ble_eq_true rfl, Nat.le_of_ble_eq_true rfl⟩ dX8_print_49 rfl k_b46 rfl (Nat.le_of_ble_eq_true rfl) rfl rfl (fun hr49 => ?_)
      refine a_aload_n dX8_print_52 rfl rfl ?_
      refine a_getR fl_RX8_42 dX8_print_53 rfl k_v0 rfl (by decide) hf (fun b53 n_b53 _ k_b53 hf => ?_)
      refine a_aload_n dX8_print_56 rfl rfl ?_
      refine a_getR fl_RX8_62 dX8_print_57 rfl k_v0 rfl (by decide) hf (fun b57 n_b57 _ k_b57 hf => ?_)
      refine a_getI fl_RX8_144 dX8_print_60 rfl k_b57 rfl ?_
      refine a_iconst (v := nI 3) dX8_print_63 rfl (by decide) ?_
      obtain ⟨r64, h64, hc64, hf⟩ := am_bind_some hf
      refine a_callV (As := [.int (h49.1 b57 3), .int (nI 3)]) (r1 := (none, Γ, h64)) (sX0_addNumber l k_b53 hc64) ccX0_addNumber tw_285 tw_286 tw_287 (ci := 0) rfl (by decide) ⟨Nat.le_of_ble_eq_true rfl, Nat.le_of_ble_eq_true rfl, Nat.le_of_ble_eq_true rfl, Nat.le_of_ble_eq_true rfl⟩ dX8_print_64 rfl k_b53 rfl (Nat.le_of_ble_eq_true rfl) rfl rfl (fun hr64 => ?_)
      refine a_aload_n dX8_print_67 rfl rfl ?_
      refine a_getR fl_RX8_62 dX8_print_68 rfl k_v0 rfl (by decide) hf (fun b68 n_b68 _ k_b68 hf => ?_)
      refine a_aload_n dX8_print_71 rfl rfl ?_
      refine a_getR fl_RX8_42 dX8_print_72 rfl k_v0 rfl (by decide) hf (fun b72 n_b72 _ k_b72 hf => ?_)
      obtain ⟨r75, h75, hc75, hf⟩ := am_bind_some hf
      refine a_callV (As := [.ref b72]) (r1 := (none, Γ, h75)) (sX4_tellFrames l k_b68 k_b72 hc75) ccX4_tellFrames tw_463 tw_464 tw_465 (ci := 4) rfl (by decide) ⟨Nat.le_of_ble_eq_true rfl, Nat.le_of_ble_eq_true rfl, Nat.le_of_ble_eq_true rfl, Nat.le_of_ble_eq_true rfl⟩ dX8_print_75 rfl k_b68 rfl (Nat.le_of_ble_eq_true rfl) rfl rfl (fun hr75 => ?_)
      refine a_iconst (v := nI 0) dX8_print_78 rfl (by decide) ?_
      refine a_istore_n (L' := [some (.ref v0), some (.long v1), none, some (.int (nI 0))]) dX8_print_79 rfl (Nat.le_of_ble_eq_true rfl) (fun _ _ hv => by cases hv) rfl ?_
      exact AW.weak (wX8_print_80 l am_fuel v0 v1 (nI 0) h75 _ k_v0 hf) ⟨rfl, ⟨rfl, ⟨rfl, trivial⟩⟩⟩
    refine a_lload_n dX8_print_26 rfl rfl ?_
    refine a_aload_n dX8_print_27 rfl rfl ?_
    refine a_getR fl_RX8_62 dX8_print_28 rfl k_v0 rfl (by decide) hf (fun b28 n_b28 _ k_b28 hf => ?_)
    refine a_iload_n dX8_print_31 rfl rfl ?_
    obtain ⟨r32, h32, hc32, hf⟩ := am_bind_some hf
    refine a_callV (As := [.int v3]) (r1 := (some (.int r32), Γ, h32)) (sX4_byteAt l k_b28 hc32) ccX4_byteAt tw_388 tw_389 tw_390 (ci := 4) rfl (by decide) ⟨Nat.le_of_ble_eq_true rfl, Nat.le_of_ble_eq_true rfl, Nat.le_of_ble_eq_true rfl, Nat.le_of_ble_eq_true rfl⟩ dX8_print_32 rfl k_b28 rfl (Nat.le_of_ble_eq_true rfl) rfl rfl (fun hr32 => ?_)
    obtain ⟨r35, h35, hc35, hf⟩ := am_bind_some hf
    refine a_callS (As := [.long v1, .int r32]) (r1 := (some (.long r35), Γ, h35)) (sX8_printed l hc35) ccX8_printed tw_459 tw_460 ⟨Nat.le_of_ble_eq_true rfl, Nat.le_of_ble_eq_true rfl, Nat.le_of_ble_eq_true rfl, Nat.le_of_ble_eq_true rfl⟩ dX8_print_35 rfl rfl (Nat.le_of_ble_eq_true rfl) rfl rfl (fun hr35 => ?_)
    refine a_lstore_n (L' := [some (.ref v0), some (.long r35), none, some (.int v3)]) dX8_print_38 rfl (Nat.le_of_ble_eq_true rfl) (fun _ _ hv => by cases hv; rfl) rfl ?_
    refine a_iinc (v := v3 + nI 1) (L' := [some (.ref v0), some (.long r35), none, some (.int (v3 + nI 1))]) dX8_print_39 rfl rfl rfl (Nat.le_of_ble_eq_true rfl) (fun _ _ hv => by cases hv) rfl ?_
    refine a_goto (t := 15) dX8_print_42 rfl ?_
    exact AW.weak (ih v0 r35 (v3 + nI 1) h35 _ k_v0 hf) ⟨rfl, ⟨rfl, ⟨rfl, trivial⟩⟩⟩
set_option maxRecDepth 100000 in
set_option maxHeartbeats 4000000 in
theorem sX8_print (l : Launch) {Γ : Gm} {h h' : AH} {v0 : Nat} {r : Int64} {n_v0 : Nat} (k_v0 : Γ[v0]? = some (8, n_v0)) (hf : fX8_print Γ v0 h = some (r, h')) : AR l yX8_print mX8_print [.ref v0] Γ h (some (.long r), Γ, h') := by
  refine AR.of [some (.ref v0), none, none, none] (by decide +kernel) rfl (fun z => by cases z) (Nat.le_of_ble_eq_true rfl) ⟨rfl, trivial⟩ ?_
  unfold fX8_print at hf
  refine a_aload_n dX8_print_0 rfl rfl ?_
  obtain ⟨r1, h1, hc1, hf⟩ := am_bind_some hf
  refine a_callV (As := []) (r1 := (some (.int r1), Γ, h1)) (sX8_noStory l k_v0 hc1) ccX8_noStory tw_384 tw_386 tp_1 (ci := 8) rfl (by decide) ⟨Nat.le_of_ble_eq_true rfl, Nat.le_of_ble_eq_true rfl, Nat.le_of_ble_eq_true rfl, Nat.le_of_ble_eq_true rfl⟩ dX8_print_1 rfl k_v0 rfl (Nat.le_of_ble_eq_true rfl) rfl rfl (fun hr1 => ?_)
  refine a_if_eq (t := 9) dX8_print_4 rfl rfl hf (fun _ hf => ?_) (fun _ hf => ?_)
  · refine a_ldc2 (v := (-3750763034362895579 : Int64)) dX8_print_9 rfl tw_458 ?_
    refine a_lstore_n (L' := [some (.ref v0), some (.long ((-3750763034362895579 : Int64))), none, none]) dX8_print_12 rfl (Nat.le_of_ble_eq_true rfl) (fun _ _ hv => by cases hv; rfl) rfl ?_
    refine a_iconst (v := nI 0) dX8_print_13 rfl (by decide) ?_
    refine a_istore_n (L' := [some (.ref v0), some (.long ((-3750763034362895579 : Int64))), none, some (.int (nI 0))]) dX8_print_14 rfl (Nat.le_of_ble_eq_true rfl) (fun _ _ hv => by cases hv) rfl ?_
    exact AW.weak (wX8_print_15 l am_fuel v0 ((-3750763034362895579 : Int64)) (nI 0) h1 _ k_v0 hf) ⟨rfl, ⟨rfl, ⟨rfl, trivial⟩⟩⟩
  refine a_lconst (v := (0 : Int64)) dX8_print_7 rfl (by decide) ?_
  cases hf
  exact a_lret dX8_print_8 rfl rfl rfl
