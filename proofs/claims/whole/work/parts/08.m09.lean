set_option maxRecDepth 100000 in
set_option maxHeartbeats 4000000 in
theorem wX8_call_31 (l : Launch) {Γ : Gm} {r : Int32} {h' : AH} (v0 : Nat) (v1 : Int32) (v2 : Int32) (v3 : Int32) (v4 : Int32) (s0 : Int32) (h : AH) : ∀ n_v0 : Nat, Γ[v0]? = some (8, n_v0) → fX8_call_31 Γ v0 v1 v2 v3 v4 s0 h = some (r, h') → AW l mX8_call (some (.int r), Γ, h') 0 0 31 [some (.ref v0), some (.int v1), some (.int v2), some (.int v3), some (.int v4), some (.int s0)] [] Γ h := by
  intro n_v0 k_v0 hf
  unfold fX8_call_31 at hf
  refine a_istore (L' := [some (.ref v0), some (.int v1), some (.int v2), some (.int v3), some (.int v4), some (.int s0)]) dX8_call_31 rfl (Nat.le_of_ble_eq_true rfl) (fun _ _ hv => by cases hv; rfl) rfl ?_
  refine a_iload_n dX8_call_33 rfl rfl ?_
  refine a_ldc (v := (16777215 : Int32)) dX8_call_34 rfl tw_401 ?_
  obtain ⟨r36, h36, hc36, hf⟩ := am_bind_some hf
  refine a_callS (As := [.int v1, .int ((16777215 : Int32))]) (r1 := (some (.int r36), Γ, h36)) (sX8_within l hc36) ccX8_within tw_297 tw_298 ⟨Nat.le_of_ble_eq_true rfl, Nat.le_of_ble_eq_true rfl, Nat.le_of_ble_eq_true rfl, Nat.le_of_ble_eq_true rfl⟩ dX8_call_36 rfl rfl (Nat.le_of_ble_eq_true rfl) rfl rfl (fun hr36 => ?_)
  refine a_if_eq (t := 66) dX8_call_39 rfl rfl hf (fun _ hf => ?_) (fun _ hf => ?_)
  · refine a_iconst (v := (-1 : Int32)) dX8_call_66 rfl (by decide) ?_
    cases hf
    exact a_iret dX8_call_67 rfl rfl rfl (by decide)
  refine a_iload dX8_call_42 rfl rfl ?_
  refine a_if_eq (t := 66) dX8_call_44 rfl rfl hf (fun _ hf => ?_) (fun _ hf => ?_)
  · refine a_iconst (v := (-1 : Int32)) dX8_call_66 rfl (by decide) ?_
    cases hf
    exact a_iret dX8_call_67 rfl rfl rfl (by decide)
  refine a_iload_n dX8_call_47 rfl rfl ?_
  refine a_bipush (v := (7 : Int32)) dX8_call_48 rfl (by decide) ?_
  obtain ⟨r50, h50, hc50, hf⟩ := am_bind_some hf
  refine a_callS (As := [.int v3, .int ((7 : Int32))]) (r1 := (some (.int r50), Γ, h50)) (sX8_within l hc50) ccX8_within tw_297 tw_298 ⟨Nat.le_of_ble_eq_true rfl, Nat.le_of_ble_eq_true rfl, Nat.le_of_ble_eq_true rfl, Nat.le_of_ble_eq_true rfl⟩ dX8_call_50 rfl rfl (Nat.le_of_ble_eq_true rfl) rfl rfl (fun hr50 => ?_)
  refine a_if_eq (t := 66) dX8_call_53 rfl rfl hf (fun _ hf => ?_) (fun _ hf => ?_)
  · refine a_iconst (v := (-1 : Int32)) dX8_call_66 rfl (by decide) ?_
    cases hf
    exact a_iret dX8_call_67 rfl rfl rfl (by decide)
  refine a_iload dX8_call_56 rfl rfl ?_
  refine a_bipush (v := (15 : Int32)) dX8_call_58 rfl (by decide) ?_
  obtain ⟨r60, h60, hc60, hf⟩ := am_bind_some hf
  refine a_callS (As := [.int v4, .int ((15 : Int32))]) (r1 := (some (.int r60), Γ, h60)) (sX8_within l hc60) ccX8_within tw_297 tw_298 ⟨Nat.le_of_ble_eq_true rfl, Nat.le_of_ble_eq_true rfl, Nat.le_of_ble_eq_true rfl, Nat.le_of_ble_eq_true rfl⟩ dX8_call_60 rfl rfl (Nat.le_of_ble_eq_true rfl) rfl rfl (fun hr60 => ?_)
  refine a_if_ne (t := 68) dX8_call_63 rfl rfl hf (fun _ hf => ?_) (fun _ hf => ?_)
  · refine a_iconst (v := (-1 : Int32)) dX8_call_66 rfl (by decide) ?_
    cases hf
    exact a_iret dX8_call_67 rfl rfl rfl (by decide)
  refine a_aload_n dX8_call_68 rfl rfl ?_
  refine a_getR fl_RX8_62 dX8_call_69 rfl k_v0 rfl (by decide) hf (fun b69 n_b69 _ k_b69 hf => ?_)
  refine a_getI fl_RX8_147 dX8_call_72 rfl k_b69 rfl ?_
  refine a_bipush (v := (20 : Int32)) dX8_call_75 rfl (by decide) ?_
  refine a_icmp_lt (t := 83) dX8_call_77 rfl rfl hf (fun _ hf => ?_) (fun _ hf => ?_)
  · refine a_aload_n dX8_call_83 rfl rfl ?_
    refine a_getR fl_RX8_62 dX8_call_84 rfl k_v0 rfl (by decide) hf (fun b84 n_b84 _ k_b84 hf => ?_)
    refine a_aload_n dX8_call_87 rfl rfl ?_
    refine a_getR fl_RX8_62 dX8_call_88 rfl k_v0 rfl (by decide) hf (fun b88 n_b88 _ k_b88 hf => ?_)
    refine a_getI fl_RX8_144 dX8_call_91 rfl k_b88 rfl ?_
    refine a_iload_n dX8_call_94 rfl rfl ?_
    refine a_iload_n dX8_call_95 rfl rfl ?_
    refine a_iload dX8_call_96 rfl rfl ?_
    obtain ⟨r98, h98, hc98, hf⟩ := am_bind_some hf
    refine a_callV (As := [.int (h60.1 b88 3), .int v2, .int v3, .int v4]) (r1 := (none, Γ, h98)) (sX4_addFrame l k_b84 hc98) ccX4_addFrame tw_406 tw_362 tw_363 (ci := 4) rfl (by decide) ⟨Nat.le_of_ble_eq_true rfl, Nat.le_of_ble_eq_true rfl, Nat.le_of_ble_eq_true rfl, Nat.le_of_ble_eq_true rfl⟩ dX8_call_98 rfl k_b84 rfl (Nat.le_of_ble_eq_true rfl) rfl rfl (fun hr98 => ?_)
    refine a_aload_n dX8_call_101 rfl rfl ?_
    refine a_getR fl_RX8_62 dX8_call_102 rfl k_v0 rfl (by decide) hf (fun b102 n_b102 _ k_b102 hf => ?_)
    refine a_iload_n dX8_call_105 rfl rfl ?_
    refine a_putI fp_RX8_144 dX8_call_106 rfl k_b102 rfl hf (fun h106 hf => ?_)
    refine a_aload_n dX8_call_109 rfl rfl ?_
    refine a_getR fl_RX8_62 dX8_call_110 rfl k_v0 rfl (by decide) hf (fun b110 n_b110 _ k_b110 hf => ?_)
    refine a_getI fl_RX8_147 dX8_call_113 rfl k_b110 rfl ?_
    cases hf
    exact a_iret dX8_call_116 rfl rfl rfl (by decide)
  refine a_bipush (v := (-3 : Int32)) dX8_call_80 rfl (by decide) ?_
  cases hf
  exact a_iret dX8_call_82 rfl rfl rfl (by decide)
set_option maxRecDepth 100000 in
set_option maxHeartbeats 4000000 in
theorem wX8_call_26 (l : Launch) {Γ : Gm} {r : Int32} {h' : AH} (v0 : Nat) (v1 : Int32) (v2 : Int32) (v3 : Int32) (v4 : Int32) (h : AH) : ∀ n_v0 : Nat, Γ[v0]? = some (8, n_v0) → fX8_call_26 Γ v0 v1 v2 v3 v4 h = some (r, h') → AW l mX8_call (some (.int r), Γ, h') 0 0 26 [some (.ref v0), some (.int v1), some (.int v2), some (.int v3), some (.int v4), none] [.int ((1 : Int32))] Γ h := by
  intro n_v0 k_v0 hf
  unfold fX8_call_26 at hf
  refine a_iconst (v := (1 : Int32)) dX8_call_26 rfl (by decide) ?_
  refine a_goto (t := 31) dX8_call_27 rfl ?_
  exact AW.weak (wX8_call_31 l v0 v1 v2 v3 v4 ((1 : Int32)) h _ k_v0 hf) ⟨rfl, ⟨rfl, ⟨rfl, ⟨rfl, ⟨rfl, trivial⟩⟩⟩⟩⟩
set_option maxRecDepth 100000 in
set_option maxHeartbeats 4000000 in
theorem sX8_call (l : Launch) {Γ : Gm} {h h' : AH} {v0 : Nat} {v1 : Int32} {v2 : Int32} {v3 : Int32} {v4 : Int32} {r : Int32} {n_v0 : Nat} (k_v0 : Γ[v0]? = some (8, n_v0)) (hf : fX8_call Γ v0 v1 v2 v3 v4 h = some (r, h')) : AR l yX8_call mX8_call [.ref v0, .int v1, .int v2, .int v3, .int v4] Γ h (some (.int r), Γ, h') := by
  refine AR.of [some (.ref v0), some (.int v1), some (.int v2), some (.int v3), some (.int v4), none] (by decide +kernel) rfl (fun z => by cases z) (Nat.le_of_ble_eq_true rfl) ⟨rfl, ⟨rfl, ⟨rfl, ⟨rfl, ⟨rfl, trivial⟩⟩⟩⟩⟩ ?_
  unfold fX8_call at hf
  refine a_aload_n dX8_call_0 rfl rfl ?_
  obtain ⟨r1, h1, hc1, hf⟩ := am_bind_some hf
  refine a_callV (As := []) (r1 := (some (.int r1), Γ, h1)) (sX8_noStory l k_v0 hc1) ccX8_noStory tw_384 tw_386 tp_1 (ci := 8) rfl (by decide) ⟨Nat.le_of_ble_eq_true rfl, Nat.le_of_ble_eq_true rfl, Nat.le_of_ble_eq_true rfl, Nat.le_of_ble_eq_true rfl⟩ dX8_call_1 rfl k_v0 rfl (Nat.le_of_ble_eq_true rfl) rfl rfl (fun hr1 => ?_)
  refine a_if_eq (t := 10) dX8_call_4 rfl rfl hf (fun _ hf => ?_) (fun _ hf => ?_)
  · refine a_iload_n dX8_call_10 rfl rfl ?_
    refine a_bipush (v := (-2 : Int32)) dX8_call_11 rfl (by decide) ?_
    refine a_icmp_eq (t := 26) dX8_call_13 rfl rfl hf (fun _ hf => ?_) (fun _ hf => ?_)
    · exact AW.weak (wX8_call_26 l v0 v1 v2 v3 v4 h1 _ k_v0 hf) ⟨rfl, ⟨rfl, ⟨rfl, ⟨rfl, ⟨rfl, trivial⟩⟩⟩⟩⟩
    refine a_iload_n dX8_call_16 rfl rfl ?_
    refine a_sipush (v := (255 : Int32)) dX8_call_17 rfl (by decide) ?_
    obtain ⟨r20, h20, hc20, hf⟩ := am_bind_some hf
    refine a_callS (As := [.int v2, .int ((255 : Int32))]) (r1 := (some (.int r20), Γ, h20)) (sX8_within l hc20) ccX8_within tw_297 tw_298 ⟨Nat.le_of_ble_eq_true rfl, Nat.le_of_ble_eq_true rfl, Nat.le_of_ble_eq_true rfl, Nat.le_of_ble_eq_true rfl⟩ dX8_call_20 rfl rfl (Nat.le_of_ble_eq_true rfl) rfl rfl (fun hr20 => ?_)
    refine a_if_eq (t := 30) dX8_call_23 rfl rfl hf (fun _ hf => ?_) (fun _ hf => ?_)
    · refine a_iconst (v := (0 : Int32)) dX8_call_30 rfl (by decide) ?_
      exact AW.weak (wX8_call_31 l v0 v1 v2 v3 v4 ((0 : Int32)) h20 _ k_v0 hf) ⟨rfl, ⟨rfl, ⟨rfl, ⟨rfl, ⟨rfl, trivial⟩⟩⟩⟩⟩
    exact AW.weak (wX8_call_26 l v0 v1 v2 v3 v4 h20 _ k_v0 hf) ⟨rfl, ⟨rfl, ⟨rfl, ⟨rfl, ⟨rfl, trivial⟩⟩⟩⟩⟩
  refine a_bipush (v := (-4 : Int32)) dX8_call_7 rfl (by decide) ?_
  cases hf
  exact a_iret dX8_call_9 rfl rfl rfl (by decide)
set_option maxRecDepth 100000 in
set_option maxHeartbeats 4000000 in
theorem sX8_leave (l : Launch) {Γ : Gm} {h h' : AH} {v0 : Nat} {r : Int32} {n_v0 : Nat} (k_v0 : Γ[v0]? = some (8, n_v0)) (hf : fX8_leave Γ v0 h = some (r, h')) : AR l yX8_leave mX8_leave [.ref v0] Γ h (some (.int r), Γ, h') := by
  refine AR.of [some (.ref v0), none] (by decide +kernel) rfl (fun z => by cases z) (Nat.le_of_ble_eq_true rfl) ⟨rfl, trivial⟩ ?_
  unfold fX8_leave at hf
  refine a_aload_n dX8_leave_0 rfl rfl ?_
  obtain ⟨r1, h1, hc1, hf⟩ := am_bind_some hf
  refine a_callV (As := []) (r1 := (some (.int r1), Γ, h1)) (sX8_noStory l k_v0 hc1) ccX8_noStory tw_384 tw_386 tp_1 (ci := 8) rfl (by decide) ⟨Nat.le_of_ble_eq_true rfl, Nat.le_of_ble_eq_true rfl, Nat.le_of_ble_eq_true rfl, Nat.le_of_ble_eq_true rfl⟩ dX8_leave_1 rfl k_v0 rfl (Nat.le_of_ble_eq_true rfl) rfl rfl (fun hr1 => ?_)
  refine a_if_eq (t := 10) dX8_leave_4 rfl rfl hf (fun _ hf => ?_) (fun _ hf => ?_)
  · refine a_aload_n dX8_leave_10 rfl rfl ?_
    refine a_getR fl_RX8_62 dX8_leave_11 rfl k_v0 rfl (by decide) hf (fun b11 n_b11 _ k_b11 hf => ?_)
    obtain ⟨r14, h14, hc14, hf⟩ := am_bind_some hf
    refine a_callV (As := []) (r1 := (some (am_o r14), Γ, h14)) (sX4_newest l k_b11 hc14) ccX4_newest tw_411 tw_412 tw_413 (ci := 4) rfl (by decide) ⟨Nat.le_of_ble_eq_true rfl, Nat.le_of_ble_eq_true rfl, Nat.le_of_ble_eq_true rfl, Nat.le_of_ble_eq_true rfl⟩ dX8_leave_14 rfl k_b11 rfl (Nat.le_of_ble_eq_true rfl) rfl rfl (fun hr14 => ?_)
    cases r14 with
    | none =>
      refine AW.null ?_
      refine a_astore_nN (L' := [some (.ref v0), some (.null)]) dX8_leave_17 rfl (Nat.le_of_ble_eq_true rfl) (fun _ _ hv => by cases hv; rfl) rfl ?_
      refine a_aload_nN dX8_leave_18 rfl rfl ?_
      refine a_ifnullN (t := 33) dX8_leave_19 rfl ?_
      refine a_bipush (v := (-2 : Int32)) dX8_leave_33 rfl (by decide) ?_
      cases hf
      exact a_iret dX8_leave_35 rfl rfl rfl (by decide)
    | some b14 =>
      obtain ⟨n_b14, k_b14⟩ := hr14.1 b14 rfl (by decide)
      refine AW.refo ?_
      refine a_astore_n (L' := [some (.ref v0), some (.ref b14)]) dX8_leave_17 rfl (Nat.le_of_ble_eq_true rfl) (fun _ _ hv => by cases hv; rfl) rfl ?_
      refine a_aload_n dX8_leave_18 rfl rfl ?_
      refine a_ifnullR dX8_leave_19 rfl ?_
      refine a_aload_n dX8_leave_22 rfl rfl ?_
      refine a_getR fl_RX8_62 dX8_leave_23 rfl k_v0 rfl (by decide) hf (fun b23 n_b23 _ k_b23 hf => ?_)
      refine a_getI fl_RX8_147 dX8_leave_26 rfl k_b23 rfl ?_
      refine a_iconst (v := (1 : Int32)) dX8_leave_29 rfl (by decide) ?_
      refine a_icmp_gt (t := 36) dX8_leave_30 rfl rfl hf (fun _ hf => ?_) (fun _ hf => ?_)
      · refine a_aload_n dX8_leave_36 rfl rfl ?_
        refine a_getR fl_RX8_62 dX8_leave_37 rfl k_v0 rfl (by decide) hf (fun b37 n_b37 _ k_b37 hf => ?_)
        refine a_aload_n dX8_leave_40 rfl rfl ?_
        refine a_getI fl_RX8_158 dX8_leave_41 rfl k_b14 rfl ?_
        refine a_putI fp_RX8_144 dX8_leave_44 rfl k_b37 rfl hf (fun h44 hf => ?_)
        refine a_aload_n dX8_leave_47 rfl rfl ?_
        refine a_getR fl_RX8_62 dX8_leave_48 rfl k_v0 rfl (by decide) hf (fun b48 n_b48 _ k_b48 hf => ?_)
        refine a_dup dX8_leave_51 rfl rfl ?_
        refine a_getI fl_RX8_147 dX8_leave_52 rfl k_b48 rfl ?_
        refine a_iconst (v := (1 : Int32)) dX8_leave_55 rfl (by decide) ?_
        refine a_isub dX8_leave_56 rfl ?_
        refine a_putI fp_RX8_147 dX8_leave_57 rfl k_b48 rfl hf (fun h57 hf => ?_)
        refine a_aload_n dX8_leave_60 rfl rfl ?_
        refine a_getR fl_RX8_62 dX8_leave_61 rfl k_v0 rfl (by decide) hf (fun b61 n_b61 _ k_b61 hf => ?_)
        refine a_getI fl_RX8_144 dX8_leave_64 rfl k_b61 rfl ?_
        cases hf
        exact a_iret dX8_leave_67 rfl rfl rfl (by decide)
      refine a_bipush (v := (-2 : Int32)) dX8_leave_33 rfl (by decide) ?_
      cases hf
      exact a_iret dX8_leave_35 rfl rfl rfl (by decide)
  refine a_bipush (v := (-4 : Int32)) dX8_leave_7 rfl (by decide) ?_
  cases hf
  exact a_iret dX8_leave_9 rfl rfl rfl (by decide)
set_option maxRecDepth 100000 in
set_option maxHeartbeats 4000000 in
theorem sX8_local (l : Launch) {Γ : Gm} {h h' : AH} {v0 : Nat} {v1 : Int32} {v2 : Int32} {r : Int32} {n_v0 : Nat} (k_v0 : Γ[v0]? = some (8, n_v0)) (hf : fX8_local Γ v0 v1 v2 h = some (r, h')) : AR l yX8_local mX8_local [.ref v0, .int v1, .int v2] Γ h (some (.int r), Γ, h') := by
  refine AR.of [some (.ref v0), some (.int v1), some (.int v2), none, none] (by decide +kernel) rfl (fun z => by cases z) (Nat.le_of_ble_eq_true rfl) ⟨rfl, ⟨rfl, ⟨rfl, trivial⟩⟩⟩ ?_
  unfold fX8_local at hf
  refine a_aload_n dX8_local_0 rfl rfl ?_
  obtain ⟨r1, h1, hc1, hf⟩ := am_bind_some hf
  refine a_callV (As := []) (r1 := (some (.int r1), Γ, h1)) (sX8_noStory l k_v0 hc1) ccX8_noStory tw_384 tw_386 tp_1 (ci := 8) rfl (by decide) ⟨Nat.le_of_ble_eq_true rfl, Nat.le_of_ble_eq_true rfl, Nat.le_of_ble_eq_true rfl, Nat.le_of_ble_eq_true rfl⟩ dX8_local_1 rfl k_v0 rfl (Nat.le_of_ble_eq_true rfl) rfl rfl (fun hr1 => ?_)
  refine a_if_eq (t := 10) dX8_local_4 rfl rfl hf (fun _ hf => ?_) (fun _ hf => ?_)
  · refine a_aload_n dX8_local_10 rfl rfl ?_
    refine a_getR fl_RX8_62 dX8_local_11 rfl k_v0 rfl (by decide) hf (fun b11 n_b11 _ k_b11 hf => ?_)
    obtain ⟨r14, h14, hc14, hf⟩ := am_bind_some hf
    refine a_callV (As := []) (r1 := (some (am_o r14), Γ, h14)) (sX4_newest l k_b11 hc14) ccX4_newest tw_411 tw_412 tw_413 (ci := 4) rfl (by decide) ⟨Nat.le_of_ble_eq_true rfl, Nat.le_of_ble_eq_true rfl, Nat.le_of_ble_eq_true rfl, Nat.le_of_ble_eq_true rfl⟩ dX8_local_14 rfl k_b11 rfl (Nat.le_of_ble_eq_true rfl) rfl rfl (fun hr14 => ?_)
    cases r14 with
    | none =>
      refine AW.null ?_
      refine a_astore_nN (L' := [some (.ref v0), some (.int v1), some (.int v2), some (.null), none]) dX8_local_17 rfl (Nat.le_of_ble_eq_true rfl) (fun _ _ hv => by cases hv; rfl) rfl ?_
      refine a_aload_nN dX8_local_18 rfl rfl ?_
      refine a_ifnullN (t := 44) dX8_local_19 rfl ?_
      refine a_iconst (v := (-1 : Int32)) dX8_local_44 rfl (by decide) ?_
      cases hf
      exact a_iret dX8_local_45 rfl rfl rfl (by decide)
    | some b14 =>
      obtain ⟨n_b14, k_b14⟩ := hr14.1 b14 rfl (by decide)
      refine AW.refo ?_
      refine a_astore_n (L' := [some (.ref v0), some (.int v1), some (.int v2), some (.ref b14), none]) dX8_local_17 rfl (Nat.le_of_ble_eq_true rfl) (fun _ _ hv => by cases hv; rfl) rfl ?_
      refine a_aload_n dX8_local_18 rfl rfl ?_
      refine a_ifnullR dX8_local_19 rfl ?_
      refine a_iload_n dX8_local_22 rfl rfl ?_
      refine a_aload_n dX8_local_23 rfl rfl ?_
      refine a_getI fl_RX8_163 dX8_local_24 rfl k_b14 rfl ?_
      refine a_iconst (v := (1 : Int32)) dX8_local_27 rfl (by decide) ?_
      refine a_isub dX8_local_28 rfl ?_
      obtain ⟨r29, h29, hc29, hf⟩ := am_bind_some hf
      refine a_callS (As := [.int v1, .int ((h14.1 b14 4) - ((1 : Int32)))]) (r1 := (some (.int r29), Γ, h29)) (sX8_within l hc29) ccX8_within tw_297 tw_298 ⟨Nat.le_of_ble_eq_true rfl, Nat.le_of_ble_eq_true rfl, Nat.le_of_ble_eq_true rfl, Nat.le_of_ble_eq_true rfl⟩ dX8_local_29 rfl rfl (Nat.le_of_ble_eq_true rfl) rfl rfl (fun hr29 => ?_)
      refine a_if_eq (t := 44) dX8_local_32 rfl rfl hf (fun _ hf => ?_) (fun _ hf => ?_)
      · refine a_iconst (v := (-1 : Int32)) dX8_local_44 rfl (by decide) ?_
        cases hf
        exact a_iret dX8_local_45 rfl rfl rfl (by decide)
      refine a_iload_n dX8_local_35 rfl rfl ?_
      refine a_ldc (v := (65535 : Int32)) dX8_local_36 rfl tw_423 ?_
      obtain ⟨r38, h38, hc38, hf⟩ := am_bind_some hf
      refine a_callS (As := [.int v2, .int ((65535 : Int32))]) (r1 := (some (.int r38), Γ, h38)) (sX8_within l hc38) ccX8_within tw_297 tw_298 ⟨Nat.le_of_ble_eq_true rfl, Nat.le_of_ble_eq_true rfl, Nat.le_of_ble_eq_true rfl, Nat.le_of_ble_eq_true rfl⟩ dX8_local_38 rfl rfl (Nat.le_of_ble_eq_true rfl) rfl rfl (fun hr38 => ?_)
      refine a_if_ne (t := 46) dX8_local_41 rfl rfl hf (fun _ hf => ?_) (fun _ hf => ?_)
      · refine a_iconst (v := (-1 : Int32)) dX8_local_44 rfl (by decide) ?_
        cases hf
        exact a_iret dX8_local_45 rfl rfl rfl (by decide)
      refine a_aload_n dX8_local_46 rfl rfl ?_
      refine a_iload_n dX8_local_47 rfl rfl ?_
      obtain ⟨r48, h48, hc48, hf⟩ := am_bind_some hf
      refine a_callV (As := [.int v1]) (r1 := (some (.int r48), Γ, h48)) (sX1_wordAt l k_b14 hc48) ccX1_wordAt tw_424 tw_425 tw_426 (ci := 1) rfl (by decide) ⟨Nat.le_of_ble_eq_true rfl, Nat.le_of_ble_eq_true rfl, Nat.le_of_ble_eq_true rfl, Nat.le_of_ble_eq_true rfl⟩ dX8_local_48 rfl k_b14 rfl (Nat.le_of_ble_eq_true rfl) rfl rfl (fun hr48 => ?_)
      refine a_istore (L' := [some (.ref v0), some (.int v1), some (.int v2), some (.ref b14), some (.int r48)]) dX8_local_51 rfl (Nat.le_of_ble_eq_true rfl) (fun _ _ hv => by cases hv; rfl) rfl ?_
      refine a_aload_n dX8_local_53 rfl rfl ?_
      refine a_iload_n dX8_local_54 rfl rfl ?_
      refine a_iload_n dX8_local_55 rfl rfl ?_
      obtain ⟨r56, h56, hc56, hf⟩ := am_bind_some hf
      refine a_callV (As := [.int v1, .int v2]) (r1 := (none, Γ, h56)) (sX1_setWord l k_b14 hc56) ccX1_setWord tw_428 tw_429 tw_430 (ci := 1) rfl (by decide) ⟨Nat.le_of_ble_eq_true rfl, Nat.le_of_ble_eq_true rfl, Nat.le_of_ble_eq_true rfl, Nat.le_of_ble_eq_true rfl⟩ dX8_local_56 rfl k_b14 rfl (Nat.le_of_ble_eq_true rfl) rfl rfl (fun hr56 => ?_)
      refine a_iload dX8_local_59 rfl rfl ?_
      cases hf
      exact a_iret dX8_local_61 rfl rfl rfl (by decide)
  refine a_bipush (v := (-4 : Int32)) dX8_local_7 rfl (by decide) ?_
  cases hf
  exact a_iret dX8_local_9 rfl rfl rfl (by decide)
set_option maxRecDepth 100000 in
set_option maxHeartbeats 4000000 in
theorem sX8_push (l : Launch) {Γ : Gm} {h h' : AH} {v0 : Nat} {v1 : Int32} {r : Int32} {n_v0 : Nat} (k_v0 : Γ[v0]? = some (8, n_v0)) (hf : fX8_push Γ v0 v1 h = some (r, h')) : AR l yX8_push mX8_push [.ref v0, .int v1] Γ h (some (.int r), Γ, h') := by
  refine AR.of [some (.ref v0), some (.int v1), none] (by decide +kernel) rfl (fun z => by cases z) (Nat.le_of_ble_eq_true rfl) ⟨rfl, ⟨rfl, trivial⟩⟩ ?_
  unfold fX8_push at hf
  refine a_aload_n dX8_push_0 rfl rfl ?_
  obtain ⟨r1, h1, hc1, hf⟩ := am_bind_some hf
  refine a_callV (As := []) (r1 := (some (.int r1), Γ, h1)) (sX8_noStory l k_v0 hc1) ccX8_noStory tw_384 tw_386 tp_1 (ci := 8) rfl (by decide) ⟨Nat.le_of_ble_eq_true rfl, Nat.le_of_ble_eq_true rfl, Nat.le_of_ble_eq_true rfl, Nat.le_of_ble_eq_true rfl⟩ dX8_push_1 rfl k_v0 rfl (Nat.le_of_ble_eq_true rfl) rfl rfl (fun hr1 => ?_)
  refine a_if_eq (t := 10) dX8_push_4 rfl rfl hf (fun _ hf => ?_) (fun _ hf => ?_)
  · refine a_iload_n dX8_push_10 rfl rfl ?_
    refine a_ldc (v := (65535 : Int32)) dX8_push_11 rfl tw_423 ?_
    obtain ⟨r13, h13, hc13, hf⟩ := am_bind_some hf
    refine a_callS (As := [.int v1, .int ((65535 : Int32))]) (r1 := (some (.int r13), Γ, h13)) (sX8_within l hc13) ccX8_within tw_297 tw_298 ⟨Nat.le_of_ble_eq_true rfl, Nat.le_of_ble_eq_true rfl, Nat.le_of_ble_eq_true rfl, Nat.le_of_ble_eq_true rfl⟩ dX8_push_13 rfl rfl (Nat.le_of_ble_eq_true rfl) rfl rfl (fun hr13 => ?_)
    refine a_if_ne (t := 21) dX8_push_16 rfl rfl hf (fun _ hf => ?_) (fun _ hf => ?_)
    · refine a_iconst (v := (-1 : Int32)) dX8_push_19 rfl (by decide) ?_
      cases hf
      exact a_iret dX8_push_20 rfl rfl rfl (by decide)
    refine a_aload_n dX8_push_21 rfl rfl ?_
    refine a_getR fl_RX8_62 dX8_push_22 rfl k_v0 rfl (by decide) hf (fun b22 n_b22 _ k_b22 hf => ?_)
    obtain ⟨r25, h25, hc25, hf⟩ := am_bind_some hf
    refine a_callV (As := []) (r1 := (some (am_o r25), Γ, h25)) (sX4_newest l k_b22 hc25) ccX4_newest tw_411 tw_412 tw_413 (ci := 4) rfl (by decide) ⟨Nat.le_of_ble_eq_true rfl, Nat.le_of_ble_eq_true rfl, Nat.le_of_ble_eq_true rfl, Nat.le_of_ble_eq_true rfl⟩ dX8_push_25 rfl k_b22 rfl (Nat.le_of_ble_eq_true rfl) rfl rfl (fun hr25 => ?_)
    cases r25 with
    | none =>
      refine AW.null ?_
      refine a_astore_nN (L' := [some (.ref v0), some (.int v1), some (.null)]) dX8_push_28 rfl (Nat.le_of_ble_eq_true rfl) (fun _ _ hv => by cases hv; rfl) rfl ?_
      refine a_aload_nN dX8_push_29 rfl rfl ?_
      refine a_ifnullN (t := 42) dX8_push_30 rfl ?_
      refine a_bipush (v := (-3 : Int32)) dX8_push_42 rfl (by decide) ?_
      cases hf
      exact a_iret dX8_push_44 rfl rfl rfl (by decide)
    | some b25 =>
      obtain ⟨n_b25, k_b25⟩ := hr25.1 b25 rfl (by decide)
      refine AW.refo ?_
      refine a_astore_n (L' := [some (.ref v0), some (.int v1), some (.ref b25)]) dX8_push_28 rfl (Nat.le_of_ble_eq_true rfl) (fun _ _ hv => by cases hv; rfl) rfl ?_
      refine a_aload_n dX8_push_29 rfl rfl ?_
      refine a_ifnullR dX8_push_30 rfl ?_
      refine a_aload_n dX8_push_33 rfl rfl ?_
      refine a_getI fl_RX8_173 dX8_push_34 rfl k_b25 rfl ?_
      refine a_bipush (v := (40 : Int32)) dX8_push_37 rfl (by decide) ?_
      refine a_icmp_lt (t := 45) dX8_push_39 rfl rfl hf (fun _ hf => ?_) (fun _ hf => ?_)
      · refine a_aload_n dX8_push_45 rfl rfl ?_
        refine a_iload_n dX8_push_46 rfl rfl ?_
        obtain ⟨r47, h47, hc47, hf⟩ := am_bind_some hf
        refine a_callV (As := [.int v1]) (r1 := (none, Γ, h47)) (sX1_stackWord l k_b25 hc47) ccX1_stackWord tw_436 tw_437 tw_438 (ci := 1) rfl (by decide) ⟨Nat.le_of_ble_eq_true rfl, Nat.le_of_ble_eq_true rfl, Nat.le_of_ble_eq_true rfl, Nat.le_of_ble_eq_true rfl⟩ dX8_push_47 rfl k_b25 rfl (Nat.le_of_ble_eq_true rfl) rfl rfl (fun hr47 => ?_)
        refine a_aload_n dX8_push_50 rfl rfl ?_
        refine a_getI fl_RX8_173 dX8_push_51 rfl k_b25 rfl ?_
        cases hf
        exact a_iret dX8_push_54 rfl rfl rfl (by decide)
      refine a_bipush (v := (-3 : Int32)) dX8_push_42 rfl (by decide) ?_
      cases hf
      exact a_iret dX8_push_44 rfl rfl rfl (by decide)
  refine a_bipush (v := (-4 : Int32)) dX8_push_7 rfl (by decide) ?_
  cases hf
  exact a_iret dX8_push_9 rfl rfl rfl (by decide)
set_option maxRecDepth 100000 in
set_option maxHeartbeats 4000000 in
theorem sX8_pop (l : Launch) {Γ : Gm} {h h' : AH} {v0 : Nat} {r : Int32} {n_v0 : Nat} (k_v0 : Γ[v0]? = some (8, n_v0)) (hf : fX8_pop Γ v0 h = some (r, h')) : AR l yX8_pop mX8_pop [.ref v0] Γ h (some (.int r), Γ, h') := by
  refine AR.of [some (.ref v0), none, none] (by decide +kernel) rfl (fun z => by cases z) (Nat.le_of_ble_eq_true rfl) ⟨rfl, trivial⟩ ?_
  unfold fX8_pop at hf
  refine a_aload_n dX8_pop_0 rfl rfl ?_
  obtain ⟨r1, h1, hc1, hf⟩ := am_bind_some hf
  refine a_callV (As := []) (r1 := (some (.int r1), Γ, h1)) (sX8_noStory l k_v0 hc1) ccX8_noStory tw_384 tw_386 tp_1 (ci := 8) rfl (by decide) ⟨Nat.le_of_ble_eq_true rfl, Nat.le_of_ble_eq_true rfl, Nat.le_of_ble_eq_true rfl, Nat.le_of_ble_eq_true rfl⟩ dX8_pop_1 rfl k_v0 rfl (Nat.le_of_ble_eq_true rfl) rfl rfl (fun hr1 => ?_)
  refine a_if_eq (t := 10) dX8_pop_4 rfl rfl hf (fun _ hf => ?_) (fun _ hf => ?_)
  · refine a_aload_n dX8_pop_10 rfl rfl ?_
    refine a_getR fl_RX8_62 dX8_pop_11 rfl k_v0 rfl (by decide) hf (fun b11 n_b11 _ k_b11 hf => ?_)
    obtain ⟨r14, h14, hc14, hf⟩ := am_bind_some hf
    refine a_callV (As := []) (r1 := (some (am_o r14), Γ, h14)) (sX4_newest l k_b11 hc14) ccX4_newest tw_411 tw_412 tw_413 (ci := 4) rfl (by decide) ⟨Nat.le_of_ble_eq_true rfl, Nat.le_of_ble_eq_true rfl, Nat.le_of_ble_eq_true rfl, Nat.le_of_ble_eq_true rfl⟩ dX8_pop_14 rfl k_b11 rfl (Nat.le_of_ble_eq_true rfl) rfl rfl (fun hr14 => ?_)
    cases r14 with
    | none =>
      refine AW.null ?_
      refine a_astore_nN (L' := [some (.ref v0), some (.null), none]) dX8_pop_17 rfl (Nat.le_of_ble_eq_true rfl) (fun _ _ hv => by cases hv; rfl) rfl ?_
      refine a_aload_nN dX8_pop_18 rfl rfl ?_
      refine a_ifnullN (t := 29) dX8_pop_19 rfl ?_
      refine a_bipush (v := (-2 : Int32)) dX8_pop_29 rfl (by decide) ?_
      cases hf
      exact a_iret dX8_pop_31 rfl rfl rfl (by decide)
    | some b14 =>
      obtain ⟨n_b14, k_b14⟩ := hr14.1 b14 rfl (by decide)
      refine AW.refo ?_
      refine a_astore_n (L' := [some (.ref v0), some (.ref b14), none]) dX8_pop_17 rfl (Nat.le_of_ble_eq_true rfl) (fun _ _ hv => by cases hv; rfl) rfl ?_
      refine a_aload_n dX8_pop_18 rfl rfl ?_
      refine a_ifnullR dX8_pop_19 rfl ?_
      refine a_aload_n dX8_pop_22 rfl rfl ?_
      refine a_getI fl_RX8_173 dX8_pop_23 rfl k_b14 rfl ?_
      refine a_if_gt (t := 32) dX8_pop_26 rfl rfl hf (fun _ hf => ?_) (fun _ hf => ?_)
      · refine a_aload_n dX8_pop_32 rfl rfl ?_
        refine a_aload_n dX8_pop_33 rfl rfl ?_
        obtain ⟨r34, h34, hc34, hf⟩ := am_bind_some hf
        refine a_callV (As := []) (r1 := (some (.int r34), Γ, h34)) (sX1_words l k_b14 hc34) ccX1_words tw_445 tw_446 tw_447 (ci := 1) rfl (by decide) ⟨Nat.le_of_ble_eq_true rfl, Nat.le_of_ble_eq_true rfl, Nat.le_of_ble_eq_true rfl, Nat.le_of_ble_eq_true rfl⟩ dX8_pop_34 rfl k_b14 rfl (Nat.le_of_ble_eq_true rfl) rfl rfl (fun hr34 => ?_)
        refine a_iconst (v := (1 : Int32)) dX8_pop_37 rfl (by decide) ?_
        refine a_isub dX8_pop_38 rfl ?_
        obtain ⟨r39, h39, hc39, hf⟩ := am_bind_some hf
        refine a_callV (As := [.int (r34 - ((1 : Int32)))]) (r1 := (some (.int r39), Γ, h39)) (sX1_wordAt l k_b14 hc39) ccX1_wordAt tw_424 tw_425 tw_426 (ci := 1) rfl (by decide) ⟨Nat.le_of_ble_eq_true rfl, Nat.le_of_ble_eq_true rfl, Nat.le_of_ble_eq_true rfl, Nat.le_of_ble_eq_true rfl⟩ dX8_pop_39 rfl k_b14 rfl (Nat.le_of_ble_eq_true rfl) rfl rfl (fun hr39 => ?_)
        refine a_istore_n (L' := [some (.ref v0), some (.ref b14), some (.int r39)]) dX8_pop_42 rfl (Nat.le_of_ble_eq_true rfl) (fun _ _ hv => by cases hv; rfl) rfl ?_
        refine a_aload_n dX8_pop_43 rfl rfl ?_
        refine a_dup dX8_pop_44 rfl rfl ?_
        refine a_getI fl_RX8_173 dX8_pop_45 rfl k_b14 rfl ?_
        refine a_iconst (v := (1 : Int32)) dX8_pop_48 rfl (by decide) ?_
        refine a_isub dX8_pop_49 rfl ?_
        refine a_putI fp_RX8_173 dX8_pop_50 rfl k_b14 rfl hf (fun h50 hf => ?_)
        refine a_iload_n dX8_pop_53 rfl rfl ?_
        cases hf
        exact a_iret dX8_pop_54 rfl rfl rfl (by decide)
      refine a_bipush (v := (-2 : Int32)) dX8_pop_29 rfl (by decide) ?_
      cases hf
      exact a_iret dX8_pop_31 rfl rfl rfl (by decide)
  refine a_bipush (v := (-4 : Int32)) dX8_pop_7 rfl (by decide) ?_
  cases hf
  exact a_iret dX8_pop_9 rfl rfl rfl (by decide)
set_option maxRecDepth 100000 in
set_option maxHeartbeats 4000000 in
theorem sX8_frame (l : Launch) {Γ : Gm} {h h' : AH} {v0 : Nat} {v1 : Int32} {v2 : Int32} {r : Int32} {n_v0 : Nat} (k_v0 : Γ[v0]? = some (8, n_v0)) (hf : fX8_frame Γ v0 v1 v2 h = some (r, h')) : AR l yX8_frame mX8_frame [.ref v0, .int v1, .int v2] Γ h (some (.int r), Γ, h') := by
  refine AR.of [some (.ref v0), some (.int v1), some (.int v2), none] (by decide +kernel) rfl (fun z => by cases z) (Nat.le_of_ble_eq_true rfl) ⟨rfl, ⟨rfl, ⟨rfl, trivial⟩⟩⟩ ?_
  unfold fX8_frame at hf
  refine a_aload_n dX8_frame_0 rfl rfl ?_
  obtain ⟨r1, h1, hc1, hf⟩ := am_bind_some hf
  refine a_callV (As := []) (r1 := (some (.int r1), Γ, h1)) (sX8_noStory l k_v0 hc1) ccX8_noStory tw_384 tw_386 tp_1 (ci := 8) rfl (by decide) ⟨Nat.le_of_ble_eq_true rfl, Nat.le_of_ble_eq_true rfl, Nat.le_of_ble_eq_true rfl, Nat.le_of_ble_eq_true rfl⟩ dX8_frame_1 rfl k_v0 rfl (Nat.le_of_ble_eq_true rfl) rfl rfl (fun hr1 => ?_)
  refine a_if_eq (t := 10) dX8_frame_4 rfl rfl hf (fun _ hf => ?_) (fun _ hf => ?_)
  · refine a_aload_n dX8_frame_10 rfl rfl ?_
    refine a_getR fl_RX8_62 dX8_frame_11 rfl k_v0 rfl (by decide) hf (fun b11 n_b11 _ k_b11 hf => ?_)
    refine a_iload_n dX8_frame_14 rfl rfl ?_
    obtain ⟨r15, h15, hc15, hf⟩ := am_bind_some hf
    refine a_callV (As := [.int v1]) (r1 := (some (am_o r15), Γ, h15)) (sX4_frameAt l k_b11 hc15) ccX4_frameAt tw_453 tw_416 tw_417 (ci := 4) rfl (by decide) ⟨Nat.le_of_ble_eq_true rfl, Nat.le_of_ble_eq_true rfl, Nat.le_of_ble_eq_true rfl, Nat.le_of_ble_eq_true rfl⟩ dX8_frame_15 rfl k_b11 rfl (Nat.le_of_ble_eq_true rfl) rfl rfl (fun hr15 => ?_)
    cases r15 with
    | none =>
      refine AW.null ?_
      refine a_astore_nN (L' := [some (.ref v0), some (.int v1), some (.int v2), some (.null)]) dX8_frame_18 rfl (Nat.le_of_ble_eq_true rfl) (fun _ _ hv => by cases hv; rfl) rfl ?_
      refine a_aload_nN dX8_frame_19 rfl rfl ?_
      refine a_ifnonnullN dX8_frame_20 rfl ?_
      refine a_bipush (v := (-2 : Int32)) dX8_frame_23 rfl (by decide) ?_
      cases hf
      exact a_iret dX8_frame_25 rfl rfl rfl (by decide)
    | some b15 =>
      obtain ⟨n_b15, k_b15⟩ := hr15.1 b15 rfl (by decide)
      refine AW.refo ?_
      refine a_astore_n (L' := [some (.ref v0), some (.int v1), some (.int v2), some (.ref b15)]) dX8_frame_18 rfl (Nat.le_of_ble_eq_true rfl) (fun _ _ hv => by cases hv; rfl) rfl ?_
      refine a_aload_n dX8_frame_19 rfl rfl ?_
      refine a_ifnonnullR (t := 26) dX8_frame_20 rfl ?_
      refine a_iload_n dX8_frame_26 rfl rfl ?_
      refine a_bipush (v := (10 : Int32)) dX8_frame_27 rfl (by decide) ?_
      refine a_icmp_lt (t := 57) dX8_frame_29 rfl rfl hf (fun _ hf => ?_) (fun _ hf => ?_)
      · refine a_iload_n dX8_frame_57 rfl rfl ?_
        refine am_if hf (fun hx hf => ?_) (fun hx0 hf => ?_)
        · refine a_tswIn (c := (0 : Int32)) (off := 34) (t := 92) dX8_frame_58 hx (by decide) (by decide) (by decide) rfl ?_
          refine a_aload_n dX8_frame_92 rfl rfl ?_
          refine a_getI fl_RX8_158 dX8_frame_93 rfl k_b15 rfl ?_
          cases hf
          exact a_iret dX8_frame_96 rfl rfl rfl (by decide)
        refine am_if hf (fun hx hf => ?_) (fun hx1 hf => ?_)
        · refine a_tswIn (c := (1 : Int32)) (off := 39) (t := 97) dX8_frame_58 hx (by decide) (by decide) (by decide) rfl ?_
          refine a_aload_n dX8_frame_97 rfl rfl ?_
          refine a_getI fl_RX8_186 dX8_frame_98 rfl k_b15 rfl ?_
          cases hf
          exact a_iret dX8_frame_101 rfl rfl rfl (by decide)
        refine am_if hf (fun hx hf => ?_) (fun hx2 hf => ?_)
        · refine a_tswIn (c := (2 : Int32)) (off := 44) (t := 102) dX8_frame_58 hx (by decide) (by decide) (by decide) rfl ?_
          refine a_aload_n dX8_frame_102 rfl rfl ?_
          refine a_getI fl_RX8_189 dX8_frame_103 rfl k_b15 rfl ?_
          cases hf
          exact a_iret dX8_frame_106 rfl rfl rfl (by decide)
        refine am_if hf (fun hx hf => ?_) (fun hx3 hf => ?_)
        · refine a_tswIn (c := (3 : Int32)) (off := 49) (t := 107) dX8_frame_58 hx (by decide) (by decide) (by decide) rfl ?_
          refine a_aload_n dX8_frame_107 rfl rfl ?_
          refine a_getI fl_RX8_163 dX8_frame_108 rfl k_b15 rfl ?_
          cases hf
          exact a_iret dX8_frame_111 rfl rfl rfl (by decide)
        refine am_if hf (fun hx hf => ?_) (fun hx4 hf => ?_)
        · refine a_tswIn (c := (4 : Int32)) (off := 54) (t := 112) dX8_frame_58 hx (by decide) (by decide) (by decide) rfl ?_
          refine a_aload_n dX8_frame_112 rfl rfl ?_
          refine a_getI fl_RX8_173 dX8_frame_113 rfl k_b15 rfl ?_
          cases hf
          exact a_iret dX8_frame_116 rfl rfl rfl (by decide)
        refine a_tswOut (t := 117) dX8_frame_58 (by have e0 := lv_neT (a := 0) hx0 (by decide); have e1 := lv_neT (a := 1) hx1 (by decide); have e2 := lv_neT (a := 2) hx2 (by decide); have e3 := lv_neT (a := 3) hx3 (by decide); have e4 := lv_neT (a := 4) hx4 (by decide); omega) rfl ?_
        refine a_iconst (v := (-1 : Int32)) dX8_frame_117 rfl (by decide) ?_
        cases hf
        exact a_iret dX8_frame_118 rfl rfl rfl (by decide)
      refine a_iload_n dX8_frame_32 rfl rfl ?_
      refine a_bipush (v := (10 : Int32)) dX8_frame_33 rfl (by decide) ?_
      refine a_isub dX8_frame_35 rfl ?_
      refine a_aload_n dX8_frame_36 rfl rfl ?_
      obtain ⟨r37, h37, hc37, hf⟩ := am_bind_some hf
      refine a_callV (As := []) (r1 := (some (.int r37), Γ, h37)) (sX1_words l k_b15 hc37) ccX1_words tw_445 tw_446 tw_447 (ci := 1) rfl (by decide) ⟨Nat.le_of_ble_eq_true rfl, Nat.le_of_ble_eq_true rfl, Nat.le_of_ble_eq_true rfl, Nat.le_of_ble_eq_true rfl⟩ dX8_frame_37 rfl k_b15 rfl (Nat.le_of_ble_eq_true rfl) rfl rfl (fun hr37 => ?_)
      refine a_icmp_ge (t := 54) dX8_frame_40 rfl rfl hf (fun _ hf => ?_) (fun _ hf => ?_)
      · refine a_bipush (v := (-2 : Int32)) dX8_frame_54 rfl (by decide) ?_
        cases hf
        exact a_iret dX8_frame_56 rfl rfl rfl (by decide)
      refine a_aload_n dX8_frame_43 rfl rfl ?_
      refine a_iload_n dX8_frame_44 rfl rfl ?_
      refine a_bipush (v := (10 : Int32)) dX8_frame_45 rfl (by decide) ?_
      refine a_isub dX8_frame_47 rfl ?_
      obtain ⟨r48, h48, hc48, hf⟩ := am_bind_some hf
      refine a_callV (As := [.int (v2 - ((10 : Int32)))]) (r1 := (some (.int r48), Γ, h48)) (sX1_wordAt l k_b15 hc48) ccX1_wordAt tw_424 tw_425 tw_426 (ci := 1) rfl (by decide) ⟨Nat.le_of_ble_eq_true rfl, Nat.le_of_ble_eq_true rfl, Nat.le_of_ble_eq_true rfl, Nat.le_of_ble_eq_true rfl⟩ dX8_frame_48 rfl k_b15 rfl (Nat.le_of_ble_eq_true rfl) rfl rfl (fun hr48 => ?_)
      refine a_goto (t := 56) dX8_frame_51 rfl ?_
      cases hf
      exact a_iret dX8_frame_56 rfl rfl rfl (by decide)
  refine a_bipush (v := (-4 : Int32)) dX8_frame_7 rfl (by decide) ?_
  cases hf
  exact a_iret dX8_frame_9 rfl rfl rfl (by decide)
set_option maxRecDepth 100000 in
set_option maxHeartbeats 4000000 in
theorem sX8_printed (l : Launch) {Γ : Gm} {h h' : AH} {v0 : Int64} {v2 : Int32} {r : Int64} (hf : fX8_printed Γ v0 v2 h = some (r, h')) : AR l yX8_printed mX8_printed [.long v0, .int v2] Γ h (some (.long r), Γ, h') := by
  refine AR.of [some (.long v0), none, some (.int v2)] (by decide +kernel) rfl (fun z => by cases z) (Nat.le_of_ble_eq_true rfl) ⟨rfl, ⟨rfl, trivial⟩⟩ ?_
  unfold fX8_printed at hf
  refine a_lload_n dX8_printed_0 rfl rfl ?_
  refine a_iload_n dX8_printed_1 rfl rfl ?_
  refine a_i2l dX8_printed_2 rfl ?_
  refine a_lxor dX8_printed_3 rfl ?_
  refine a_ldc2 (v := (1099511628211 : Int64)) dX8_printed_4 rfl tw_462 ?_
  refine a_lmul dX8_printed_7 rfl ?_
  cases hf
  exact a_lret dX8_printed_8 rfl rfl rfl
