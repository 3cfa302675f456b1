set_option maxRecDepth 100000 in
set_option maxHeartbeats 4000000 in
theorem sX9_local (l : Launch) {Γ : Gm} {h h' : AH} {v0 : Nat} {v1 : Int32} {v2 : Int32} {r : Int32} {n_v0 : Nat} (k_v0 : Γ[v0]? = some (9, n_v0)) (hf : fX9_local Γ v0 v1 v2 h = some (r, h')) : AR l yX9_local mX9_local [.ref v0, .int v1, .int v2] Γ h (some (.int r), Γ, h') := by
  refine AR.of [some (.ref v0), some (.int v1), some (.int v2), none, none] (by decide +kernel) rfl (fun z => by cases z) (Nat.le_of_ble_eq_true rfl) ⟨rfl, ⟨rfl, ⟨rfl, trivial⟩⟩⟩ ?_
  unfold fX9_local at hf
  refine a_aload_n dX9_local_0 rfl rfl ?_
  refine a_getI fl_RX9_82 dX9_local_1 rfl k_v0 rfl ?_
  refine a_if_ne (t := 10) dX9_local_4 rfl rfl hf (fun _ hf => ?_) (fun _ hf => ?_)
  · refine a_bipush (v := (-4 : Int32)) dX9_local_7 rfl (by decide) ?_
    cases hf
    exact a_iret dX9_local_9 rfl rfl rfl (by decide)
  refine a_aload_n dX9_local_10 rfl rfl ?_
  obtain ⟨r11, h11, hc11, hf⟩ := am_bind_some hf
  refine a_callV (As := []) (r1 := (some (.int r11), Γ, h11)) (sX9_newest l k_v0 hc11) ccX9_newest tw_855 tw_857 tp_15 (ci := 9) rfl (by decide) ⟨Nat.le_of_ble_eq_true rfl, Nat.le_of_ble_eq_true rfl, Nat.le_of_ble_eq_true rfl, Nat.le_of_ble_eq_true rfl⟩ dX9_local_11 rfl k_v0 rfl (Nat.le_of_ble_eq_true rfl) rfl rfl (fun hr11 => ?_)
  refine a_istore_n (L' := [some (.ref v0), some (.int v1), some (.int v2), some (.int r11), none]) dX9_local_14 rfl (Nat.le_of_ble_eq_true rfl) (fun _ _ hv => by cases hv; rfl) rfl ?_
  refine a_iload_n dX9_local_15 rfl rfl ?_
  refine a_iconst (v := nI 0) dX9_local_16 rfl (by decide) ?_
  refine a_aload_n dX9_local_17 rfl rfl ?_
  refine a_getR fl_RX9_32 dX9_local_18 rfl k_v0 rfl (by decide) hf (fun b18 n_b18 _ k_b18 hf => ?_)
  refine a_iload_n dX9_local_21 rfl rfl ?_
  refine a_iconst (v := nI 3) dX9_local_22 rfl (by decide) ?_
  refine a_iadd dX9_local_23 rfl ?_
  refine a_iald dX9_local_24 rfl k_b18 hf (fun hf => ?_)
  refine a_iconst (v := nI 1) dX9_local_25 rfl (by decide) ?_
  refine a_isub dX9_local_26 rfl ?_
  obtain ⟨r27, h27, hc27, hf⟩ := am_bind_some hf
  refine a_callS (As := [.int v1, .int (nI 0), .int ((h11.1 b18 (r11 + (nI 3)).toNatClampNeg) - (nI 1))]) (r1 := (some (.int r27), Γ, h27)) (sX9_outside l hc27) ccX9_outside tw_819 tw_820 ⟨Nat.le_of_ble_eq_true rfl, Nat.le_of_ble_eq_true rfl, Nat.le_of_ble_eq_true rfl, Nat.le_of_ble_eq_true rfl⟩ dX9_local_27 rfl rfl (Nat.le_of_ble_eq_true rfl) rfl rfl (fun hr27 => ?_)
  refine a_if_ne (t := 43) dX9_local_30 rfl rfl hf (fun _ hf => ?_) (fun _ hf => ?_)
  · refine a_iload_n dX9_local_33 rfl rfl ?_
    refine a_iconst (v := nI 0) dX9_local_34 rfl (by decide) ?_
    refine a_ldc (v := nI 65535) dX9_local_35 rfl tw_867 ?_
    obtain ⟨r37, h37, hc37, hf⟩ := am_bind_some hf
    refine a_callS (As := [.int v2, .int (nI 0), .int (nI 65535)]) (r1 := (some (.int r37), Γ, h37)) (sX9_outside l hc37) ccX9_outside tw_819 tw_820 ⟨Nat.le_of_ble_eq_true rfl, Nat.le_of_ble_eq_true rfl, Nat.le_of_ble_eq_true rfl, Nat.le_of_ble_eq_true rfl⟩ dX9_local_37 rfl rfl (Nat.le_of_ble_eq_true rfl) rfl rfl (fun hr37 => ?_)
    refine a_if_eq (t := 45) dX9_local_40 rfl rfl hf (fun _ hf => ?_) (fun _ hf => ?_)
    · refine a_aload_n dX9_local_45 rfl rfl ?_
      refine a_getR fl_RX9_32 dX9_local_46 rfl k_v0 rfl (by decide) hf (fun b46 n_b46 _ k_b46 hf => ?_)
      refine a_iload_n dX9_local_49 rfl rfl ?_
      refine a_iconst (v := nI 5) dX9_local_50 rfl (by decide) ?_
      refine a_iadd dX9_local_51 rfl ?_
      refine a_iload_n dX9_local_52 rfl rfl ?_
      refine a_iadd dX9_local_53 rfl ?_
      refine a_iald dX9_local_54 rfl k_b46 hf (fun hf => ?_)
      refine a_nmI hf (fun x55 hf => ?_)
      refine a_istore (L' := [some (.ref v0), some (.int v1), some (.int v2), some (.int r11), some (.int x55)]) dX9_local_55 rfl (Nat.le_of_ble_eq_true rfl) (fun _ _ hv => by cases hv; rfl) rfl ?_
      refine a_aload_n dX9_local_57 rfl rfl ?_
      refine a_getR fl_RX9_32 dX9_local_58 rfl k_v0 rfl (by decide) hf (fun b58 n_b58 _ k_b58 hf => ?_)
      refine a_iload_n dX9_local_61 rfl rfl ?_
      refine a_iconst (v := nI 5) dX9_local_62 rfl (by decide) ?_
      refine a_iadd dX9_local_63 rfl ?_
      refine a_iload_n dX9_local_64 rfl rfl ?_
      refine a_iadd dX9_local_65 rfl ?_
      refine a_iload_n dX9_local_66 rfl rfl ?_
      refine a_iast dX9_local_67 rfl k_b58 hf (fun h67 hf => ?_)
      refine a_iload dX9_local_68 rfl rfl ?_
      cases hf
      exact a_iret dX9_local_70 rfl rfl rfl (by decide)
    refine a_iconst (v := (-1 : Int32)) dX9_local_43 rfl (by decide) ?_
    cases hf
    exact a_iret dX9_local_44 rfl rfl rfl (by decide)
  refine a_iconst (v := (-1 : Int32)) dX9_local_43 rfl (by decide) ?_
  cases hf
  exact a_iret dX9_local_44 rfl rfl rfl (by decide)
set_option maxRecDepth 100000 in
set_option maxHeartbeats 4000000 in
theorem sX9_push (l : Launch) {Γ : Gm} {h h' : AH} {v0 : Nat} {v1 : Int32} {r : Int32} {n_v0 : Nat} (k_v0 : Γ[v0]? = some (9, n_v0)) (hf : fX9_push Γ v0 v1 h = some (r, h')) : AR l yX9_push mX9_push [.ref v0, .int v1] Γ h (some (.int r), Γ, h') := by
  refine AR.of [some (.ref v0), some (.int v1), none] (by decide +kernel) rfl (fun z => by cases z) (Nat.le_of_ble_eq_true rfl) ⟨rfl, ⟨rfl, trivial⟩⟩ ?_
  unfold fX9_push at hf
  refine a_aload_n dX9_push_0 rfl rfl ?_
  refine a_getI fl_RX9_82 dX9_push_1 rfl k_v0 rfl ?_
  refine a_if_ne (t := 10) dX9_push_4 rfl rfl hf (fun _ hf => ?_) (fun _ hf => ?_)
  · refine a_bipush (v := (-4 : Int32)) dX9_push_7 rfl (by decide) ?_
    cases hf
    exact a_iret dX9_push_9 rfl rfl rfl (by decide)
  refine a_iload_n dX9_push_10 rfl rfl ?_
  refine a_iconst (v := nI 0) dX9_push_11 rfl (by decide) ?_
  refine a_ldc (v := nI 65535) dX9_push_12 rfl tw_867 ?_
  obtain ⟨r14, h14, hc14, hf⟩ := am_bind_some hf
  refine a_callS (As := [.int v1, .int (nI 0), .int (nI 65535)]) (r1 := (some (.int r14), Γ, h14)) (sX9_outside l hc14) ccX9_outside tw_819 tw_820 ⟨Nat.le_of_ble_eq_true rfl, Nat.le_of_ble_eq_true rfl, Nat.le_of_ble_eq_true rfl, Nat.le_of_ble_eq_true rfl⟩ dX9_push_14 rfl rfl (Nat.le_of_ble_eq_true rfl) rfl rfl (fun hr14 => ?_)
  refine a_if_eq (t := 22) dX9_push_17 rfl rfl hf (fun _ hf => ?_) (fun _ hf => ?_)
  · refine a_aload_n dX9_push_22 rfl rfl ?_
    obtain ⟨r23, h23, hc23, hf⟩ := am_bind_some hf
    refine a_callV (As := []) (r1 := (some (.int r23), Γ, h23)) (sX9_newest l k_v0 hc23) ccX9_newest tw_855 tw_857 tp_15 (ci := 9) rfl (by decide) ⟨Nat.le_of_ble_eq_true rfl, Nat.le_of_ble_eq_true rfl, Nat.le_of_ble_eq_true rfl, Nat.le_of_ble_eq_true rfl⟩ dX9_push_23 rfl k_v0 rfl (Nat.le_of_ble_eq_true rfl) rfl rfl (fun hr23 => ?_)
    refine a_istore_n (L' := [some (.ref v0), some (.int v1), some (.int r23)]) dX9_push_26 rfl (Nat.le_of_ble_eq_true rfl) (fun _ _ hv => by cases hv; rfl) rfl ?_
    refine a_aload_n dX9_push_27 rfl rfl ?_
    refine a_getR fl_RX9_32 dX9_push_28 rfl k_v0 rfl (by decide) hf (fun b28 n_b28 _ k_b28 hf => ?_)
    refine a_iload_n dX9_push_31 rfl rfl ?_
    refine a_iconst (v := nI 4) dX9_push_32 rfl (by decide) ?_
    refine a_iadd dX9_push_33 rfl ?_
    refine a_iald dX9_push_34 rfl k_b28 hf (fun hf => ?_)
    refine a_bipush (v := nI 40) dX9_push_35 rfl (by decide) ?_
    refine a_icmp_ne (t := 43) dX9_push_37 rfl rfl hf (fun _ hf => ?_) (fun _ hf => ?_)
    · refine a_bipush (v := (-3 : Int32)) dX9_push_40 rfl (by decide) ?_
      cases hf
      exact a_iret dX9_push_42 rfl rfl rfl (by decide)
    refine a_aload_n dX9_push_43 rfl rfl ?_
    refine a_getR fl_RX9_32 dX9_push_44 rfl k_v0 rfl (by decide) hf (fun b44 n_b44 _ k_b44 hf => ?_)
    refine a_iload_n dX9_push_47 rfl rfl ?_
    refine a_iconst (v := nI 5) dX9_push_48 rfl (by decide) ?_
    refine a_iadd dX9_push_49 rfl ?_
    refine a_aload_n dX9_push_50 rfl rfl ?_
    refine a_getR fl_RX9_32 dX9_push_51 rfl k_v0 rfl (by decide) hf (fun b51 n_b51 _ k_b51 hf => ?_)
    refine a_iload_n dX9_push_54 rfl rfl ?_
    refine a_iconst (v := nI 3) dX9_push_55 rfl (by decide) ?_
    refine a_iadd dX9_push_56 rfl ?_
    refine a_iald dX9_push_57 rfl k_b51 hf (fun hf => ?_)
    refine a_iadd dX9_push_58 rfl ?_
    refine a_aload_n dX9_push_59 rfl rfl ?_
    refine a_getR fl_RX9_32 dX9_push_60 rfl k_v0 rfl (by decide) hf (fun b60 n_b60 _ k_b60 hf => ?_)
    refine a_iload_n dX9_push_63 rfl rfl ?_
    refine a_iconst (v := nI 4) dX9_push_64 rfl (by decide) ?_
    refine a_iadd dX9_push_65 rfl ?_
    refine a_iald dX9_push_66 rfl k_b60 hf (fun hf => ?_)
    refine a_iadd dX9_push_67 rfl ?_
    refine a_iload_n dX9_push_68 rfl rfl ?_
    refine a_iast dX9_push_69 rfl k_b44 hf (fun h69 hf => ?_)
    refine a_aload_n dX9_push_70 rfl rfl ?_
    refine a_getR fl_RX9_32 dX9_push_71 rfl k_v0 rfl (by decide) hf (fun b71 n_b71 _ k_b71 hf => ?_)
    refine a_iload_n dX9_push_74 rfl rfl ?_
    refine a_iconst (v := nI 4) dX9_push_75 rfl (by decide) ?_
    refine a_iadd dX9_push_76 rfl ?_
    refine a_dup2 dX9_push_77 rfl rfl rfl ?_
    refine a_iald dX9_push_78 rfl k_b71 hf (fun hf => ?_)
    refine a_iconst (v := nI 1) dX9_push_79 rfl (by decide) ?_
    refine a_iadd dX9_push_80 rfl ?_
    refine a_iast dX9_push_81 rfl k_b71 hf (fun h81 hf => ?_)
    refine a_aload_n dX9_push_82 rfl rfl ?_
    refine a_getR fl_RX9_32 dX9_push_83 rfl k_v0 rfl (by decide) hf (fun b83 n_b83 _ k_b83 hf => ?_)
    refine a_iload_n dX9_push_86 rfl rfl ?_
    refine a_iconst (v := nI 4) dX9_push_87 rfl (by decide) ?_
    refine a_iadd dX9_push_88 rfl ?_
    refine a_iald dX9_push_89 rfl k_b83 hf (fun hf => ?_)
    cases hf
    exact a_iret dX9_push_90 rfl rfl rfl (by decide)
  refine a_iconst (v := (-1 : Int32)) dX9_push_20 rfl (by decide) ?_
  cases hf
  exact a_iret dX9_push_21 rfl rfl rfl (by decide)
set_option maxRecDepth 100000 in
set_option maxHeartbeats 4000000 in
theorem sX9_pop (l : Launch) {Γ : Gm} {h h' : AH} {v0 : Nat} {r : Int32} {n_v0 : Nat} (k_v0 : Γ[v0]? = some (9, n_v0)) (hf : fX9_pop Γ v0 h = some (r, h')) : AR l yX9_pop mX9_pop [.ref v0] Γ h (some (.int r), Γ, h') := by
  refine AR.of [some (.ref v0), none] (by decide +kernel) rfl (fun z => by cases z) (Nat.le_of_ble_eq_true rfl) ⟨rfl, trivial⟩ ?_
  unfold fX9_pop at hf
  refine a_aload_n dX9_pop_0 rfl rfl ?_
  refine a_getI fl_RX9_82 dX9_pop_1 rfl k_v0 rfl ?_
  refine a_if_ne (t := 10) dX9_pop_4 rfl rfl hf (fun _ hf => ?_) (fun _ hf => ?_)
  · refine a_bipush (v := (-4 : Int32)) dX9_pop_7 rfl (by decide) ?_
    cases hf
    exact a_iret dX9_pop_9 rfl rfl rfl (by decide)
  refine a_aload_n dX9_pop_10 rfl rfl ?_
  obtain ⟨r11, h11, hc11, hf⟩ := am_bind_some hf
  refine a_callV (As := []) (r1 := (some (.int r11), Γ, h11)) (sX9_newest l k_v0 hc11) ccX9_newest tw_855 tw_857 tp_15 (ci := 9) rfl (by decide) ⟨Nat.le_of_ble_eq_true rfl, Nat.le_of_ble_eq_true rfl, Nat.le_of_ble_eq_true rfl, Nat.le_of_ble_eq_true rfl⟩ dX9_pop_11 rfl k_v0 rfl (Nat.le_of_ble_eq_true rfl) rfl rfl (fun hr11 => ?_)
  refine a_istore_n (L' := [some (.ref v0), some (.int r11)]) dX9_pop_14 rfl (Nat.le_of_ble_eq_true rfl) (fun _ _ hv => by cases hv; rfl) rfl ?_
  refine a_aload_n dX9_pop_15 rfl rfl ?_
  refine a_getR fl_RX9_32 dX9_pop_16 rfl k_v0 rfl (by decide) hf (fun b16 n_b16 _ k_b16 hf => ?_)
  refine a_iload_n dX9_pop_19 rfl rfl ?_
  refine a_iconst (v := nI 4) dX9_pop_20 rfl (by decide) ?_
  refine a_iadd dX9_pop_21 rfl ?_
  refine a_iald dX9_pop_22 rfl k_b16 hf (fun hf => ?_)
  refine a_if_ne (t := 29) dX9_pop_23 rfl rfl hf (fun _ hf => ?_) (fun _ hf => ?_)
  · refine a_bipush (v := (-2 : Int32)) dX9_pop_26 rfl (by decide) ?_
    cases hf
    exact a_iret dX9_pop_28 rfl rfl rfl (by decide)
  refine a_aload_n dX9_pop_29 rfl rfl ?_
  refine a_getR fl_RX9_32 dX9_pop_30 rfl k_v0 rfl (by decide) hf (fun b30 n_b30 _ k_b30 hf => ?_)
  refine a_iload_n dX9_pop_33 rfl rfl ?_
  refine a_iconst (v := nI 4) dX9_pop_34 rfl (by decide) ?_
  refine a_iadd dX9_pop_35 rfl ?_
  refine a_dup2 dX9_pop_36 rfl rfl rfl ?_
  refine a_iald dX9_pop_37 rfl k_b30 hf (fun hf => ?_)
  refine a_iconst (v := nI 1) dX9_pop_38 rfl (by decide) ?_
  refine a_isub dX9_pop_39 rfl ?_
  refine a_iast dX9_pop_40 rfl k_b30 hf (fun h40 hf => ?_)
  refine a_aload_n dX9_pop_41 rfl rfl ?_
  refine a_getR fl_RX9_32 dX9_pop_42 rfl k_v0 rfl (by decide) hf (fun b42 n_b42 _ k_b42 hf => ?_)
  refine a_iload_n dX9_pop_45 rfl rfl ?_
  refine a_iconst (v := nI 5) dX9_pop_46 rfl (by decide) ?_
  refine a_iadd dX9_pop_47 rfl ?_
  refine a_aload_n dX9_pop_48 rfl rfl ?_
  refine a_getR fl_RX9_32 dX9_pop_49 rfl k_v0 rfl (by decide) hf (fun b49 n_b49 _ k_b49 hf => ?_)
  refine a_iload_n dX9_pop_52 rfl rfl ?_
  refine a_iconst (v := nI 3) dX9_pop_53 rfl (by decide) ?_
  refine a_iadd dX9_pop_54 rfl ?_
  refine a_iald dX9_pop_55 rfl k_b49 hf (fun hf => ?_)
  refine a_iadd dX9_pop_56 rfl ?_
  refine a_aload_n dX9_pop_57 rfl rfl ?_
  refine a_getR fl_RX9_32 dX9_pop_58 rfl k_v0 rfl (by decide) hf (fun b58 n_b58 _ k_b58 hf => ?_)
  refine a_iload_n dX9_pop_61 rfl rfl ?_
  refine a_iconst (v := nI 4) dX9_pop_62 rfl (by decide) ?_
  refine a_iadd dX9_pop_63 rfl ?_
  refine a_iald dX9_pop_64 rfl k_b58 hf (fun hf => ?_)
  refine a_iadd dX9_pop_65 rfl ?_
  refine a_iald dX9_pop_66 rfl k_b42 hf (fun hf => ?_)
  cases hf
  exact a_iret dX9_pop_67 rfl rfl rfl (by decide)
set_option maxRecDepth 100000 in
set_option maxHeartbeats 4000000 in
theorem wX9_frame_58 (l : Launch) {Γ : Gm} {r : Int32} {h' : AH} (v0 : Nat) (v2 : Int32) (v3 : Int32) (h : AH) : ∀ n_v0 : Nat, Γ[v0]? = some (9, n_v0) → fX9_frame_58 Γ v0 v2 v3 h = some (r, h') → AW l mX9_frame (some (.int r), Γ, h') 0 0 58 [some (.ref v0), none, some (.int v2), some (.int v3)] [] Γ h := by
  intro n_v0 k_v0 hf
  unfold fX9_frame_58 at hf
  refine a_iload_n dX9_frame_58 rfl rfl ?_
  refine a_bipush (v := nI 10) dX9_frame_59 rfl (by decide) ?_
  refine a_icmp_ge (t := 66) dX9_frame_61 rfl rfl hf (fun _ hf => ?_) (fun _ hf => ?_)
  · refine a_iload_n dX9_frame_66 rfl rfl ?_
    refine a_bipush (v := nI 10) dX9_frame_67 rfl (by decide) ?_
    refine a_isub dX9_frame_69 rfl ?_
    refine a_aload_n dX9_frame_70 rfl rfl ?_
    refine a_getR fl_RX9_32 dX9_frame_71 rfl k_v0 rfl (by decide) hf (fun b71 n_b71 _ k_b71 hf => ?_)
    refine a_iload_n dX9_frame_74 rfl rfl ?_
    refine a_iconst (v := nI 3) dX9_frame_75 rfl (by decide) ?_
    refine a_iadd dX9_frame_76 rfl ?_
    refine a_iald dX9_frame_77 rfl k_b71 hf (fun hf => ?_)
    refine a_aload_n dX9_frame_78 rfl rfl ?_
    refine a_getR fl_RX9_32 dX9_frame_79 rfl k_v0 rfl (by decide) hf (fun b79 n_b79 _ k_b79 hf => ?_)
    refine a_iload_n dX9_frame_82 rfl rfl ?_
    refine a_iconst (v := nI 4) dX9_frame_83 rfl (by decide) ?_
    refine a_iadd dX9_frame_84 rfl ?_
    refine a_iald dX9_frame_85 rfl k_b79 hf (fun hf => ?_)
    refine a_iadd dX9_frame_86 rfl ?_
    refine a_icmp_ge (t := 106) dX9_frame_87 rfl rfl hf (fun _ hf => ?_) (fun _ hf => ?_)
    · refine a_bipush (v := (-2 : Int32)) dX9_frame_106 rfl (by decide) ?_
      cases hf
      exact a_iret dX9_frame_108 rfl rfl rfl (by decide)
    refine a_aload_n dX9_frame_90 rfl rfl ?_
    refine a_getR fl_RX9_32 dX9_frame_91 rfl k_v0 rfl (by decide) hf (fun b91 n_b91 _ k_b91 hf => ?_)
    refine a_iload_n dX9_frame_94 rfl rfl ?_
    refine a_iconst (v := nI 5) dX9_frame_95 rfl (by decide) ?_
    refine a_iadd dX9_frame_96 rfl ?_
    refine a_iload_n dX9_frame_97 rfl rfl ?_
    refine a_iadd dX9_frame_98 rfl ?_
    refine a_bipush (v := nI 10) dX9_frame_99 rfl (by decide) ?_
    refine a_isub dX9_frame_101 rfl ?_
    refine a_iald dX9_frame_102 rfl k_b91 hf (fun hf => ?_)
    refine a_goto (t := 108) dX9_frame_103 rfl ?_
    cases hf
    exact a_iret dX9_frame_108 rfl rfl rfl (by decide)
  refine a_iconst (v := (-1 : Int32)) dX9_frame_64 rfl (by decide) ?_
  cases hf
  exact a_iret dX9_frame_65 rfl rfl rfl (by decide)
set_option maxRecDepth 100000 in
set_option maxHeartbeats 4000000 in
theorem sX9_frame (l : Launch) {Γ : Gm} {h h' : AH} {v0 : Nat} {v1 : Int32} {v2 : Int32} {r : Int32} {n_v0 : Nat} (k_v0 : Γ[v0]? = some (9, n_v0)) (hf : fX9_frame Γ v0 v1 v2 h = some (r, h')) : AR l yX9_frame mX9_frame [.ref v0, .int v1, .int v2] Γ h (some (.int r), Γ, h') := by
  refine AR.of [some (.ref v0), some (.int v1), some (.int v2), none] (by decide +kernel) rfl (fun z => by cases z) (Nat.le_of_ble_eq_true rfl) ⟨rfl, ⟨rfl, ⟨rfl, trivial⟩⟩⟩ ?_
  unfold fX9_frame at hf
  refine a_aload_n dX9_frame_0 rfl rfl ?_
  refine a_getI fl_RX9_82 dX9_frame_1 rfl k_v0 rfl ?_
  refine a_if_ne (t := 10) dX9_frame_4 rfl rfl hf (fun _ hf => ?_) (fun _ hf => ?_)
  · refine a_bipush (v := (-4 : Int32)) dX9_frame_7 rfl (by decide) ?_
    cases hf
    exact a_iret dX9_frame_9 rfl rfl rfl (by decide)
  refine a_iload_n dX9_frame_10 rfl rfl ?_
  refine a_iconst (v := nI 0) dX9_frame_11 rfl (by decide) ?_
  refine a_aload_n dX9_frame_12 rfl rfl ?_
  refine a_getR fl_RX9_32 dX9_frame_13 rfl k_v0 rfl (by decide) hf (fun b13 n_b13 _ k_b13 hf => ?_)
  refine a_sipush (v := nI 1001) dX9_frame_16 rfl (by decide) ?_
  refine a_iald dX9_frame_19 rfl k_b13 hf (fun hf => ?_)
  refine a_iconst (v := nI 1) dX9_frame_20 rfl (by decide) ?_
  refine a_isub dX9_frame_21 rfl ?_
  obtain ⟨r22, h22, hc22, hf⟩ := am_bind_some hf
  refine a_callS (As := [.int v1, .int (nI 0), .int ((h.1 b13 (nI 1001).toNatClampNeg) - (nI 1))]) (r1 := (some (.int r22), Γ, h22)) (sX9_outside l hc22) ccX9_outside tw_819 tw_820 ⟨Nat.le_of_ble_eq_true rfl, Nat.le_of_ble_eq_true rfl, Nat.le_of_ble_eq_true rfl, Nat.le_of_ble_eq_true rfl⟩ dX9_frame_22 rfl rfl (Nat.le_of_ble_eq_true rfl) rfl rfl (fun hr22 => ?_)
  refine a_if_eq (t := 31) dX9_frame_25 rfl rfl hf (fun _ hf => ?_) (fun _ hf => ?_)
  · refine a_sipush (v := nI 1002) dX9_frame_31 rfl (by decide) ?_
    refine a_iload_n dX9_frame_34 rfl rfl ?_
    refine a_bipush (v := nI 60) dX9_frame_35 rfl (by decide) ?_
    refine a_imul dX9_frame_37 rfl ?_
    refine a_iadd dX9_frame_38 rfl ?_
    refine a_nmI hf (fun x39 hf => ?_)
    refine a_istore_n (L' := [some (.ref v0), some (.int v1), some (.int v2), some (.int x39)]) dX9_frame_39 rfl (Nat.le_of_ble_eq_true rfl) (fun _ _ hv => by cases hv; rfl) rfl ?_
    refine a_iload_n dX9_frame_40 rfl rfl ?_
    refine a_if_lt (t := 58) dX9_frame_41 rfl rfl hf (fun _ hf => ?_) (fun _ hf => ?_)
    · exact AW.weak (wX9_frame_58 l v0 v2 x39 h22 _ k_v0 hf) ⟨rfl, ⟨rfl, ⟨rfl, trivial⟩⟩⟩
    refine a_iload_n dX9_frame_44 rfl rfl ?_
    refine a_iconst (v := nI 4) dX9_frame_45 rfl (by decide) ?_
    refine a_icmp_gt (t := 58) dX9_frame_46 rfl rfl hf (fun _ hf => ?_) (fun _ hf => ?_)
    · exact AW.weak (wX9_frame_58 l v0 v2 x39 h22 _ k_v0 hf) ⟨rfl, ⟨rfl, ⟨rfl, trivial⟩⟩⟩
    refine a_aload_n dX9_frame_49 rfl rfl ?_
    refine a_getR fl_RX9_32 dX9_frame_50 rfl k_v0 rfl (by decide) hf (fun b50 n_b50 _ k_b50 hf => ?_)
    refine a_iload_n dX9_frame_53 rfl rfl ?_
    refine a_iload_n dX9_frame_54 rfl rfl ?_
    refine a_iadd dX9_frame_55 rfl ?_
    refine a_iald dX9_frame_56 rfl k_b50 hf (fun hf => ?_)
    cases hf
    exact a_iret dX9_frame_57 rfl rfl rfl (by decide)
  refine a_bipush (v := (-2 : Int32)) dX9_frame_28 rfl (by decide) ?_
  cases hf
  exact a_iret dX9_frame_30 rfl rfl rfl (by decide)
set_option maxRecDepth 100000 in
set_option maxHeartbeats 4000000 in
theorem wX9_number_4 (l : Launch) {Γ : Gm} {r : Unit} {h' : AH} : ∀ (z : Nat) (v0 : Nat) (v1 : Int32) (v3 : Int32) (h : AH), ∀ n_v0 : Nat, Γ[v0]? = some (9, n_v0) → fX9_number_4 Γ z v0 v1 v3 h = some (r, h') → AW l mX9_number (none, Γ, h') 0 0 4 [some (.ref v0), some (.int v1), none, some (.int v3)] [] Γ h := by
  intro z
  induction z with
  | zero => intro v0 v1 v3 h n_v0 k_v0 hf; cases hf
  | succ z ih =>
    intro v0 v1 v3 h n_v0 k_v0 hf
    unfold fX9_number_4 at hf
    refine a_iload_n dX9_number_4 rfl rfl ?_
    refine a_if_lt (t := 43) dX9_number_5 rfl rfl hf (fun _ hf => ?_) (fun _ hf => ?_)
    · cases hf
      exact a_ret dX9_number_43 rfl rfl rfl
    refine a_aload_n dX9_number_8 rfl rfl ?_
    refine a_getR fl_RX9_65 dX9_number_9 rfl k_v0 rfl (by decide) hf (fun b9 n_b9 _ k_b9 hf => ?_)
    refine a_aload_n dX9_number_12 rfl rfl ?_
    refine a_getI fl_RX9_100 dX9_number_13 rfl k_v0 rfl ?_
    refine a_iload_n dX9_number_16 rfl rfl ?_
    refine a_bipush (v := nI 8) dX9_number_17 rfl (by decide) ?_
    refine a_iload_n dX9_number_19 rfl rfl ?_
    refine a_imul dX9_number_20 rfl ?_
    refine a_ishr dX9_number_21 rfl ?_
    refine a_sipush (v := nI 255) dX9_number_22 rfl (by decide) ?_
    refine a_iand dX9_number_25 rfl ?_
    refine a_iast dX9_number_26 rfl k_b9 hf (fun h26 hf => ?_)
    refine a_aload_n dX9_number_27 rfl rfl ?_
    refine a_dup dX9_number_28 rfl rfl ?_
    refine a_getI fl_RX9_100 dX9_number_29 rfl k_v0 rfl ?_
    refine a_iconst (v := nI 1) dX9_number_32 rfl (by decide) ?_
    refine a_iadd dX9_number_33 rfl ?_
    refine a_putI fp_RX9_100 dX9_number_34 rfl k_v0 rfl hf (fun h34 hf => ?_)
    refine a_iinc (v := v3 + (-1 : Int32)) (L' := [some (.ref v0), some (.int v1), none, some (.int (v3 + (-1 : Int32)))]) dX9_number_37 rfl rfl rfl (Nat.le_of_ble_eq_true rfl) (fun _ _ hv => by cases hv) rfl ?_
    refine a_goto (t := 4) dX9_number_40 rfl ?_
    exact AW.weak (ih v0 v1 (v3 + (-1 : Int32)) h34 _ k_v0 hf) ⟨rfl, ⟨rfl, ⟨rfl, trivial⟩⟩⟩
set_option maxRecDepth 100000 in
set_option maxHeartbeats 4000000 in
theorem sX9_number (l : Launch) {Γ : Gm} {h h' : AH} {v0 : Nat} {v1 : Int32} {v2 : Int32} {r : Unit} {n_v0 : Nat} (k_v0 : Γ[v0]? = some (9, n_v0)) (hf : fX9_number Γ v0 v1 v2 h = some (r, h')) : AR l yX9_number mX9_number [.ref v0, .int v1, .int v2] Γ h (none, Γ, h') := by
  refine AR.of [some (.ref v0), some (.int v1), some (.int v2), none] (by decide +kernel) rfl (fun z => by cases z) (Nat.le_of_ble_eq_true rfl) ⟨rfl, ⟨rfl, ⟨rfl, trivial⟩⟩⟩ ?_
  unfold fX9_number at hf
  refine a_iload_n dX9_number_0 rfl rfl ?_
  refine a_iconst (v := nI 1) dX9_number_1 rfl (by decide) ?_
  refine a_isub dX9_number_2 rfl ?_
  refine a_nmI hf (fun x3 hf => ?_)
  refine a_istore_n (L' := [some (.ref v0), some (.int v1), some (.int v2), some (.int x3)]) dX9_number_3 rfl (Nat.le_of_ble_eq_true rfl) (fun _ _ hv => by cases hv; rfl) rfl ?_
  exact AW.weak (wX9_number_4 l am_fuel v0 v1 x3 h _ k_v0 hf) ⟨rfl, ⟨rfl, ⟨rfl, trivial⟩⟩⟩
set_option maxRecDepth 100000 in
set_option maxHeartbeats 4000000 in
theorem wX9_makeB_85 (l : Launch) {Γ : Gm} {r : Unit} {h' : AH} {k4 : Nat → Nat → Int32 → Int32 → AH → Option (Unit × AH)} (hk4 : ∀ v0 v1 v2 v3 (h : AH), ∀ n_v0 : Nat, Γ[v0]? = some (9, n_v0) → ∀ n_v1 : Nat, Γ[v1]? = some (10, n_v1) → k4 v0 v1 v2 v3 h = some (r, h') → AW l mX9_makeB (none, Γ, h') 0 0 4 [some (.ref v0), some (.ref v1), some (.int v2), some (.int v3), none, none] [] Γ h) (v0 : Nat) (v1 : Nat) (v2 : Int32) (v3 : Int32) (h : AH) : ∀ n_v0 : Nat, Γ[v0]? = some (9, n_v0) → ∀ n_v1 : Nat, Γ[v1]? = some (10, n_v1) → fX9_makeB_85 Γ k4 v0 v1 v2 v3 h = some (r, h') → AW l mX9_makeB (none, Γ, h') 0 0 85 [some (.ref v0), some (.ref v1), some (.int v2), some (.int v3), none, none] [] Γ h := by
  intro n_v0 k_v0 n_v1 k_v1 hf
  unfold fX9_makeB_85 at hf
  refine a_iinc (v := v3 + nI 1) (L' := [some (.ref v0), some (.ref v1), some (.int v2), some (.int (v3 + nI 1)), none, none]) dX9_makeB_85 rfl rfl rfl (Nat.le_of_ble_eq_true rfl) (fun _ _ hv => by cases hv; rfl) rfl ?_
  refine a_goto (t := 4) dX9_makeB_88 rfl ?_
  exact AW.weak (hk4 v0 v1 v2 (v3 + nI 1) h _ k_v0 _ k_v1 hf) ⟨rfl, ⟨rfl, ⟨rfl, ⟨rfl, trivial⟩⟩⟩⟩
set_option maxRecDepth 100000 in
set_option maxHeartbeats 4000000 in
theorem wX9_makeB_53 (l : Launch) {Γ : Gm} {r : Unit} {h' : AH} {k4 : Nat → Nat → Int32 → Int32 → AH → Option (Unit × AH)} {k35 : Nat → Nat → Int32 → Int32 → Int32 → AH → Option (Unit × AH)} (hk4 : ∀ v0 v1 v2 v3 (h : AH), ∀ n_v0 : Nat, Γ[v0]? = some (9, n_v0) → ∀ n_v1 : Nat, Γ[v1]? = some (10, n_v1) → k4 v0 v1 v2 v3 h = some (r, h') → AW l mX9_makeB (none, Γ, h') 0 0 4 [some (.ref v0), some (.ref v1), some (.int v2), some (.int v3), none, none] [] Γ h) (hk35 : ∀ v0 v1 v2 v3 v4 (h : AH), ∀ n_v0 : Nat, Γ[v0]? = some (9, n_v0) → ∀ n_v1 : Nat, Γ[v1]? = some (10, n_v1) → k35 v0 v1 v2 v3 v4 h = some (r, h') → AW l mX9_makeB (none, Γ, h') 0 0 35 [some (.ref v0), some (.ref v1), some (.int v2), some (.int v3), some (.int v4), none] [] Γ h) (v0 : Nat) (v1 : Nat) (v2 : Int32) (v3 : Int32) (v4 : Int32) (s0 : Int32) (h : AH) : ∀ n_v0 : Nat, Γ[v0]? = some (9, n_v0) → ∀ n_v1 : Nat, Γ[v1]? = some (10, n_v1) → fX9_makeB_53 Γ k4 k35 v0 v1 v2 v3 v4 s0 h = some (r, h') → AW l mX9_makeB (none, Γ, h') 0 0 53 [some (.ref v0), some (.ref v1), some (.int v2), some (.int v3), some (.int v4), none] [.int s0] Γ h := by
  intro n_v0 k_v0 n_v1 k_v1 hf
  unfold fX9_makeB_53 at hf
  refine a_istore (L' := [some (.ref v0), some (.ref v1), some (.int v2), some (.int v3), some (.int v4), some (.int s0)]) dX9_makeB_53 rfl (Nat.le_of_ble_eq_true rfl) (fun _ _ hv => by cases hv; rfl) rfl ?_
  refine a_aload_n dX9_makeB_55 rfl rfl ?_
  refine a_iconst (v := nI 0) dX9_makeB_56 rfl (by decide) ?_
  refine a_iconst (v := nI 1) dX9_makeB_57 rfl (by decide) ?_
  obtain ⟨r58, h58, hc58, hf⟩ := am_bind_some hf
  refine a_callV (As := [.int (nI 0), .int (nI 1)]) (r1 := (none, Γ, h58)) (sX9_number l k_v0 hc58) ccX9_number tw_884 tw_886 tp_16 (ci := 9) rfl (by decide) ⟨Nat.le_of_ble_eq_true rfl, Nat.le_of_ble_eq_true rfl, Nat.le_of_ble_eq_true rfl, Nat.le_of_ble_eq_true rfl⟩ dX9_makeB_58 rfl k_v0 rfl (Nat.le_of_ble_eq_true rfl) rfl rfl (fun hr58 => ?_)
  refine a_aload_n dX9_makeB_61 rfl rfl ?_
  refine a_iload dX9_makeB_62 rfl rfl ?_
  refine a_iconst (v := nI 1) dX9_makeB_64 rfl (by decide) ?_
  refine a_isub dX9_makeB_65 rfl ?_
  refine a_iconst (v := nI 1) dX9_makeB_66 rfl (by decide) ?_
  obtain ⟨r67, h67, hc67, hf⟩ := am_bind_some hf
  refine a_callV (As := [.int (s0 - (nI 1)), .int (nI 1)]) (r1 := (none, Γ, h67)) (sX9_number l k_v0 hc67) ccX9_number tw_884 tw_886 tp_16 (ci := 9) rfl (by decide) ⟨Nat.le_of_ble_eq_true rfl, Nat.le_of_ble_eq_true rfl, Nat.le_of_ble_eq_true rfl, Nat.le_of_ble_eq_true rfl⟩ dX9_makeB_67 rfl k_v0 rfl (Nat.le_of_ble_eq_true rfl) rfl rfl (fun hr67 => ?_)
  refine a_iload_n dX9_makeB_70 rfl rfl ?_
  refine a_iload dX9_makeB_71 rfl rfl ?_
  refine a_isub dX9_makeB_73 rfl ?_
  refine a_nmI hf (fun x74 hf => ?_)
  refine a_istore_n (L' := [some (.ref v0), some (.ref v1), some (.int x74), some (.int v3), some (.int v4), some (.int s0)]) dX9_makeB_74 rfl (Nat.le_of_ble_eq_true rfl) (fun _ _ hv => by cases hv; rfl) rfl ?_
  refine a_goto (t := 35) dX9_makeB_75 rfl ?_
  exact AW.weak (hk35 v0 v1 x74 v3 v4 h67 _ k_v0 _ k_v1 hf) ⟨rfl, ⟨rfl, ⟨rfl, ⟨rfl, ⟨rfl, trivial⟩⟩⟩⟩⟩
set_option maxRecDepth 100000 in
set_option maxHeartbeats 4000000 in
theorem wX9_makeB_35 (l : Launch) {Γ : Gm} {r : Unit} {h' : AH} {k4 : Nat → Nat → Int32 → Int32 → AH → Option (Unit × AH)} (hk4 : ∀ v0 v1 v2 v3 (h : AH), ∀ n_v0 : Nat, Γ[v0]? = some (9, n_v0) → ∀ n_v1 : Nat, Γ[v1]? = some (10, n_v1) → k4 v0 v1 v2 v3 h = some (r, h') → AW l mX9_makeB (none, Γ, h') 0 0 4 [some (.ref v0), some (.ref v1), some (.int v2), some (.int v3), none, none] [] Γ h) : ∀ (z : Nat) (v0 : Nat) (v1 : Nat) (v2 : Int32) (v3 : Int32) (v4 : Int32) (h : AH), ∀ n_v0 : Nat, Γ[v0]? = some (9, n_v0) → ∀ n_v1 : Nat, Γ[v1]? = some (10, n_v1) → fX9_makeB_35 Γ k4 z v0 v1 v2 v3 v4 h = some (r, h') → AW l mX9_makeB (none, Γ, h') 0 0 35 [some (.ref v0), some (.ref v1), some (.int v2), some (.int v3), some (.int v4), none] [] Γ h := by
  intro z
  induction z with
  | zero => intro v0 v1 v2 v3 v4 h n_v0 k_v0 n_v1 k_v1 hf; cases hf
  | succ z ih =>
    intro v0 v1 v2 v3 v4 h n_v0 k_v0 n_v1 k_v1 hf
    unfold fX9_makeB_35 at hf
    refine a_iload_n dX9_makeB_35 rfl rfl ?_
    refine a_if_le (t := 78) dX9_makeB_36 rfl rfl hf (fun _ hf => ?_) (fun _ hf => ?_)
    · refine a_aload_n dX9_makeB_78 rfl rfl ?_
      refine a_iload dX9_makeB_79 rfl rfl ?_
      refine a_iconst (v := nI 1) dX9_makeB_81 rfl (by decide) ?_
      obtain ⟨r82, h82, hc82, hf⟩ := am_bind_some hf
      refine a_callV (As := [.int v4, .int (nI 1)]) (r1 := (none, Γ, h82)) (sX9_number l k_v0 hc82) ccX9_number tw_884 tw_886 tp_16 (ci := 9) rfl (by decide) ⟨Nat.le_of_ble_eq_true rfl, Nat.le_of_ble_eq_true rfl, Nat.le_of_ble_eq_true rfl, Nat.le_of_ble_eq_true rfl⟩ dX9_makeB_82 rfl k_v0 rfl (Nat.le_of_ble_eq_true rfl) rfl rfl (fun hr82 => ?_)
      exact AW.weak (wX9_makeB_85 l hk4 v0 v1 v2 v3 h82 _ k_v0 _ k_v1 hf) ⟨rfl, ⟨rfl, ⟨rfl, ⟨rfl, trivial⟩⟩⟩⟩
    refine a_iload_n dX9_makeB_39 rfl rfl ?_
    refine a_sipush (v := nI 256) dX9_makeB_40 rfl (by decide) ?_
    refine a_icmp_le (t := 52) dX9_makeB_43 rfl rfl hf (fun _ hf => ?_) (fun _ hf => ?_)
    · refine a_iload_n dX9_makeB_52 rfl rfl ?_
      exact AW.weak (wX9_makeB_53 l hk4 ih v0 v1 v2 v3 v4 v2 h _ k_v0 _ k_v1 hf) ⟨rfl, ⟨rfl, ⟨rfl, ⟨rfl, ⟨rfl, trivial⟩⟩⟩⟩⟩
    refine a_sipush (v := nI 256) dX9_makeB_46 rfl (by decide) ?_
    refine a_goto (t := 53) dX9_makeB_49 rfl ?_
    exact AW.weak (wX9_makeB_53 l hk4 ih v0 v1 v2 v3 v4 (nI 256) h _ k_v0 _ k_v1 hf) ⟨rfl, ⟨rfl, ⟨rfl, ⟨rfl, ⟨rfl, trivial⟩⟩⟩⟩⟩
set_option maxRecDepth 100000 in
set_option maxHeartbeats 4000000 in
theorem wX9_makeB_4 (l : Launch) {Γ : Gm} {r : Unit} {h' : AH} : ∀ (z : Nat) (v0 : Nat) (v1 : Nat) (v2 : Int32) (v3 : Int32) (h : AH), ∀ n_v0 : Nat, Γ[v0]? = some (9, n_v0) → ∀ n_v1 : Nat, Γ[v1]? = some (10, n_v1) → fX9_makeB_4 Γ z v0 v1 v2 v3 h = some (r, h') → AW l mX9_makeB (none, Γ, h') 0 0 4 [some (.ref v0), some (.ref v1), some (.int v2), some (.int v3), none, none] [] Γ h := by
  intro z
  induction z with
  | zero => intro v0 v1 v2 v3 h n_v0 k_v0 n_v1 k_v1 hf; cases hf
  | succ z ih =>
    intro v0 v1 v2 v3 h n_v0 k_v0 n_v1 k_v1 hf
    unfold fX9_makeB_4 at hf
    refine a_iload_n dX9_makeB_4 rfl rfl ?_
    refine a_aload_n dX9_makeB_5 rfl rfl ?_
    refine a_getI fl_RX9_82 dX9_makeB_6 rfl k_v0 rfl ?_
    refine a_icmp_ge (t := 91) dX9_makeB_9 rfl rfl hf (fun _ hf => ?_) (fun _ hf => ?_)
    · cases hf
      exact a_ret dX9_makeB_91 rfl rfl rfl
    refine a_aload_n dX9_makeB_12 rfl rfl ?_
    refine a_iload_n dX9_makeB_13 rfl rfl ?_
    refine a_iald dX9_makeB_14 rfl k_v1 hf (fun hf => ?_)
    refine a_aload_n dX9_makeB_15 rfl rfl ?_
    refine a_getR fl_RX9_29 dX9_makeB_16 rfl k_v0 rfl (by decide) hf (fun b16 n_b16 _ k_b16 hf => ?_)
    refine a_iload_n dX9_makeB_19 rfl rfl ?_
    refine a_iald dX9_makeB_20 rfl k_b16 hf (fun hf => ?_)
    refine a_ixor dX9_makeB_21 rfl ?_
    refine a_nmI hf (fun x22 hf => ?_)
    refine a_istore (L' := [some (.ref v0), some (.ref v1), some (.int v2), some (.int v3), some (.int x22), none]) dX9_makeB_22 rfl (Nat.le_of_ble_eq_true rfl) (fun _ _ hv => by cases hv; rfl) rfl ?_
    refine a_iload dX9_makeB_24 rfl rfl ?_
    refine a_if_ne (t := 35) dX9_makeB_26 rfl rfl hf (fun _ hf => ?_) (fun _ hf => ?_)
    · refine a_iinc (v := v2 + nI 1) (L' := [some (.ref v0), some (.ref v1), some (.int (v2 + nI 1)), some (.int v3), some (.int x22), none]) dX9_makeB_29 rfl rfl rfl (Nat.le_of_ble_eq_true rfl) (fun _ _ hv => by cases hv; rfl) rfl ?_
      refine a_goto (t := 85) dX9_makeB_32 rfl ?_
      exact AW.weak (wX9_makeB_85 l ih v0 v1 (v2 + nI 1) v3 h _ k_v0 _ k_v1 hf) ⟨rfl, ⟨rfl, ⟨rfl, ⟨rfl, trivial⟩⟩⟩⟩
    exact AW.weak (wX9_makeB_35 l ih am_fuel v0 v1 v2 v3 x22 h _ k_v0 _ k_v1 hf) ⟨rfl, ⟨rfl, ⟨rfl, ⟨rfl, ⟨rfl, trivial⟩⟩⟩⟩⟩
set_option maxRecDepth 100000 in
set_option maxHeartbeats 4000000 in
theorem sX9_makeB (l : Launch) {Γ : Gm} {h h' : AH} {v0 : Nat} {v1 : Nat} {r : Unit} {n_v0 : Nat} (k_v0 : Γ[v0]? = some (9, n_v0)) {n_v1 : Nat} (k_v1 : Γ[v1]? = some (10, n_v1)) (hf : fX9_makeB Γ v0 v1 h = some (r, h')) : AR l yX9_makeB mX9_makeB [.ref v0, .ref v1] Γ h (none, Γ, h') := by
  refine AR.of [some (.ref v0), some (.ref v1), none, none, none, none] (by decide +kernel) rfl (fun z => by cases z) (Nat.le_of_ble_eq_true rfl) ⟨rfl, ⟨rfl, trivial⟩⟩ ?_
  unfold fX9_makeB at hf
  refine a_iconst (v := nI 0) dX9_makeB_0 rfl (by decide) ?_
  refine a_istore_n (L' := [some (.ref v0), some (.ref v1), some (.int (nI 0)), none, none, none]) dX9_makeB_1 rfl (Nat.le_of_ble_eq_true rfl) (fun _ _ hv => by cases hv; rfl) rfl ?_
  refine a_iconst (v := nI 0) dX9_makeB_2 rfl (by decide) ?_
  refine a_istore_n (L' := [some (.ref v0), some (.ref v1), some (.int (nI 0)), some (.int (nI 0)), none, none]) dX9_makeB_3 rfl (Nat.le_of_ble_eq_true rfl) (fun _ _ hv => by cases hv; rfl) rfl ?_
  exact AW.weak (wX9_makeB_4 l am_fuel v0 v1 (nI 0) (nI 0) h _ k_v0 _ k_v1 hf) ⟨rfl, ⟨rfl, ⟨rfl, ⟨rfl, trivial⟩⟩⟩⟩
