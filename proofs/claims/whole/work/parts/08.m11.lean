set_option maxRecDepth 100000 in
set_option maxHeartbeats 4000000 in
theorem sX8_undo (l : Launch) {Γ : Gm} {h h' : AH} {v0 : Nat} {r : Int32} {n_v0 : Nat} (k_v0 : Γ[v0]? = some (8, n_v0)) (hf : fX8_undo Γ v0 h = some (r, h')) : AR l yX8_undo mX8_undo [.ref v0] Γ h (some (.int r), Γ, h') := by
  refine AR.of [some (.ref v0)] (by decide +kernel) rfl (fun z => by cases z) (Nat.le_of_ble_eq_true rfl) ⟨rfl, trivial⟩ ?_
  unfold fX8_undo at hf
  refine a_aload_n dX8_undo_0 rfl rfl ?_
  obtain ⟨r1, h1, hc1, hf⟩ := am_bind_some hf
  refine a_callV (As := []) (r1 := (some (.int r1), Γ, h1)) (sX8_noStory l k_v0 hc1) ccX8_noStory tw_384 tw_386 tp_1 (ci := 8) rfl (by decide) ⟨Nat.le_of_ble_eq_true rfl, Nat.le_of_ble_eq_true rfl, Nat.le_of_ble_eq_true rfl, Nat.le_of_ble_eq_true rfl⟩ dX8_undo_1 rfl k_v0 rfl (Nat.le_of_ble_eq_true rfl) rfl rfl (fun hr1 => ?_)
  refine a_if_eq (t := 10) dX8_undo_4 rfl rfl hf (fun _ hf => ?_) (fun _ hf => ?_)
  · refine a_aload_n dX8_undo_10 rfl rfl ?_
    refine a_getR fl_RX8_55 dX8_undo_11 rfl k_v0 rfl (by decide) hf (fun b11 n_b11 _ k_b11 hf => ?_)
    refine a_getI fl_RX8_259 dX8_undo_14 rfl k_b11 rfl ?_
    refine a_if_gt (t := 23) dX8_undo_17 rfl rfl hf (fun _ hf => ?_) (fun _ hf => ?_)
    · refine a_aload_n dX8_undo_23 rfl rfl ?_
      refine a_getR fl_RX8_55 dX8_undo_24 rfl k_v0 rfl (by decide) hf (fun b24 n_b24 _ k_b24 hf => ?_)
      refine a_aload_n dX8_undo_27 rfl rfl ?_
      refine a_getR fl_RX8_48 dX8_undo_28 rfl k_v0 rfl (by decide) hf (fun b28 n_b28 _ k_b28 hf => ?_)
      refine a_aload_n dX8_undo_31 rfl rfl ?_
      refine a_getR fl_RX8_66 dX8_undo_32 rfl k_v0 rfl (by decide) hf (fun b32 n_b32 _ k_b32 hf => ?_)
      obtain ⟨r35, h35, hc35, hf⟩ := am_bind_some hf
      refine a_callV (As := [.ref b28, .ref b32]) (r1 := (none, Γ, h35)) (sX2_takeLatest l k_b24 k_b28 k_b32 hc35) ccX2_takeLatest tw_692 tw_693 tw_694 (ci := 2) rfl (by decide) ⟨Nat.le_of_ble_eq_true rfl, Nat.le_of_ble_eq_true rfl, Nat.le_of_ble_eq_true rfl, Nat.le_of_ble_eq_true rfl⟩ dX8_undo_35 rfl k_b24 rfl (Nat.le_of_ble_eq_true rfl) rfl rfl (fun hr35 => ?_)
      refine a_aload_n dX8_undo_38 rfl rfl ?_
      obtain ⟨r39, h39, hc39, hf⟩ := am_bind_some hf
      refine a_callV (As := []) (r1 := (none, Γ, h39)) (sX8_turnToSpare l k_v0 hc39) ccX8_turnToSpare tw_623 tw_625 tp_9 (ci := 8) rfl (by decide) ⟨Nat.le_of_ble_eq_true rfl, Nat.le_of_ble_eq_true rfl, Nat.le_of_ble_eq_true rfl, Nat.le_of_ble_eq_true rfl⟩ dX8_undo_39 rfl k_v0 rfl (Nat.le_of_ble_eq_true rfl) rfl rfl (fun hr39 => ?_)
      refine a_aload_n dX8_undo_42 rfl rfl ?_
      refine a_getR fl_RX8_55 dX8_undo_43 rfl k_v0 rfl (by decide) hf (fun b43 n_b43 _ k_b43 hf => ?_)
      refine a_getI fl_RX8_259 dX8_undo_46 rfl k_b43 rfl ?_
      cases hf
      exact a_iret dX8_undo_49 rfl rfl rfl (by decide)
    refine a_bipush (v := (-2 : Int32)) dX8_undo_20 rfl (by decide) ?_
    cases hf
    exact a_iret dX8_undo_22 rfl rfl rfl (by decide)
  refine a_bipush (v := (-4 : Int32)) dX8_undo_7 rfl (by decide) ?_
  cases hf
  exact a_iret dX8_undo_9 rfl rfl rfl (by decide)
set_option maxRecDepth 100000 in
set_option maxHeartbeats 4000000 in
theorem sX8_bound (l : Launch) {Γ : Gm} {h h' : AH} {v0 : Nat} {v1 : Int32} {r : Int32} {n_v0 : Nat} (k_v0 : Γ[v0]? = some (8, n_v0)) (hf : fX8_bound Γ v0 v1 h = some (r, h')) : AR l yX8_bound mX8_bound [.ref v0, .int v1] Γ h (some (.int r), Γ, h') := by
  refine AR.of [some (.ref v0), some (.int v1), none] (by decide +kernel) rfl (fun z => by cases z) (Nat.le_of_ble_eq_true rfl) ⟨rfl, ⟨rfl, trivial⟩⟩ ?_
  unfold fX8_bound at hf
  refine a_iload_n dX8_bound_0 rfl rfl ?_
  refine a_sipush (v := nI 10000) dX8_bound_1 rfl (by decide) ?_
  obtain ⟨r4, h4, hc4, hf⟩ := am_bind_some hf
  refine a_callS (As := [.int v1, .int (nI 10000)]) (r1 := (some (.int r4), Γ, h4)) (sX8_within l hc4) ccX8_within tw_297 tw_298 ⟨Nat.le_of_ble_eq_true rfl, Nat.le_of_ble_eq_true rfl, Nat.le_of_ble_eq_true rfl, Nat.le_of_ble_eq_true rfl⟩ dX8_bound_4 rfl rfl (Nat.le_of_ble_eq_true rfl) rfl rfl (fun hr4 => ?_)
  refine a_if_ne (t := 12) dX8_bound_7 rfl rfl hf (fun _ hf => ?_) (fun _ hf => ?_)
  · refine a_iconst (v := (-1 : Int32)) dX8_bound_10 rfl (by decide) ?_
    cases hf
    exact a_iret dX8_bound_11 rfl rfl rfl (by decide)
  refine a_aload_n dX8_bound_12 rfl rfl ?_
  refine a_getR fl_RX8_55 dX8_bound_13 rfl k_v0 rfl (by decide) hf (fun b13 n_b13 _ k_b13 hf => ?_)
  refine a_getI fl_RX8_252 dX8_bound_16 rfl k_b13 rfl ?_
  refine a_nmI hf (fun x19 hf => ?_)
  refine a_istore_n (L' := [some (.ref v0), some (.int v1), some (.int x19)]) dX8_bound_19 rfl (Nat.le_of_ble_eq_true rfl) (fun _ _ hv => by cases hv; rfl) rfl ?_
  refine a_aload_n dX8_bound_20 rfl rfl ?_
  refine a_getR fl_RX8_55 dX8_bound_21 rfl k_v0 rfl (by decide) hf (fun b21 n_b21 _ k_b21 hf => ?_)
  refine a_iload_n dX8_bound_24 rfl rfl ?_
  refine a_putI fp_RX8_252 dX8_bound_25 rfl k_b21 rfl hf (fun h25 hf => ?_)
  refine a_aload_n dX8_bound_28 rfl rfl ?_
  refine a_getR fl_RX8_55 dX8_bound_29 rfl k_v0 rfl (by decide) hf (fun b29 n_b29 _ k_b29 hf => ?_)
  refine a_bipush (v := nI 8) dX8_bound_32 rfl (by decide) ?_
  refine a_iload_n dX8_bound_34 rfl rfl ?_
  obtain ⟨r35, h35, hc35, hf⟩ := am_bind_some hf
  refine a_callV (As := [.int (nI 8), .int v1]) (r1 := (none, Γ, h35)) (sX2_shrink l k_b29 hc35) ccX2_shrink tw_704 tw_676 tw_677 (ci := 2) rfl (by decide) ⟨Nat.le_of_ble_eq_true rfl, Nat.le_of_ble_eq_true rfl, Nat.le_of_ble_eq_true rfl, Nat.le_of_ble_eq_true rfl⟩ dX8_bound_35 rfl k_b29 rfl (Nat.le_of_ble_eq_true rfl) rfl rfl (fun hr35 => ?_)
  refine a_iload_n dX8_bound_38 rfl rfl ?_
  cases hf
  exact a_iret dX8_bound_39 rfl rfl rfl (by decide)
set_option maxRecDepth 100000 in
set_option maxHeartbeats 4000000 in
theorem sX8_restart (l : Launch) {Γ : Gm} {h h' : AH} {v0 : Nat} {r : Int32} {n_v0 : Nat} (k_v0 : Γ[v0]? = some (8, n_v0)) (hf : fX8_restart Γ v0 h = some (r, h')) : AR l yX8_restart mX8_restart [.ref v0] Γ h (some (.int r), Γ, h') := by
  refine AR.of [some (.ref v0)] (by decide +kernel) rfl (fun z => by cases z) (Nat.le_of_ble_eq_true rfl) ⟨rfl, trivial⟩ ?_
  unfold fX8_restart at hf
  refine a_aload_n dX8_restart_0 rfl rfl ?_
  obtain ⟨r1, h1, hc1, hf⟩ := am_bind_some hf
  refine a_callV (As := []) (r1 := (some (.int r1), Γ, h1)) (sX8_noStory l k_v0 hc1) ccX8_noStory tw_384 tw_386 tp_1 (ci := 8) rfl (by decide) ⟨Nat.le_of_ble_eq_true rfl, Nat.le_of_ble_eq_true rfl, Nat.le_of_ble_eq_true rfl, Nat.le_of_ble_eq_true rfl⟩ dX8_restart_1 rfl k_v0 rfl (Nat.le_of_ble_eq_true rfl) rfl rfl (fun hr1 => ?_)
  refine a_if_eq (t := 10) dX8_restart_4 rfl rfl hf (fun _ hf => ?_) (fun _ hf => ?_)
  · refine a_aload_n dX8_restart_10 rfl rfl ?_
    refine a_getR fl_RX8_66 dX8_restart_11 rfl k_v0 rfl (by decide) hf (fun b11 n_b11 _ k_b11 hf => ?_)
    refine a_aload_n dX8_restart_14 rfl rfl ?_
    refine a_getR fl_RX8_48 dX8_restart_15 rfl k_v0 rfl (by decide) hf (fun b15 n_b15 _ k_b15 hf => ?_)
    obtain ⟨r18, h18, hc18, hf⟩ := am_bind_some hf
    refine a_callV (As := [.ref b15]) (r1 := (none, Γ, h18)) (sX4_begin l k_b11 k_b15 hc18) ccX4_begin tw_349 tw_350 tw_351 (ci := 4) rfl (by decide) ⟨Nat.le_of_ble_eq_true rfl, Nat.le_of_ble_eq_true rfl, Nat.le_of_ble_eq_true rfl, Nat.le_of_ble_eq_true rfl⟩ dX8_restart_18 rfl k_b11 rfl (Nat.le_of_ble_eq_true rfl) rfl rfl (fun hr18 => ?_)
    refine a_aload_n dX8_restart_21 rfl rfl ?_
    obtain ⟨r22, h22, hc22, hf⟩ := am_bind_some hf
    refine a_callV (As := []) (r1 := (none, Γ, h22)) (sX8_turnToSpare l k_v0 hc22) ccX8_turnToSpare tw_623 tw_625 tp_9 (ci := 8) rfl (by decide) ⟨Nat.le_of_ble_eq_true rfl, Nat.le_of_ble_eq_true rfl, Nat.le_of_ble_eq_true rfl, Nat.le_of_ble_eq_true rfl⟩ dX8_restart_22 rfl k_v0 rfl (Nat.le_of_ble_eq_true rfl) rfl rfl (fun hr22 => ?_)
    refine a_iconst (v := nI 1) dX8_restart_25 rfl (by decide) ?_
    cases hf
    exact a_iret dX8_restart_26 rfl rfl rfl (by decide)
  refine a_bipush (v := (-4 : Int32)) dX8_restart_7 rfl (by decide) ?_
  cases hf
  exact a_iret dX8_restart_9 rfl rfl rfl (by decide)
set_option maxRecDepth 100000 in
set_option maxHeartbeats 4000000 in
theorem sX8_told (l : Launch) {Γ : Gm} {h h' : AH} {v0 : Nat} {v1 : Int32} {r : Int32} {n_v0 : Nat} (k_v0 : Γ[v0]? = some (8, n_v0)) (hf : fX8_told Γ v0 v1 h = some (r, h')) : AR l yX8_told mX8_told [.ref v0, .int v1] Γ h (some (.int r), Γ, h') := by
  refine AR.of [some (.ref v0), some (.int v1)] (by decide +kernel) rfl (fun z => by cases z) (Nat.le_of_ble_eq_true rfl) ⟨rfl, ⟨rfl, trivial⟩⟩ ?_
  unfold fX8_told at hf
  refine a_iload_n dX8_told_0 rfl rfl ?_
  refine am_if hf (fun hx hf => ?_) (fun hx0 hf => ?_)
  · refine a_tswIn (c := nI 0) (off := 55) (t := 56) dX8_told_1 hx (by decide) (by decide) (by decide) rfl ?_
    refine a_aload_n dX8_told_56 rfl rfl ?_
    refine a_getR fl_RX8_62 dX8_told_57 rfl k_v0 rfl (by decide) hf (fun b57 n_b57 _ k_b57 hf => ?_)
    refine a_getI fl_RX8_136 dX8_told_60 rfl k_b57 rfl ?_
    cases hf
    exact a_iret dX8_told_63 rfl rfl rfl (by decide)
  refine am_if hf (fun hx hf => ?_) (fun hx1 hf => ?_)
  · refine a_tswIn (c := nI 1) (off := 63) (t := 64) dX8_told_1 hx (by decide) (by decide) (by decide) rfl ?_
    refine a_aload_n dX8_told_64 rfl rfl ?_
    refine a_getR fl_RX8_62 dX8_told_65 rfl k_v0 rfl (by decide) hf (fun b65 n_b65 _ k_b65 hf => ?_)
    refine a_getI fl_RX8_144 dX8_told_68 rfl k_b65 rfl ?_
    cases hf
    exact a_iret dX8_told_71 rfl rfl rfl (by decide)
  refine am_if hf (fun hx hf => ?_) (fun hx2 hf => ?_)
  · refine a_tswIn (c := nI 2) (off := 71) (t := 72) dX8_told_1 hx (by decide) (by decide) (by decide) rfl ?_
    refine a_aload_n dX8_told_72 rfl rfl ?_
    refine a_getR fl_RX8_62 dX8_told_73 rfl k_v0 rfl (by decide) hf (fun b73 n_b73 _ k_b73 hf => ?_)
    refine a_getI fl_RX8_147 dX8_told_76 rfl k_b73 rfl ?_
    cases hf
    exact a_iret dX8_told_79 rfl rfl rfl (by decide)
  refine am_if hf (fun hx hf => ?_) (fun hx3 hf => ?_)
  · refine a_tswIn (c := nI 3) (off := 79) (t := 80) dX8_told_1 hx (by decide) (by decide) (by decide) rfl ?_
    refine a_aload_n dX8_told_80 rfl rfl ?_
    refine a_getR fl_RX8_55 dX8_told_81 rfl k_v0 rfl (by decide) hf (fun b81 n_b81 _ k_b81 hf => ?_)
    refine a_getI fl_RX8_259 dX8_told_84 rfl k_b81 rfl ?_
    cases hf
    exact a_iret dX8_told_87 rfl rfl rfl (by decide)
  refine am_if hf (fun hx hf => ?_) (fun hx4 hf => ?_)
  · refine a_tswIn (c := nI 4) (off := 87) (t := 88) dX8_told_1 hx (by decide) (by decide) (by decide) rfl ?_
    refine a_aload_n dX8_told_88 rfl rfl ?_
    refine a_getR fl_RX8_55 dX8_told_89 rfl k_v0 rfl (by decide) hf (fun b89 n_b89 _ k_b89 hf => ?_)
    refine a_getR fl_RX8_267 dX8_told_92 rfl k_b89 rfl (by decide) hf (fun b92 n_b92 _ k_b92 hf => ?_)
    refine a_getI fl_RX8_101 dX8_told_95 rfl k_b92 rfl ?_
    cases hf
    exact a_iret dX8_told_98 rfl rfl rfl (by decide)
  refine am_if hf (fun hx hf => ?_) (fun hx5 hf => ?_)
  · refine a_tswIn (c := nI 5) (off := 98) (t := 99) dX8_told_1 hx (by decide) (by decide) (by decide) rfl ?_
    refine a_aload_n dX8_told_99 rfl rfl ?_
    obtain ⟨r100, h100, hc100, hf⟩ := am_bind_some hf
    refine a_callV (As := []) (r1 := (some (.int r100), Γ, h100)) (sX8_weighNow l k_v0 hc100) ccX8_weighNow tw_667 tw_669 tp_11 (ci := 8) rfl (by decide) ⟨Nat.le_of_ble_eq_true rfl, Nat.le_of_ble_eq_true rfl, Nat.le_of_ble_eq_true rfl, Nat.le_of_ble_eq_true rfl⟩ dX8_told_100 rfl k_v0 rfl (Nat.le_of_ble_eq_true rfl) rfl rfl (fun hr100 => ?_)
    refine a_pop dX8_told_103 rfl rfl ?_
    refine a_aload_n dX8_told_104 rfl rfl ?_
    refine a_getR fl_RX8_42 dX8_told_105 rfl k_v0 rfl (by decide) hf (fun b105 n_b105 _ k_b105 hf => ?_)
    refine a_getI fl_RX8_101 dX8_told_108 rfl k_b105 rfl ?_
    cases hf
    exact a_iret dX8_told_111 rfl rfl rfl (by decide)
  refine am_if hf (fun hx hf => ?_) (fun hx6 hf => ?_)
  · refine a_tswIn (c := nI 6) (off := 111) (t := 112) dX8_told_1 hx (by decide) (by decide) (by decide) rfl ?_
    refine a_aload_n dX8_told_112 rfl rfl ?_
    refine a_getR fl_RX8_72 dX8_told_113 rfl k_v0 rfl (by decide) hf (fun b113 n_b113 _ k_b113 hf => ?_)
    refine a_getI fl_RX8_270 dX8_told_116 rfl k_b113 rfl ?_
    cases hf
    exact a_iret dX8_told_119 rfl rfl rfl (by decide)
  refine am_if hf (fun hx hf => ?_) (fun hx7 hf => ?_)
  · refine a_tswIn (c := nI 7) (off := 119) (t := 120) dX8_told_1 hx (by decide) (by decide) (by decide) rfl ?_
    refine a_aload_n dX8_told_120 rfl rfl ?_
    refine a_getR fl_RX8_27 dX8_told_121 rfl k_v0 rfl (by decide) hf (fun b121 n_b121 _ k_b121 hf => ?_)
    refine a_getI fl_RX8_101 dX8_told_124 rfl k_b121 rfl ?_
    cases hf
    exact a_iret dX8_told_127 rfl rfl rfl (by decide)
  refine am_if hf (fun hx hf => ?_) (fun hx8 hf => ?_)
  · refine a_tswIn (c := nI 8) (off := 127) (t := 128) dX8_told_1 hx (by decide) (by decide) (by decide) rfl ?_
    refine a_aload_n dX8_told_128 rfl rfl ?_
    refine a_getR fl_RX8_31 dX8_told_129 rfl k_v0 rfl (by decide) hf (fun b129 n_b129 _ k_b129 hf => ?_)
    refine a_getI fl_RX8_101 dX8_told_132 rfl k_b129 rfl ?_
    cases hf
    exact a_iret dX8_told_135 rfl rfl rfl (by decide)
  refine am_if hf (fun hx hf => ?_) (fun hx9 hf => ?_)
  · refine a_tswIn (c := nI 9) (off := 135) (t := 136) dX8_told_1 hx (by decide) (by decide) (by decide) rfl ?_
    refine a_aload_n dX8_told_136 rfl rfl ?_
    refine a_getI fl_RX8_79 dX8_told_137 rfl k_v0 rfl ?_
    refine a_if_eq (t := 153) dX8_told_140 rfl rfl hf (fun _ hf => ?_) (fun _ hf => ?_)
    · refine a_bipush (v := (-2 : Int32)) dX8_told_153 rfl (by decide) ?_
      cases hf
      exact a_iret dX8_told_155 rfl rfl rfl (by decide)
    refine a_aload_n dX8_told_143 rfl rfl ?_
    refine a_getR fl_RX8_39 dX8_told_144 rfl k_v0 rfl (by decide) hf (fun b144 n_b144 _ k_b144 hf => ?_)
    refine a_getI fl_RX8_101 dX8_told_147 rfl k_b144 rfl ?_
    refine a_goto (t := 155) dX8_told_150 rfl ?_
    cases hf
    exact a_iret dX8_told_155 rfl rfl rfl (by decide)
  refine a_tswOut (t := 156) dX8_told_1 (by have e0 := lv_neT (a := 0) hx0 (by decide); have e1 := lv_neT (a := 1) hx1 (by decide); have e2 := lv_neT (a := 2) hx2 (by decide); have e3 := lv_neT (a := 3) hx3 (by decide); have e4 := lv_neT (a := 4) hx4 (by decide); have e5 := lv_neT (a := 5) hx5 (by decide); have e6 := lv_neT (a := 6) hx6 (by decide); have e7 := lv_neT (a := 7) hx7 (by decide); have e8 := lv_neT (a := 8) hx8 (by decide); have e9 := lv_neT (a := 9) hx9 (by decide); omega) rfl ?_
  refine a_iconst (v := (-1 : Int32)) dX8_told_156 rfl (by decide) ?_
  cases hf
  exact a_iret dX8_told_157 rfl rfl rfl (by decide)
set_option maxRecDepth 100000 in
set_option maxHeartbeats 4000000 in
theorem wX9_outside_10 (l : Launch) {Γ : Gm} {r : Int32} {h' : AH} (h : AH) : fX9_outside_10 Γ  h = some (r, h') → AW l mX9_outside (some (.int r), Γ, h') 0 0 10 [none, none, none] [] Γ h := by
  intro hf
  unfold fX9_outside_10 at hf
  refine a_iconst (v := nI 1) dX9_outside_10 rfl (by decide) ?_
  refine a_goto (t := 15) dX9_outside_11 rfl ?_
  cases hf
  exact a_zret dX9_outside_15 rfl rfl rfl (by decide)
set_option maxRecDepth 100000 in
set_option maxHeartbeats 4000000 in
theorem sX9_outside (l : Launch) {Γ : Gm} {h h' : AH} {v0 : Int32} {v1 : Int32} {v2 : Int32} {r : Int32} (hf : fX9_outside Γ v0 v1 v2 h = some (r, h')) : AR l yX9_outside mX9_outside [.int v0, .int v1, .int v2] Γ h (some (.int r), Γ, h') := by
  refine AR.of [some (.int v0), some (.int v1), some (.int v2)] (by decide +kernel) rfl (fun z => by cases z) (Nat.le_of_ble_eq_true rfl) ⟨rfl, ⟨rfl, ⟨rfl, trivial⟩⟩⟩ ?_
  unfold fX9_outside at hf
  refine a_iload_n dX9_outside_0 rfl rfl ?_
  refine a_iload_n dX9_outside_1 rfl rfl ?_
  refine a_icmp_lt (t := 10) dX9_outside_2 rfl rfl hf (fun _ hf => ?_) (fun _ hf => ?_)
  · exact AW.weak (wX9_outside_10 l h hf) trivial
  refine a_iload_n dX9_outside_5 rfl rfl ?_
  refine a_iload_n dX9_outside_6 rfl rfl ?_
  refine a_icmp_le (t := 14) dX9_outside_7 rfl rfl hf (fun _ hf => ?_) (fun _ hf => ?_)
  · refine a_iconst (v := nI 0) dX9_outside_14 rfl (by decide) ?_
    cases hf
    exact a_zret dX9_outside_15 rfl rfl rfl (by decide)
  exact AW.weak (wX9_outside_10 l h hf) trivial
set_option maxRecDepth 100000 in
set_option maxHeartbeats 4000000 in
theorem wX9_four_2 (l : Launch) {Γ : Gm} {r : Unit} {h' : AH} : ∀ (z : Nat) (v0 : Nat) (v1 : Int32) (v2 : Int32) (v3 : Int32) (h : AH), ∀ n_v0 : Nat, Γ[v0]? = some (9, n_v0) → fX9_four_2 Γ z v0 v1 v2 v3 h = some (r, h') → AW l mX9_four (none, Γ, h') 0 0 2 [some (.ref v0), some (.int v1), some (.int v2), some (.int v3)] [] Γ h := by
  intro z
  induction z with
  | zero => intro v0 v1 v2 v3 h n_v0 k_v0 hf; cases hf
  | succ z ih =>
    intro v0 v1 v2 v3 h n_v0 k_v0 hf
    unfold fX9_four_2 at hf
    refine a_iload_n dX9_four_2 rfl rfl ?_
    refine a_iconst (v := nI 4) dX9_four_3 rfl (by decide) ?_
    refine a_icmp_ge (t := 34) dX9_four_4 rfl rfl hf (fun _ hf => ?_) (fun _ hf => ?_)
    · cases hf
      exact a_ret dX9_four_34 rfl rfl rfl
    refine a_aload_n dX9_four_7 rfl rfl ?_
    refine a_getR fl_RX9_9 dX9_four_8 rfl k_v0 rfl (by decide) hf (fun b8 n_b8 _ k_b8 hf => ?_)
    refine a_iload_n dX9_four_11 rfl rfl ?_
    refine a_iload_n dX9_four_12 rfl rfl ?_
    refine a_iadd dX9_four_13 rfl ?_
    refine a_iload_n dX9_four_14 rfl rfl ?_
    refine a_bipush (v := nI 24) dX9_four_15 rfl (by decide) ?_
    refine a_bipush (v := nI 8) dX9_four_17 rfl (by decide) ?_
    refine a_iload_n dX9_four_19 rfl rfl ?_
    refine a_imul dX9_four_20 rfl ?_
    refine a_isub dX9_four_21 rfl ?_
    refine a_ishr dX9_four_22 rfl ?_
    refine a_sipush (v := nI 255) dX9_four_23 rfl (by decide) ?_
    refine a_iand dX9_four_26 rfl ?_
    refine a_iast dX9_four_27 rfl k_b8 hf (fun h27 hf => ?_)
    refine a_iinc (v := v3 + nI 1) (L' := [some (.ref v0), some (.int v1), some (.int v2), some (.int (v3 + nI 1))]) dX9_four_28 rfl rfl rfl (Nat.le_of_ble_eq_true rfl) (fun _ _ hv => by cases hv; rfl) rfl ?_
    refine a_goto (t := 2) dX9_four_31 rfl ?_
    exact AW.weak (ih v0 v1 v2 (v3 + nI 1) h27 _ k_v0 hf) ⟨rfl, ⟨rfl, ⟨rfl, ⟨rfl, trivial⟩⟩⟩⟩
set_option maxRecDepth 100000 in
set_option maxHeartbeats 4000000 in
theorem sX9_four (l : Launch) {Γ : Gm} {h h' : AH} {v0 : Nat} {v1 : Int32} {v2 : Int32} {r : Unit} {n_v0 : Nat} (k_v0 : Γ[v0]? = some (9, n_v0)) (hf : fX9_four Γ v0 v1 v2 h = some (r, h')) : AR l yX9_four mX9_four [.ref v0, .int v1, .int v2] Γ h (none, Γ, h') := by
  refine AR.of [some (.ref v0), some (.int v1), some (.int v2), none] (by decide +kernel) rfl (fun z => by cases z) (Nat.le_of_ble_eq_true rfl) ⟨rfl, ⟨rfl, ⟨rfl, trivial⟩⟩⟩ ?_
  unfold fX9_four at hf
  refine a_iconst (v := nI 0) dX9_four_0 rfl (by decide) ?_
  refine a_istore_n (L' := [some (.ref v0), some (.int v1), some (.int v2), some (.int (nI 0))]) dX9_four_1 rfl (Nat.le_of_ble_eq_true rfl) (fun _ _ hv => by cases hv; rfl) rfl ?_
  exact AW.weak (wX9_four_2 l am_fuel v0 v1 v2 (nI 0) h _ k_v0 hf) ⟨rfl, ⟨rfl, ⟨rfl, ⟨rfl, trivial⟩⟩⟩⟩
set_option maxRecDepth 100000 in
set_option maxHeartbeats 4000000 in
theorem sX9_feed (l : Launch) {Γ : Gm} {h h' : AH} {v0 : Nat} {v1 : Int32} {v2 : Int32} {v3 : Int32} {v4 : Int32} {v5 : Int32} {r : Int32} {n_v0 : Nat} (k_v0 : Γ[v0]? = some (9, n_v0)) (hf : fX9_feed Γ v0 v1 v2 v3 v4 v5 h = some (r, h')) : AR l yX9_feed mX9_feed [.ref v0, .int v1, .int v2, .int v3, .int v4, .int v5] Γ h (some (.int r), Γ, h') := by
  refine AR.of [some (.ref v0), some (.int v1), some (.int v2), some (.int v3), some (.int v4), some (.int v5)] (by decide +kernel) rfl (fun z => by cases z) (Nat.le_of_ble_eq_true rfl) ⟨rfl, ⟨rfl, ⟨rfl, ⟨rfl, ⟨rfl, ⟨rfl, trivial⟩⟩⟩⟩⟩⟩ ?_
  unfold fX9_feed at hf
  refine a_aload_n dX9_feed_0 rfl rfl ?_
  refine a_getI fl_RX9_68 dX9_feed_1 rfl k_v0 rfl ?_
  refine a_sipush (v := nI 1980) dX9_feed_4 rfl (by decide) ?_
  refine a_icmp_le (t := 13) dX9_feed_7 rfl rfl hf (fun _ hf => ?_) (fun _ hf => ?_)
  · refine a_aload_n dX9_feed_13 rfl rfl ?_
    refine a_iload_n dX9_feed_14 rfl rfl ?_
    refine a_aload_n dX9_feed_15 rfl rfl ?_
    refine a_getI fl_RX9_68 dX9_feed_16 rfl k_v0 rfl ?_
    obtain ⟨r19, h19, hc19, hf⟩ := am_bind_some hf
    refine a_callV (As := [.int v1, .int (h.1 v0 1)]) (r1 := (none, Γ, h19)) (sX9_four l k_v0 hc19) ccX9_four tw_811 tw_813 tp_13 (ci := 9) rfl (by decide) ⟨Nat.le_of_ble_eq_true rfl, Nat.le_of_ble_eq_true rfl, Nat.le_of_ble_eq_true rfl, Nat.le_of_ble_eq_true rfl⟩ dX9_feed_19 rfl k_v0 rfl (Nat.le_of_ble_eq_true rfl) rfl rfl (fun hr19 => ?_)
    refine a_aload_n dX9_feed_22 rfl rfl ?_
    refine a_iload_n dX9_feed_23 rfl rfl ?_
    refine a_aload_n dX9_feed_24 rfl rfl ?_
    refine a_getI fl_RX9_68 dX9_feed_25 rfl k_v0 rfl ?_
    refine a_iconst (v := nI 4) dX9_feed_28 rfl (by decide) ?_
    refine a_iadd dX9_feed_29 rfl ?_
    obtain ⟨r30, h30, hc30, hf⟩ := am_bind_some hf
    refine a_callV (As := [.int v2, .int ((h19.1 v0 1) + (nI 4))]) (r1 := (none, Γ, h30)) (sX9_four l k_v0 hc30) ccX9_four tw_811 tw_813 tp_13 (ci := 9) rfl (by decide) ⟨Nat.le_of_ble_eq_true rfl, Nat.le_of_ble_eq_true rfl, Nat.le_of_ble_eq_true rfl, Nat.le_of_ble_eq_true rfl⟩ dX9_feed_30 rfl k_v0 rfl (Nat.le_of_ble_eq_true rfl) rfl rfl (fun hr30 => ?_)
    refine a_aload_n dX9_feed_33 rfl rfl ?_
    refine a_iload_n dX9_feed_34 rfl rfl ?_
    refine a_aload_n dX9_feed_35 rfl rfl ?_
    refine a_getI fl_RX9_68 dX9_feed_36 rfl k_v0 rfl ?_
    refine a_bipush (v := nI 8) dX9_feed_39 rfl (by decide) ?_
    refine a_iadd dX9_feed_41 rfl ?_
    obtain ⟨r42, h42, hc42, hf⟩ := am_bind_some hf
    refine a_callV (As := [.int v3, .int ((h30.1 v0 1) + (nI 8))]) (r1 := (none, Γ, h42)) (sX9_four l k_v0 hc42) ccX9_four tw_811 tw_813 tp_13 (ci := 9) rfl (by decide) ⟨Nat.le_of_ble_eq_true rfl, Nat.le_of_ble_eq_true rfl, Nat.le_of_ble_eq_true rfl, Nat.le_of_ble_eq_true rfl⟩ dX9_feed_42 rfl k_v0 rfl (Nat.le_of_ble_eq_true rfl) rfl rfl (fun hr42 => ?_)
    refine a_aload_n dX9_feed_45 rfl rfl ?_
    refine a_iload dX9_feed_46 rfl rfl ?_
    refine a_aload_n dX9_feed_48 rfl rfl ?_
    refine a_getI fl_RX9_68 dX9_feed_49 rfl k_v0 rfl ?_
    refine a_bipush (v := nI 12) dX9_feed_52 rfl (by decide) ?_
    refine a_iadd dX9_feed_54 rfl ?_
    obtain ⟨r55, h55, hc55, hf⟩ := am_bind_some hf
    refine a_callV (As := [.int v4, .int ((h42.1 v0 1) + (nI 12))]) (r1 := (none, Γ, h55)) (sX9_four l k_v0 hc55) ccX9_four tw_811 tw_813 tp_13 (ci := 9) rfl (by decide) ⟨Nat.le_of_ble_eq_true rfl, Nat.le_of_ble_eq_true rfl, Nat.le_of_ble_eq_true rfl, Nat.le_of_ble_eq_true rfl⟩ dX9_feed_55 rfl k_v0 rfl (Nat.le_of_ble_eq_true rfl) rfl rfl (fun hr55 => ?_)
    refine a_aload_n dX9_feed_58 rfl rfl ?_
    refine a_iload dX9_feed_59 rfl rfl ?_
    refine a_aload_n dX9_feed_61 rfl rfl ?_
    refine a_getI fl_RX9_68 dX9_feed_62 rfl k_v0 rfl ?_
    refine a_bipush (v := nI 16) dX9_feed_65 rfl (by decide) ?_
    refine a_iadd dX9_feed_67 rfl ?_
    obtain ⟨r68, h68, hc68, hf⟩ := am_bind_some hf
    refine a_callV (As := [.int v5, .int ((h55.1 v0 1) + (nI 16))]) (r1 := (none, Γ, h68)) (sX9_four l k_v0 hc68) ccX9_four tw_811 tw_813 tp_13 (ci := 9) rfl (by decide) ⟨Nat.le_of_ble_eq_true rfl, Nat.le_of_ble_eq_true rfl, Nat.le_of_ble_eq_true rfl, Nat.le_of_ble_eq_true rfl⟩ dX9_feed_68 rfl k_v0 rfl (Nat.le_of_ble_eq_true rfl) rfl rfl (fun hr68 => ?_)
    refine a_aload_n dX9_feed_71 rfl rfl ?_
    refine a_dup dX9_feed_72 rfl rfl ?_
    refine a_getI fl_RX9_68 dX9_feed_73 rfl k_v0 rfl ?_
    refine a_bipush (v := nI 20) dX9_feed_76 rfl (by decide) ?_
    refine a_iadd dX9_feed_78 rfl ?_
    refine a_putI fp_RX9_68 dX9_feed_79 rfl k_v0 rfl hf (fun h79 hf => ?_)
    refine a_aload_n dX9_feed_82 rfl rfl ?_
    refine a_getI fl_RX9_68 dX9_feed_83 rfl k_v0 rfl ?_
    cases hf
    exact a_iret dX9_feed_86 rfl rfl rfl (by decide)
  refine a_bipush (v := (-3 : Int32)) dX9_feed_10 rfl (by decide) ?_
  cases hf
  exact a_iret dX9_feed_12 rfl rfl rfl (by decide)
set_option maxRecDepth 100000 in
set_option maxHeartbeats 4000000 in
theorem sX9_end (l : Launch) {Γ : Gm} {h h' : AH} {v0 : Nat} {v1 : Int32} {r : Int32} {n_v0 : Nat} (k_v0 : Γ[v0]? = some (9, n_v0)) (hf : fX9_end Γ v0 v1 h = some (r, h')) : AR l yX9_end mX9_end [.ref v0, .int v1] Γ h (some (.int r), Γ, h') := by
  refine AR.of [some (.ref v0), some (.int v1), none] (by decide +kernel) rfl (fun z => by cases z) (Nat.le_of_ble_eq_true rfl) ⟨rfl, ⟨rfl, trivial⟩⟩ ?_
  unfold fX9_end at hf
  refine a_iload_n dX9_end_0 rfl rfl ?_
  refine a_iconst (v := nI 0) dX9_end_1 rfl (by decide) ?_
  refine a_aload_n dX9_end_2 rfl rfl ?_
  refine a_getI fl_RX9_68 dX9_end_3 rfl k_v0 rfl ?_
  obtain ⟨r6, h6, hc6, hf⟩ := am_bind_some hf
  refine a_callS (As := [.int v1, .int (nI 0), .int (h.1 v0 1)]) (r1 := (some (.int r6), Γ, h6)) (sX9_outside l hc6) ccX9_outside tw_819 tw_820 ⟨Nat.le_of_ble_eq_true rfl, Nat.le_of_ble_eq_true rfl, Nat.le_of_ble_eq_true rfl, Nat.le_of_ble_eq_true rfl⟩ dX9_end_6 rfl rfl (Nat.le_of_ble_eq_true rfl) rfl rfl (fun hr6 => ?_)
  refine a_if_eq (t := 14) dX9_end_9 rfl rfl hf (fun _ hf => ?_) (fun _ hf => ?_)
  · refine a_aload_n dX9_end_14 rfl rfl ?_
    refine a_getI fl_RX9_68 dX9_end_15 rfl k_v0 rfl ?_
    refine a_iload_n dX9_end_18 rfl rfl ?_
    refine a_isub dX9_end_19 rfl ?_
    refine a_nmI hf (fun x20 hf => ?_)
    refine a_istore_n (L' := [some (.ref v0), some (.int v1), some (.int x20)]) dX9_end_20 rfl (Nat.le_of_ble_eq_true rfl) (fun _ _ hv => by cases hv; rfl) rfl ?_
    refine a_aload_n dX9_end_21 rfl rfl ?_
    refine a_iload_n dX9_end_22 rfl rfl ?_
    refine a_putI fp_RX9_68 dX9_end_23 rfl k_v0 rfl hf (fun h23 hf => ?_)
    refine a_iload_n dX9_end_26 rfl rfl ?_
    cases hf
    exact a_iret dX9_end_27 rfl rfl rfl (by decide)
  refine a_iconst (v := (-1 : Int32)) dX9_end_12 rfl (by decide) ?_
  cases hf
  exact a_iret dX9_end_13 rfl rfl rfl (by decide)
set_option maxRecDepth 100000 in
set_option maxHeartbeats 4000000 in
theorem sX9_out (l : Launch) {Γ : Gm} {h h' : AH} {v0 : Nat} {v1 : Int32} {r : Int32} {n_v0 : Nat} (k_v0 : Γ[v0]? = some (9, n_v0)) (hf : fX9_out Γ v0 v1 h = some (r, h')) : AR l yX9_out mX9_out [.ref v0, .int v1] Γ h (some (.int r), Γ, h') := by
  refine AR.of [some (.ref v0), some (.int v1)] (by decide +kernel) rfl (fun z => by cases z) (Nat.le_of_ble_eq_true rfl) ⟨rfl, ⟨rfl, trivial⟩⟩ ?_
  unfold fX9_out at hf
  refine a_iload_n dX9_out_0 rfl rfl ?_
  refine a_iconst (v := nI 0) dX9_out_1 rfl (by decide) ?_
  refine a_aload_n dX9_out_2 rfl rfl ?_
  refine a_getI fl_RX9_79 dX9_out_3 rfl k_v0 rfl ?_
  refine a_iconst (v := nI 1) dX9_out_6 rfl (by decide) ?_
  refine a_isub dX9_out_7 rfl ?_
  obtain ⟨r8, h8, hc8, hf⟩ := am_bind_some hf
  refine a_callS (As := [.int v1, .int (nI 0), .int ((h.1 v0 3) - (nI 1))]) (r1 := (some (.int r8), Γ, h8)) (sX9_outside l hc8) ccX9_outside tw_819 tw_820 ⟨Nat.le_of_ble_eq_true rfl, Nat.le_of_ble_eq_true rfl, Nat.le_of_ble_eq_true rfl, Nat.le_of_ble_eq_true rfl⟩ dX9_out_8 rfl rfl (Nat.le_of_ble_eq_true rfl) rfl rfl (fun hr8 => ?_)
  refine a_if_eq (t := 18) dX9_out_11 rfl rfl hf (fun _ hf => ?_) (fun _ hf => ?_)
  · refine a_aload_n dX9_out_18 rfl rfl ?_
    refine a_getR fl_RX9_13 dX9_out_19 rfl k_v0 rfl (by decide) hf (fun b19 n_b19 _ k_b19 hf => ?_)
    refine a_iload_n dX9_out_22 rfl rfl ?_
    refine a_iald dX9_out_23 rfl k_b19 hf (fun hf => ?_)
    cases hf
    exact a_iret dX9_out_24 rfl rfl rfl (by decide)
  refine a_iconst (v := (-1 : Int32)) dX9_out_14 rfl (by decide) ?_
  refine a_goto (t := 24) dX9_out_15 rfl ?_
  cases hf
  exact a_iret dX9_out_24 rfl rfl rfl (by decide)
set_option maxRecDepth 100000 in
set_option maxHeartbeats 4000000 in
theorem wX9_back_15 (l : Launch) {Γ : Gm} {r : Int32} {h' : AH} : ∀ (z : Nat) (v0 : Nat) (v1 : Int32) (h : AH), ∀ n_v0 : Nat, Γ[v0]? = some (9, n_v0) → fX9_back_15 Γ z v0 v1 h = some (r, h') → AW l mX9_back (some (.int r), Γ, h') 0 0 15 [some (.ref v0), some (.int v1)] [] Γ h := by
  intro z
  induction z with
  | zero => intro v0 v1 h n_v0 k_v0 hf; cases hf
  | succ z ih =>
    intro v0 v1 h n_v0 k_v0 hf
    unfold fX9_back_15 at hf
    refine a_iload_n dX9_back_15 rfl rfl ?_
    refine a_aload_n dX9_back_16 rfl rfl ?_
    refine a_getI fl_RX9_79 dX9_back_17 rfl k_v0 rfl ?_
    refine a_icmp_ge (t := 41) dX9_back_20 rfl rfl hf (fun _ hf => ?_) (fun _ hf => ?_)
    · refine a_aload_n dX9_back_41 rfl rfl ?_
      refine a_aload_n dX9_back_42 rfl rfl ?_
      refine a_getI fl_RX9_79 dX9_back_43 rfl k_v0 rfl ?_
      refine a_putI fp_RX9_68 dX9_back_46 rfl k_v0 rfl hf (fun h46 hf => ?_)
      refine a_aload_n dX9_back_49 rfl rfl ?_
      refine a_getI fl_RX9_68 dX9_back_50 rfl k_v0 rfl ?_
      cases hf
      exact a_iret dX9_back_53 rfl rfl rfl (by decide)
    refine a_aload_n dX9_back_23 rfl rfl ?_
    refine a_getR fl_RX9_9 dX9_back_24 rfl k_v0 rfl (by decide) hf (fun b24 n_b24 _ k_b24 hf => ?_)
    refine a_iload_n dX9_back_27 rfl rfl ?_
    refine a_aload_n dX9_back_28 rfl rfl ?_
    refine a_getR fl_RX9_13 dX9_back_29 rfl k_v0 rfl (by decide) hf (fun b29 n_b29 _ k_b29 hf => ?_)
    refine a_iload_n dX9_back_32 rfl rfl ?_
    refine a_iald dX9_back_33 rfl k_b29 hf (fun hf => ?_)
    refine a_iast dX9_back_34 rfl k_b24 hf (fun h34 hf => ?_)
    refine a_iinc (v := v1 + nI 1) (L' := [some (.ref v0), some (.int (v1 + nI 1))]) dX9_back_35 rfl rfl rfl (Nat.le_of_ble_eq_true rfl) (fun _ _ hv => by cases hv; rfl) rfl ?_
    refine a_goto (t := 15) dX9_back_38 rfl ?_
    exact AW.weak (ih v0 (v1 + nI 1) h34 _ k_v0 hf) ⟨rfl, ⟨rfl, trivial⟩⟩
set_option maxRecDepth 100000 in
set_option maxHeartbeats 4000000 in
theorem sX9_back (l : Launch) {Γ : Gm} {h h' : AH} {v0 : Nat} {r : Int32} {n_v0 : Nat} (k_v0 : Γ[v0]? = some (9, n_v0)) (hf : fX9_back Γ v0 h = some (r, h')) : AR l yX9_back mX9_back [.ref v0] Γ h (some (.int r), Γ, h') := by
  refine AR.of [some (.ref v0), none] (by decide +kernel) rfl (fun z => by cases z) (Nat.le_of_ble_eq_true rfl) ⟨rfl, trivial⟩ ?_
  unfold fX9_back at hf
  refine a_aload_n dX9_back_0 rfl rfl ?_
  refine a_getI fl_RX9_79 dX9_back_1 rfl k_v0 rfl ?_
  refine a_sipush (v := nI 2000) dX9_back_4 rfl (by decide) ?_
  refine a_icmp_le (t := 13) dX9_back_7 rfl rfl hf (fun _ hf => ?_) (fun _ hf => ?_)
  · refine a_iconst (v := nI 0) dX9_back_13 rfl (by decide) ?_
    refine a_istore_n (L' := [some (.ref v0), some (.int (nI 0))]) dX9_back_14 rfl (Nat.le_of_ble_eq_true rfl) (fun _ _ hv => by cases hv; rfl) rfl ?_
    exact AW.weak (wX9_back_15 l am_fuel v0 (nI 0) h _ k_v0 hf) ⟨rfl, ⟨rfl, trivial⟩⟩
  refine a_bipush (v := (-3 : Int32)) dX9_back_10 rfl (by decide) ?_
  cases hf
  exact a_iret dX9_back_12 rfl rfl rfl (by decide)
set_option maxRecDepth 100000 in
set_option maxHeartbeats 4000000 in
theorem wX9_begin_32 (l : Launch) {Γ : Gm} {r : Unit} {h' : AH} {k2 : Nat → Int32 → AH → Option (Unit × AH)} (hk2 : ∀ v0 v1 (h : AH), ∀ n_v0 : Nat, Γ[v0]? = some (9, n_v0) → k2 v0 v1 h = some (r, h') → AW l mX9_begin (none, Γ, h') 0 0 2 [some (.ref v0), some (.int v1)] [] Γ h) (v0 : Nat) (v1 : Int32) (s0 : Nat) (s1 : Int32) (s2 : Int32) (h : AH) : ∀ n_v0 : Nat, Γ[v0]? = some (9, n_v0) → ∀ n_s0 : Nat, Γ[s0]? = some (10, n_s0) → fX9_begin_32 Γ k2 v0 v1 s0 s1 s2 h = some (r, h') → AW l mX9_begin (none, Γ, h') 0 0 32 [some (.ref v0), some (.int v1)] [.int s2, .int s1, .ref s0] Γ h := by
  intro n_v0 k_v0 n_s0 k_s0 hf
  unfold fX9_begin_32 at hf
  refine a_iast dX9_begin_32 rfl k_s0 hf (fun h32 hf => ?_)
  refine a_iinc (v := v1 + nI 1) (L' := [some (.ref v0), some (.int (v1 + nI 1))]) dX9_begin_33 rfl rfl rfl (Nat.le_of_ble_eq_true rfl) (fun _ _ hv => by cases hv; rfl) rfl ?_
  refine a_goto (t := 2) dX9_begin_36 rfl ?_
  exact AW.weak (hk2 v0 (v1 + nI 1) h32 _ k_v0 hf) ⟨rfl, ⟨rfl, trivial⟩⟩
set_option maxRecDepth 100000 in
set_option maxHeartbeats 4000000 in
theorem wX9_begin_2 (l : Launch) {Γ : Gm} {r : Unit} {h' : AH} : ∀ (z : Nat) (v0 : Nat) (v1 : Int32) (h : AH), ∀ n_v0 : Nat, Γ[v0]? = some (9, n_v0) → fX9_begin_2 Γ z v0 v1 h = some (r, h') → AW l mX9_begin (none, Γ, h') 0 0 2 [some (.ref v0), some (.int v1)] [] Γ h := by
  intro z
  induction z with
  | zero => intro v0 v1 h n_v0 k_v0 hf; cases hf
  | succ z ih =>
    intro v0 v1 h n_v0 k_v0 hf
    unfold fX9_begin_2 at hf
    refine a_iload_n dX9_begin_2 rfl rfl ?_
    refine a_sipush (v := nI 2202) dX9_begin_3 rfl (by decide) ?_
    refine a_icmp_ge (t := 39) dX9_begin_6 rfl rfl hf (fun _ hf => ?_) (fun _ hf => ?_)
    · refine a_aload_n dX9_begin_39 rfl rfl ?_
      refine a_getR fl_RX9_32 dX9_begin_40 rfl k_v0 rfl (by decide) hf (fun b40 n_b40 _ k_b40 hf => ?_)
      refine a_sipush (v := nI 1001) dX9_begin_43 rfl (by decide) ?_
      refine a_iconst (v := nI 1) dX9_begin_46 rfl (by decide) ?_
      refine a_iast dX9_begin_47 rfl k_b40 hf (fun h47 hf => ?_)
      cases hf
      exact a_ret dX9_begin_48 rfl rfl rfl
    refine a_aload_n dX9_begin_9 rfl rfl ?_
    refine a_getR fl_RX9_32 dX9_begin_10 rfl k_v0 rfl (by decide) hf (fun b10 n_b10 _ k_b10 hf => ?_)
    refine a_iload_n dX9_begin_13 rfl rfl ?_
    refine a_iload_n dX9_begin_14 rfl rfl ?_
    refine a_aload_n dX9_begin_15 rfl rfl ?_
    refine a_getI fl_RX9_82 dX9_begin_16 rfl k_v0 rfl ?_
    refine a_icmp_ge (t := 31) dX9_begin_19 rfl rfl hf (fun _ hf => ?_) (fun _ hf => ?_)
    · refine a_iconst (v := nI 0) dX9_begin_31 rfl (by decide) ?_
      exact AW.weak (wX9_begin_32 l ih v0 v1 b10 v1 (nI 0) h _ k_v0 _ k_b10 hf) ⟨rfl, ⟨rfl, trivial⟩⟩
    refine a_aload_n dX9_begin_22 rfl rfl ?_
    refine a_getR fl_RX9_29 dX9_begin_23 rfl k_v0 rfl (by decide) hf (fun b23 n_b23 _ k_b23 hf => ?_)
    refine a_iload_n dX9_begin_26 rfl rfl ?_
    refine a_iald dX9_begin_27 rfl k_b23 hf (fun hf => ?_)
    refine a_goto (t := 32) dX9_begin_28 rfl ?_
    exact AW.weak (wX9_begin_32 l ih v0 v1 b10 v1 (h.1 b23 v1.toNatClampNeg) h _ k_v0 _ k_b10 hf) ⟨rfl, ⟨rfl, trivial⟩⟩
set_option maxRecDepth 100000 in
set_option maxHeartbeats 4000000 in
theorem sX9_begin (l : Launch) {Γ : Gm} {h h' : AH} {v0 : Nat} {r : Unit} {n_v0 : Nat} (k_v0 : Γ[v0]? = some (9, n_v0)) (hf : fX9_begin Γ v0 h = some (r, h')) : AR l yX9_begin mX9_begin [.ref v0] Γ h (none, Γ, h') := by
  refine AR.of [some (.ref v0), none] (by decide +kernel) rfl (fun z => by cases z) (Nat.le_of_ble_eq_true rfl) ⟨rfl, trivial⟩ ?_
  unfold fX9_begin at hf
  refine a_iconst (v := nI 0) dX9_begin_0 rfl (by decide) ?_
  refine a_istore_n (L' := [some (.ref v0), some (.int (nI 0))]) dX9_begin_1 rfl (Nat.le_of_ble_eq_true rfl) (fun _ _ hv => by cases hv; rfl) rfl ?_
  exact AW.weak (wX9_begin_2 l am_fuel v0 (nI 0) h _ k_v0 hf) ⟨rfl, ⟨rfl, trivial⟩⟩
