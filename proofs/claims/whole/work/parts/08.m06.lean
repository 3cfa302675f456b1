set_option maxRecDepth 100000 in
set_option maxHeartbeats 4000000 in
theorem wX3_readContents_87 (l : Launch) {Γ : Gm} {r : Int32} {h' : AH} (v0 : Nat) (v1 : Int32) (v3 : Nat) (v5 : Int32) (h : AH) : ∀ n_v0 : Nat, Γ[v0]? = some (3, n_v0) → ∀ n_v3 : Nat, Γ[v3]? = some (4, n_v3) → fX3_readContents_87 Γ v0 v1 v3 v5 h = some (r, h') → AW l mX3_readContents (some (.int r), Γ, h') 0 0 87 [some (.ref v0), some (.int v1), none, some (.ref v3), none, some (.int v5), none] [] Γ h := by
  intro n_v0 k_v0 n_v3 k_v3 hf
  unfold fX3_readContents_87 at hf
  refine a_aload_n dX3_readContents_87 rfl rfl ?_
  refine a_getI fl_RX3_24 dX3_readContents_88 rfl k_v0 rfl ?_
  refine a_if_eq (t := 98) dX3_readContents_91 rfl rfl hf (fun _ hf => ?_) (fun _ hf => ?_)
  · refine a_aload_n dX3_readContents_98 rfl rfl ?_
    refine a_iload dX3_readContents_99 rfl rfl ?_
    refine a_iload_n dX3_readContents_101 rfl rfl ?_
    refine a_aload_n dX3_readContents_102 rfl rfl ?_
    obtain ⟨r103, h103, hc103, hf⟩ := am_bind_some hf
    refine a_callV (As := [.int v5, .int v1, .ref v3]) (r1 := (some (.int r103), Γ, h103)) (sX3_readMemory l k_v0 k_v3 hc103) ccX3_readMemory tw_575 tw_577 tp_6 (ci := 3) rfl (by decide) ⟨Nat.le_of_ble_eq_true rfl, Nat.le_of_ble_eq_true rfl, Nat.le_of_ble_eq_true rfl, Nat.le_of_ble_eq_true rfl⟩ dX3_readContents_103 rfl k_v0 rfl (Nat.le_of_ble_eq_true rfl) rfl rfl (fun hr103 => ?_)
    cases hf
    exact a_iret dX3_readContents_106 rfl rfl rfl (by decide)
  refine a_iconst (v := (0 : Int32)) dX3_readContents_94 rfl (by decide) ?_
  refine a_goto (t := 106) dX3_readContents_95 rfl ?_
  cases hf
  exact a_iret dX3_readContents_106 rfl rfl rfl (by decide)
set_option maxRecDepth 100000 in
set_option maxHeartbeats 4000000 in
theorem sX3_readContents (l : Launch) {Γ : Gm} {h h' : AH} {v0 : Nat} {v1 : Int32} {v2 : Nat} {v3 : Nat} {v4 : Nat} {r : Int32} {n_v0 : Nat} (k_v0 : Γ[v0]? = some (3, n_v0)) {n_v2 : Nat} (k_v2 : Γ[v2]? = some (5, n_v2)) {n_v3 : Nat} (k_v3 : Γ[v3]? = some (4, n_v3)) {n_v4 : Nat} (k_v4 : Γ[v4]? = some (6, n_v4)) (hf : fX3_readContents Γ v0 v1 v2 v3 v4 h = some (r, h')) : AR l yX3_readContents mX3_readContents [.ref v0, .int v1, .ref v2, .ref v3, .ref v4] Γ h (some (.int r), Γ, h') := by
  refine AR.of [some (.ref v0), some (.int v1), some (.ref v2), some (.ref v3), some (.ref v4), none, none] (by decide +kernel) rfl (fun z => by cases z) (Nat.le_of_ble_eq_true rfl) ⟨rfl, ⟨rfl, ⟨rfl, ⟨rfl, ⟨rfl, trivial⟩⟩⟩⟩⟩ ?_
  unfold fX3_readContents at hf
  refine a_aload_n dX3_readContents_0 rfl rfl ?_
  refine a_getR fl_RX3_14 dX3_readContents_1 rfl k_v0 rfl (by decide) hf (fun b1 n_b1 _ k_b1 hf => ?_)
  refine a_aload_n dX3_readContents_4 rfl rfl ?_
  refine a_getI fl_RX3_30 dX3_readContents_5 rfl k_v0 rfl ?_
  refine a_iconst (v := (4 : Int32)) dX3_readContents_8 rfl (by decide) ?_
  obtain ⟨r9, h9, hc9, hf⟩ := am_bind_some hf
  refine a_callV (As := [.int (h.1 v0 4), .int ((4 : Int32))]) (r1 := (some (.int r9), Γ, h9)) (sX0_number l k_b1 hc9) ccX0_number tw_551 tw_552 tw_553 (ci := 0) rfl (by decide) ⟨Nat.le_of_ble_eq_true rfl, Nat.le_of_ble_eq_true rfl, Nat.le_of_ble_eq_true rfl, Nat.le_of_ble_eq_true rfl⟩ dX3_readContents_9 rfl k_b1 rfl (Nat.le_of_ble_eq_true rfl) rfl rfl (fun hr9 => ?_)
  refine a_istore (L' := [some (.ref v0), some (.int v1), some (.ref v2), some (.ref v3), some (.ref v4), some (.int r9), none]) dX3_readContents_12 rfl (Nat.le_of_ble_eq_true rfl) (fun _ _ hv => by cases hv; rfl) rfl ?_
  refine a_aload_n dX3_readContents_14 rfl rfl ?_
  refine a_getI fl_RX3_30 dX3_readContents_15 rfl k_v0 rfl ?_
  refine a_bipush (v := (8 : Int32)) dX3_readContents_18 rfl (by decide) ?_
  refine a_iadd dX3_readContents_20 rfl ?_
  refine a_nmI hf (fun x21 hf => ?_)
  refine a_istore (L' := [some (.ref v0), some (.int v1), some (.ref v2), some (.ref v3), some (.ref v4), some (.int r9), some (.int x21)]) dX3_readContents_21 rfl (Nat.le_of_ble_eq_true rfl) (fun _ _ hv => by cases hv; rfl) rfl ?_
  refine a_iload dX3_readContents_23 rfl rfl ?_
  refine am_if hf (fun hx hf => ?_) (fun hx0 hf => ?_)
  · refine a_lsw (off := 62) (t := 87) dX3_readContents_25 (by decide) (by rw [hx]; decide) rfl ?_
    exact AW.weak (wX3_readContents_87 l v0 v1 v3 r9 h9 _ k_v0 _ k_v3 hf) ⟨rfl, ⟨rfl, ⟨rfl, ⟨rfl, trivial⟩⟩⟩⟩
  refine am_if hf (fun hx hf => ?_) (fun hx1 hf => ?_)
  · refine a_lsw (off := 43) (t := 68) dX3_readContents_25 (by decide) (by rw [hx]; decide) rfl ?_
    refine a_aload_n dX3_readContents_68 rfl rfl ?_
    refine a_getI fl_RX3_20 dX3_readContents_69 rfl k_v0 rfl ?_
    refine a_if_eq (t := 79) dX3_readContents_72 rfl rfl hf (fun _ hf => ?_) (fun _ hf => ?_)
    · refine a_aload_n dX3_readContents_79 rfl rfl ?_
      refine a_iload_n dX3_readContents_80 rfl rfl ?_
      refine a_aload_n dX3_readContents_81 rfl rfl ?_
      refine a_aload_n dX3_readContents_82 rfl rfl ?_
      obtain ⟨r83, h83, hc83, hf⟩ := am_bind_some hf
      refine a_callV (As := [.int v1, .ref v2, .ref v3]) (r1 := (some (.int r83), Γ, h83)) (sX3_readHead l k_v0 k_v2 k_v3 hc83) ccX3_readHead tw_567 tw_569 tp_5 (ci := 3) rfl (by decide) ⟨Nat.le_of_ble_eq_true rfl, Nat.le_of_ble_eq_true rfl, Nat.le_of_ble_eq_true rfl, Nat.le_of_ble_eq_true rfl⟩ dX3_readContents_83 rfl k_v0 rfl (Nat.le_of_ble_eq_true rfl) rfl rfl (fun hr83 => ?_)
      cases hf
      exact a_iret dX3_readContents_86 rfl rfl rfl (by decide)
    refine a_iconst (v := (0 : Int32)) dX3_readContents_75 rfl (by decide) ?_
    refine a_goto (t := 86) dX3_readContents_76 rfl ?_
    cases hf
    exact a_iret dX3_readContents_86 rfl rfl rfl (by decide)
  refine am_if hf (fun hx hf => ?_) (fun hx2 hf => ?_)
  · refine a_lsw (off := 82) (t := 107) dX3_readContents_25 (by decide) (by rw [hx]; decide) rfl ?_
    refine a_aload_n dX3_readContents_107 rfl rfl ?_
    refine a_getI fl_RX3_27 dX3_readContents_108 rfl k_v0 rfl ?_
    refine a_if_eq (t := 116) dX3_readContents_111 rfl rfl hf (fun _ hf => ?_) (fun _ hf => ?_)
    · refine a_aload_n dX3_readContents_116 rfl rfl ?_
      refine a_iconst (v := (1 : Int32)) dX3_readContents_117 rfl (by decide) ?_
      refine a_putZ fp_RX3_27 dX3_readContents_118 rfl k_v0 rfl (by decide) hf (fun h118 hf => ?_)
      refine a_aload_n dX3_readContents_121 rfl rfl ?_
      refine a_aload_n dX3_readContents_122 rfl rfl ?_
      refine a_getR fl_RX3_14 dX3_readContents_123 rfl k_v0 rfl (by decide) hf (fun b123 n_b123 _ k_b123 hf => ?_)
      refine a_iload dX3_readContents_126 rfl rfl ?_
      refine a_iload dX3_readContents_128 rfl rfl ?_
      refine a_iload_n dX3_readContents_130 rfl rfl ?_
      refine a_iadd dX3_readContents_131 rfl ?_
      obtain ⟨r132, h132, hc132, hf⟩ := am_bind_some hf
      refine a_callV (As := [.ref b123, .int x21, .int (x21 + v1)]) (r1 := (some (.int r132), Γ, h132)) (sX4_takeFrames l k_v3 k_b123 hc132) ccX4_takeFrames tw_590 tw_591 tw_592 (ci := 4) rfl (by decide) ⟨Nat.le_of_ble_eq_true rfl, Nat.le_of_ble_eq_true rfl, Nat.le_of_ble_eq_true rfl, Nat.le_of_ble_eq_true rfl⟩ dX3_readContents_132 rfl k_v3 rfl (Nat.le_of_ble_eq_true rfl) rfl rfl (fun hr132 => ?_)
      cases hf
      exact a_iret dX3_readContents_135 rfl rfl rfl (by decide)
    refine a_iconst (v := (0 : Int32)) dX3_readContents_114 rfl (by decide) ?_
    cases hf
    exact a_iret dX3_readContents_115 rfl rfl rfl (by decide)
  refine am_if hf (fun hx hf => ?_) (fun hx3 hf => ?_)
  · refine a_lsw (off := 62) (t := 87) dX3_readContents_25 (by decide) (by rw [hx]; decide) rfl ?_
    exact AW.weak (wX3_readContents_87 l v0 v1 v3 r9 h9 _ k_v0 _ k_v3 hf) ⟨rfl, ⟨rfl, ⟨rfl, ⟨rfl, trivial⟩⟩⟩⟩
  refine a_lsw (off := 111) (t := 136) dX3_readContents_25 (by decide) (by show Op.lookupswitch.offset [(1129145709, 62), (1229351012, 43), (1400138611, 82), (1431135597, 62)] 111 _ = _; rw [lv_osw hx0 (by decide), lv_osw hx1 (by decide), lv_osw hx2 (by decide), lv_osw hx3 (by decide)]; rfl) rfl ?_
  refine a_aload dX3_readContents_136 rfl rfl ?_
  refine a_iload dX3_readContents_138 rfl rfl ?_
  refine a_aload_n dX3_readContents_140 rfl rfl ?_
  refine a_getR fl_RX3_14 dX3_readContents_141 rfl k_v0 rfl (by decide) hf (fun b141 n_b141 _ k_b141 hf => ?_)
  refine a_iload dX3_readContents_144 rfl rfl ?_
  refine a_iload_n dX3_readContents_146 rfl rfl ?_
  obtain ⟨r147, h147, hc147, hf⟩ := am_bind_some hf
  refine a_callV (As := [.int r9, .ref b141, .int x21, .int v1]) (r1 := (some (.int r147), Γ, h147)) (sX6_add l k_v4 k_b141 hc147) ccX6_add tw_618 tw_619 tw_620 (ci := 6) rfl (by decide) ⟨Nat.le_of_ble_eq_true rfl, Nat.le_of_ble_eq_true rfl, Nat.le_of_ble_eq_true rfl, Nat.le_of_ble_eq_true rfl⟩ dX3_readContents_147 rfl k_v4 rfl (Nat.le_of_ble_eq_true rfl) rfl rfl (fun hr147 => ?_)
  refine a_if_eq (t := 157) dX3_readContents_150 rfl rfl hf (fun _ hf => ?_) (fun _ hf => ?_)
  · refine a_bipush (v := (9 : Int32)) dX3_readContents_157 rfl (by decide) ?_
    refine a_aload_n dX3_readContents_159 rfl rfl ?_
    refine a_getI fl_RX3_30 dX3_readContents_160 rfl k_v0 rfl ?_
    obtain ⟨r163, h163, hc163, hf⟩ := am_bind_some hf
    refine a_callSN (As := [.int ((9 : Int32)), .int (h147.1 v0 4)]) (r1 := (some (.int r163), Γ, h163)) (sX8_fault l hc163) ccX8_fault tn_548 tw_549 ⟨Nat.le_of_ble_eq_true rfl, Nat.le_of_ble_eq_true rfl, Nat.le_of_ble_eq_true rfl, Nat.le_of_ble_eq_true rfl⟩ dX3_readContents_163 rfl rfl (Nat.le_of_ble_eq_true rfl) rfl rfl (fun hr163 => ?_)
    cases hf
    exact a_iret dX3_readContents_166 rfl rfl rfl (by decide)
  refine a_iconst (v := (0 : Int32)) dX3_readContents_153 rfl (by decide) ?_
  refine a_goto (t := 166) dX3_readContents_154 rfl ?_
  cases hf
  exact a_iret dX3_readContents_166 rfl rfl rfl (by decide)
set_option maxRecDepth 100000 in
set_option maxHeartbeats 4000000 in
theorem sX3_frontFault (l : Launch) {Γ : Gm} {h h' : AH} {v0 : Nat} {r : Int32} {n_v0 : Nat} (k_v0 : Γ[v0]? = some (3, n_v0)) (hf : fX3_frontFault Γ v0 h = some (r, h')) : AR l yX3_frontFault mX3_frontFault [.ref v0] Γ h (some (.int r), Γ, h') := by
  refine AR.of [some (.ref v0)] (by decide +kernel) rfl (fun z => by cases z) (Nat.le_of_ble_eq_true rfl) ⟨rfl, trivial⟩ ?_
  unfold fX3_frontFault at hf
  refine a_aload_n dX3_frontFault_0 rfl rfl ?_
  refine a_getR fl_RX3_14 dX3_frontFault_1 rfl k_v0 rfl (by decide) hf (fun b1 n_b1 _ k_b1 hf => ?_)
  refine a_getI fl_RX3_49 dX3_frontFault_4 rfl k_b1 rfl ?_
  refine a_bipush (v := (12 : Int32)) dX3_frontFault_7 rfl (by decide) ?_
  refine a_icmp_ge (t := 24) dX3_frontFault_9 rfl rfl hf (fun _ hf => ?_) (fun _ hf => ?_)
  · refine a_aload_n dX3_frontFault_24 rfl rfl ?_
    refine a_getR fl_RX3_14 dX3_frontFault_25 rfl k_v0 rfl (by decide) hf (fun b25 n_b25 _ k_b25 hf => ?_)
    refine a_iconst (v := (0 : Int32)) dX3_frontFault_28 rfl (by decide) ?_
    refine a_iconst (v := (4 : Int32)) dX3_frontFault_29 rfl (by decide) ?_
    obtain ⟨r30, h30, hc30, hf⟩ := am_bind_some hf
    refine a_callV (As := [.int ((0 : Int32)), .int ((4 : Int32))]) (r1 := (some (.int r30), Γ, h30)) (sX0_number l k_b25 hc30) ccX0_number tw_551 tw_552 tw_553 (ci := 0) rfl (by decide) ⟨Nat.le_of_ble_eq_true rfl, Nat.le_of_ble_eq_true rfl, Nat.le_of_ble_eq_true rfl, Nat.le_of_ble_eq_true rfl⟩ dX3_frontFault_30 rfl k_b25 rfl (Nat.le_of_ble_eq_true rfl) rfl rfl (fun hr30 => ?_)
    refine a_ldc (v := (1179603533 : Int32)) dX3_frontFault_33 rfl tw_556 ?_
    refine a_icmp_eq (t := 44) dX3_frontFault_35 rfl rfl hf (fun _ hf => ?_) (fun _ hf => ?_)
    · refine a_aload_n dX3_frontFault_44 rfl rfl ?_
      refine a_getR fl_RX3_14 dX3_frontFault_45 rfl k_v0 rfl (by decide) hf (fun b45 n_b45 _ k_b45 hf => ?_)
      refine a_iconst (v := (4 : Int32)) dX3_frontFault_48 rfl (by decide) ?_
      refine a_iconst (v := (4 : Int32)) dX3_frontFault_49 rfl (by decide) ?_
      obtain ⟨r50, h50, hc50, hf⟩ := am_bind_some hf
      refine a_callV (As := [.int ((4 : Int32)), .int ((4 : Int32))]) (r1 := (some (.int r50), Γ, h50)) (sX0_number l k_b45 hc50) ccX0_number tw_551 tw_552 tw_553 (ci := 0) rfl (by decide) ⟨Nat.le_of_ble_eq_true rfl, Nat.le_of_ble_eq_true rfl, Nat.le_of_ble_eq_true rfl, Nat.le_of_ble_eq_true rfl⟩ dX3_frontFault_50 rfl k_b45 rfl (Nat.le_of_ble_eq_true rfl) rfl rfl (fun hr50 => ?_)
      refine a_aload_n dX3_frontFault_53 rfl rfl ?_
      refine a_getR fl_RX3_14 dX3_frontFault_54 rfl k_v0 rfl (by decide) hf (fun b54 n_b54 _ k_b54 hf => ?_)
      refine a_getI fl_RX3_49 dX3_frontFault_57 rfl k_b54 rfl ?_
      refine a_bipush (v := (8 : Int32)) dX3_frontFault_60 rfl (by decide) ?_
      refine a_isub dX3_frontFault_62 rfl ?_
      refine a_icmp_eq (t := 72) dX3_frontFault_63 rfl rfl hf (fun _ hf => ?_) (fun _ hf => ?_)
      · refine a_aload_n dX3_frontFault_72 rfl rfl ?_
        refine a_getR fl_RX3_14 dX3_frontFault_73 rfl k_v0 rfl (by decide) hf (fun b73 n_b73 _ k_b73 hf => ?_)
        refine a_bipush (v := (8 : Int32)) dX3_frontFault_76 rfl (by decide) ?_
        refine a_iconst (v := (4 : Int32)) dX3_frontFault_78 rfl (by decide) ?_
        obtain ⟨r79, h79, hc79, hf⟩ := am_bind_some hf
        refine a_callV (As := [.int ((8 : Int32)), .int ((4 : Int32))]) (r1 := (some (.int r79), Γ, h79)) (sX0_number l k_b73 hc79) ccX0_number tw_551 tw_552 tw_553 (ci := 0) rfl (by decide) ⟨Nat.le_of_ble_eq_true rfl, Nat.le_of_ble_eq_true rfl, Nat.le_of_ble_eq_true rfl, Nat.le_of_ble_eq_true rfl⟩ dX3_frontFault_79 rfl k_b73 rfl (Nat.le_of_ble_eq_true rfl) rfl rfl (fun hr79 => ?_)
        refine a_ldc (v := (1229347411 : Int32)) dX3_frontFault_82 rfl tw_557 ?_
        refine a_icmp_eq (t := 96) dX3_frontFault_84 rfl rfl hf (fun _ hf => ?_) (fun _ hf => ?_)
        · refine a_iconst (v := (0 : Int32)) dX3_frontFault_96 rfl (by decide) ?_
          cases hf
          exact a_iret dX3_frontFault_97 rfl rfl rfl (by decide)
        refine a_iconst (v := (2 : Int32)) dX3_frontFault_87 rfl (by decide) ?_
        refine a_bipush (v := (8 : Int32)) dX3_frontFault_88 rfl (by decide) ?_
        obtain ⟨r90, h90, hc90, hf⟩ := am_bind_some hf
        refine a_callSN (As := [.int ((2 : Int32)), .int ((8 : Int32))]) (r1 := (some (.int r90), Γ, h90)) (sX8_fault l hc90) ccX8_fault tn_548 tw_549 ⟨Nat.le_of_ble_eq_true rfl, Nat.le_of_ble_eq_true rfl, Nat.le_of_ble_eq_true rfl, Nat.le_of_ble_eq_true rfl⟩ dX3_frontFault_90 rfl rfl (Nat.le_of_ble_eq_true rfl) rfl rfl (fun hr90 => ?_)
        refine a_goto (t := 97) dX3_frontFault_93 rfl ?_
        cases hf
        exact a_iret dX3_frontFault_97 rfl rfl rfl (by decide)
      refine a_iconst (v := (3 : Int32)) dX3_frontFault_66 rfl (by decide) ?_
      refine a_iconst (v := (4 : Int32)) dX3_frontFault_67 rfl (by decide) ?_
      obtain ⟨r68, h68, hc68, hf⟩ := am_bind_some hf
      refine a_callSN (As := [.int ((3 : Int32)), .int ((4 : Int32))]) (r1 := (some (.int r68), Γ, h68)) (sX8_fault l hc68) ccX8_fault tn_548 tw_549 ⟨Nat.le_of_ble_eq_true rfl, Nat.le_of_ble_eq_true rfl, Nat.le_of_ble_eq_true rfl, Nat.le_of_ble_eq_true rfl⟩ dX3_frontFault_68 rfl rfl (Nat.le_of_ble_eq_true rfl) rfl rfl (fun hr68 => ?_)
      cases hf
      exact a_iret dX3_frontFault_71 rfl rfl rfl (by decide)
    refine a_iconst (v := (2 : Int32)) dX3_frontFault_38 rfl (by decide) ?_
    refine a_iconst (v := (0 : Int32)) dX3_frontFault_39 rfl (by decide) ?_
    obtain ⟨r40, h40, hc40, hf⟩ := am_bind_some hf
    refine a_callSN (As := [.int ((2 : Int32)), .int ((0 : Int32))]) (r1 := (some (.int r40), Γ, h40)) (sX8_fault l hc40) ccX8_fault tn_548 tw_549 ⟨Nat.le_of_ble_eq_true rfl, Nat.le_of_ble_eq_true rfl, Nat.le_of_ble_eq_true rfl, Nat.le_of_ble_eq_true rfl⟩ dX3_frontFault_40 rfl rfl (Nat.le_of_ble_eq_true rfl) rfl rfl (fun hr40 => ?_)
    cases hf
    exact a_iret dX3_frontFault_43 rfl rfl rfl (by decide)
  refine a_iconst (v := (1 : Int32)) dX3_frontFault_12 rfl (by decide) ?_
  refine a_aload_n dX3_frontFault_13 rfl rfl ?_
  refine a_getR fl_RX3_14 dX3_frontFault_14 rfl k_v0 rfl (by decide) hf (fun b14 n_b14 _ k_b14 hf => ?_)
  refine a_getI fl_RX3_49 dX3_frontFault_17 rfl k_b14 rfl ?_
  obtain ⟨r20, h20, hc20, hf⟩ := am_bind_some hf
  refine a_callSN (As := [.int ((1 : Int32)), .int (h.1 b14 1)]) (r1 := (some (.int r20), Γ, h20)) (sX8_fault l hc20) ccX8_fault tn_548 tw_549 ⟨Nat.le_of_ble_eq_true rfl, Nat.le_of_ble_eq_true rfl, Nat.le_of_ble_eq_true rfl, Nat.le_of_ble_eq_true rfl⟩ dX3_frontFault_20 rfl rfl (Nat.le_of_ble_eq_true rfl) rfl rfl (fun hr20 => ?_)
  cases hf
  exact a_iret dX3_frontFault_23 rfl rfl rfl (by decide)
set_option maxRecDepth 100000 in
set_option maxHeartbeats 4000000 in
theorem wX3_readFor_155 (l : Launch) {Γ : Gm} {r : Int32} {h' : AH} (v0 : Nat) (v4 : Int32) (s0 : Int32) (h : AH) : ∀ n_v0 : Nat, Γ[v0]? = some (3, n_v0) → fX3_readFor_155 Γ v0 v4 s0 h = some (r, h') → AW l mX3_readFor (some (.int r), Γ, h') 0 0 155 [some (.ref v0), none, none, none, some (.int v4), some (.int s0), none] [] Γ h := by
  intro n_v0 k_v0 hf
  unfold fX3_readFor_155 at hf
  refine a_istore (L' := [some (.ref v0), none, none, none, some (.int v4), some (.int s0), none]) dX3_readFor_155 rfl (Nat.le_of_ble_eq_true rfl) (fun _ _ hv => by cases hv; rfl) rfl ?_
  refine a_iload dX3_readFor_157 rfl rfl ?_
  refine a_if_ne (t := 182) dX3_readFor_159 rfl rfl hf (fun _ hf => ?_) (fun _ hf => ?_)
  · refine a_iload dX3_readFor_162 rfl rfl ?_
    refine a_if_ne (t := 182) dX3_readFor_164 rfl rfl hf (fun _ hf => ?_) (fun _ hf => ?_)
    · refine a_bipush (v := (10 : Int32)) dX3_readFor_167 rfl (by decide) ?_
      refine a_aload_n dX3_readFor_169 rfl rfl ?_
      refine a_getR fl_RX3_14 dX3_readFor_170 rfl k_v0 rfl (by decide) hf (fun b170 n_b170 _ k_b170 hf => ?_)
      refine a_getI fl_RX3_49 dX3_readFor_173 rfl k_b170 rfl ?_
      obtain ⟨r176, h176, hc176, hf⟩ := am_bind_some hf
      refine a_callSN (As := [.int ((10 : Int32)), .int (h.1 b170 1)]) (r1 := (some (.int r176), Γ, h176)) (sX8_fault l hc176) ccX8_fault tn_548 tw_549 ⟨Nat.le_of_ble_eq_true rfl, Nat.le_of_ble_eq_true rfl, Nat.le_of_ble_eq_true rfl, Nat.le_of_ble_eq_true rfl⟩ dX3_readFor_176 rfl rfl (Nat.le_of_ble_eq_true rfl) rfl rfl (fun hr176 => ?_)
      refine a_goto (t := 184) dX3_readFor_179 rfl ?_
      cases hf
      exact a_iret dX3_readFor_184 rfl rfl rfl (by decide)
    refine a_iload dX3_readFor_182 rfl rfl ?_
    cases hf
    exact a_iret dX3_readFor_184 rfl rfl rfl (by decide)
  refine a_iload dX3_readFor_182 rfl rfl ?_
  cases hf
  exact a_iret dX3_readFor_184 rfl rfl rfl (by decide)
set_option maxRecDepth 100000 in
set_option maxHeartbeats 4000000 in
theorem wX3_readFor_154 (l : Launch) {Γ : Gm} {r : Int32} {h' : AH} (v0 : Nat) (v4 : Int32) (h : AH) : ∀ n_v0 : Nat, Γ[v0]? = some (3, n_v0) → fX3_readFor_154 Γ v0 v4 h = some (r, h') → AW l mX3_readFor (some (.int r), Γ, h') 0 0 154 [some (.ref v0), none, none, none, some (.int v4), none, none] [.int ((0 : Int32))] Γ h := by
  intro n_v0 k_v0 hf
  unfold fX3_readFor_154 at hf
  refine a_iconst (v := (0 : Int32)) dX3_readFor_154 rfl (by decide) ?_
  exact AW.weak (wX3_readFor_155 l v0 v4 ((0 : Int32)) h _ k_v0 hf) ⟨rfl, ⟨rfl, trivial⟩⟩
set_option maxRecDepth 100000 in
set_option maxHeartbeats 4000000 in
theorem wX3_readFor_129 (l : Launch) {Γ : Gm} {r : Int32} {h' : AH} (v0 : Nat) (v4 : Int32) (h : AH) : ∀ n_v0 : Nat, Γ[v0]? = some (3, n_v0) → fX3_readFor_129 Γ v0 v4 h = some (r, h') → AW l mX3_readFor (some (.int r), Γ, h') 0 0 129 [some (.ref v0), none, none, none, some (.int v4), none, none] [] Γ h := by
  intro n_v0 k_v0 hf
  unfold fX3_readFor_129 at hf
  refine a_aload_n dX3_readFor_129 rfl rfl ?_
  refine a_getI fl_RX3_20 dX3_readFor_130 rfl k_v0 rfl ?_
  refine a_if_eq (t := 154) dX3_readFor_133 rfl rfl hf (fun _ hf => ?_) (fun _ hf => ?_)
  · exact AW.weak (wX3_readFor_154 l v0 v4 h _ k_v0 hf) ⟨rfl, ⟨rfl, trivial⟩⟩
  refine a_aload_n dX3_readFor_136 rfl rfl ?_
  refine a_getI fl_RX3_24 dX3_readFor_137 rfl k_v0 rfl ?_
  refine a_if_eq (t := 154) dX3_readFor_140 rfl rfl hf (fun _ hf => ?_) (fun _ hf => ?_)
  · exact AW.weak (wX3_readFor_154 l v0 v4 h _ k_v0 hf) ⟨rfl, ⟨rfl, trivial⟩⟩
  refine a_aload_n dX3_readFor_143 rfl rfl ?_
  refine a_getI fl_RX3_27 dX3_readFor_144 rfl k_v0 rfl ?_
  refine a_if_eq (t := 154) dX3_readFor_147 rfl rfl hf (fun _ hf => ?_) (fun _ hf => ?_)
  · exact AW.weak (wX3_readFor_154 l v0 v4 h _ k_v0 hf) ⟨rfl, ⟨rfl, trivial⟩⟩
  refine a_iconst (v := (1 : Int32)) dX3_readFor_150 rfl (by decide) ?_
  refine a_goto (t := 155) dX3_readFor_151 rfl ?_
  exact AW.weak (wX3_readFor_155 l v0 v4 ((1 : Int32)) h _ k_v0 hf) ⟨rfl, ⟨rfl, trivial⟩⟩
set_option maxRecDepth 100000 in
set_option maxHeartbeats 4000000 in
theorem wX3_readFor_123 (l : Launch) {Γ : Gm} {r : Int32} {h' : AH} {k39 : Nat → Nat → Nat → Nat → Int32 → Int32 → AH → Option (Int32 × AH)} (hk39 : ∀ v0 v1 v2 v3 v4 v5 (h : AH), ∀ n_v0 : Nat, Γ[v0]? = some (3, n_v0) → ∀ n_v1 : Nat, Γ[v1]? = some (5, n_v1) → ∀ n_v2 : Nat, Γ[v2]? = some (4, n_v2) → ∀ n_v3 : Nat, Γ[v3]? = some (6, n_v3) → k39 v0 v1 v2 v3 v4 v5 h = some (r, h') → AW l mX3_readFor (some (.int r), Γ, h') 0 0 39 [some (.ref v0), some (.ref v1), some (.ref v2), some (.ref v3), some (.int v4), some (.int v5), none] [] Γ h) (v0 : Nat) (v1 : Nat) (v2 : Nat) (v3 : Nat) (v4 : Int32) (v5 : Int32) (h : AH) : ∀ n_v0 : Nat, Γ[v0]? = some (3, n_v0) → ∀ n_v1 : Nat, Γ[v1]? = some (5, n_v1) → ∀ n_v2 : Nat, Γ[v2]? = some (4, n_v2) → ∀ n_v3 : Nat, Γ[v3]? = some (6, n_v3) → fX3_readFor_123 Γ k39 v0 v1 v2 v3 v4 v5 h = some (r, h') → AW l mX3_readFor (some (.int r), Γ, h') 0 0 123 [some (.ref v0), some (.ref v1), some (.ref v2), some (.ref v3), some (.int v4), some (.int (v5 + (1 : Int32))), none] [] Γ h := by
  intro n_v0 k_v0 n_v1 k_v1 n_v2 k_v2 n_v3 k_v3 hf
  unfold fX3_readFor_123 at hf
  refine a_iinc (v := v5 + (1 : Int32)) (L' := [some (.ref v0), some (.ref v1), some (.ref v2), some (.ref v3), some (.int v4), some (.int (v5 + (1 : Int32))), none]) dX3_readFor_123 rfl rfl rfl (Nat.le_of_ble_eq_true rfl) (fun _ _ hv => by cases hv; rfl) rfl ?_
  refine a_goto (t := 39) dX3_readFor_126 rfl ?_
  exact AW.weak (hk39 v0 v1 v2 v3 v4 (v5 + (1 : Int32)) h _ k_v0 _ k_v1 _ k_v2 _ k_v3 hf) ⟨rfl, ⟨rfl, ⟨rfl, ⟨rfl, ⟨rfl, ⟨rfl, trivial⟩⟩⟩⟩⟩⟩
set_option maxRecDepth 100000 in
set_option maxHeartbeats 4000000 in
theorem wX3_readFor_39 (l : Launch) {Γ : Gm} {r : Int32} {h' : AH} : ∀ (z : Nat) (v0 : Nat) (v1 : Nat) (v2 : Nat) (v3 : Nat) (v4 : Int32) (v5 : Int32) (h : AH), ∀ n_v0 : Nat, Γ[v0]? = some (3, n_v0) → ∀ n_v1 : Nat, Γ[v1]? = some (5, n_v1) → ∀ n_v2 : Nat, Γ[v2]? = some (4, n_v2) → ∀ n_v3 : Nat, Γ[v3]? = some (6, n_v3) → fX3_readFor_39 Γ z v0 v1 v2 v3 v4 v5 h = some (r, h') → AW l mX3_readFor (some (.int r), Γ, h') 0 0 39 [some (.ref v0), some (.ref v1), some (.ref v2), some (.ref v3), some (.int v4), some (.int v5), none] [] Γ h := by
  intro z
  induction z with
  | zero => intro v0 v1 v2 v3 v4 v5 h n_v0 k_v0 n_v1 k_v1 n_v2 k_v2 n_v3 k_v3 hf; cases hf
  | succ z ih =>
    intro v0 v1 v2 v3 v4 v5 h n_v0 k_v0 n_v1 k_v1 n_v2 k_v2 n_v3 k_v3 hf
    unfold fX3_readFor_39 at hf
    refine a_iload dX3_readFor_39 rfl rfl ?_
    refine a_sipush (v := (250 : Int32)) dX3_readFor_41 rfl (by decide) ?_
    refine a_icmp_ge (t := 129) dX3_readFor_44 rfl rfl hf (fun _ hf => ?_) (fun _ hf => ?_)
    · exact AW.weak (wX3_readFor_129 l v0 v4 h _ k_v0 hf) ⟨rfl, ⟨rfl, trivial⟩⟩
    refine a_iload dX3_readFor_47 rfl rfl ?_
    refine a_if_ne (t := 129) dX3_readFor_49 rfl rfl hf (fun _ hf => ?_) (fun _ hf => ?_)
    · refine a_aload_n dX3_readFor_52 rfl rfl ?_
      refine a_getI fl_RX3_30 dX3_readFor_53 rfl k_v0 rfl ?_
      refine a_aload_n dX3_readFor_56 rfl rfl ?_
      refine a_getR fl_RX3_14 dX3_readFor_57 rfl k_v0 rfl (by decide) hf (fun b57 n_b57 _ k_b57 hf => ?_)
      refine a_getI fl_RX3_49 dX3_readFor_60 rfl k_b57 rfl ?_
      refine a_icmp_ge (t := 129) dX3_readFor_63 rfl rfl hf (fun _ hf => ?_) (fun _ hf => ?_)
      · exact AW.weak (wX3_readFor_129 l v0 v4 h _ k_v0 hf) ⟨rfl, ⟨rfl, trivial⟩⟩
      refine a_aload_n dX3_readFor_66 rfl rfl ?_
      obtain ⟨r67, h67, hc67, hf⟩ := am_bind_some hf
      refine a_callV (As := []) (r1 := (some (.int r67), Γ, h67)) (sX3_shapeFault l k_v0 hc67) ccX3_shapeFault tw_558 tw_560 tp_3 (ci := 3) rfl (by decide) ⟨Nat.le_of_ble_eq_true rfl, Nat.le_of_ble_eq_true rfl, Nat.le_of_ble_eq_true rfl, Nat.le_of_ble_eq_true rfl⟩ dX3_readFor_67 rfl k_v0 rfl (Nat.le_of_ble_eq_true rfl) rfl rfl (fun hr67 => ?_)
      refine a_istore (L' := [some (.ref v0), some (.ref v1), some (.ref v2), some (.ref v3), some (.int r67), some (.int v5), none]) dX3_readFor_70 rfl (Nat.le_of_ble_eq_true rfl) (fun _ _ hv => by cases hv; rfl) rfl ?_
      refine a_iload dX3_readFor_72 rfl rfl ?_
      refine a_if_ne (t := 123) dX3_readFor_74 rfl rfl hf (fun _ hf => ?_) (fun _ hf => ?_)
      · refine a_aload_n dX3_readFor_77 rfl rfl ?_
        refine a_getR fl_RX3_14 dX3_readFor_78 rfl k_v0 rfl (by decide) hf (fun b78 n_b78 _ k_b78 hf => ?_)
        refine a_aload_n dX3_readFor_81 rfl rfl ?_
        refine a_getI fl_RX3_30 dX3_readFor_82 rfl k_v0 rfl ?_
        refine a_iconst (v := (4 : Int32)) dX3_readFor_85 rfl (by decide) ?_
        refine a_iadd dX3_readFor_86 rfl ?_
        refine a_iconst (v := (4 : Int32)) dX3_readFor_87 rfl (by decide) ?_
        obtain ⟨r88, h88, hc88, hf⟩ := am_bind_some hf
        refine a_callV (As := [.int ((h67.1 v0 4) + ((4 : Int32))), .int ((4 : Int32))]) (r1 := (some (.int r88), Γ, h88)) (sX0_number l k_b78 hc88) ccX0_number tw_551 tw_552 tw_553 (ci := 0) rfl (by decide) ⟨Nat.le_of_ble_eq_true rfl, Nat.le_of_ble_eq_true rfl, Nat.le_of_ble_eq_true rfl, Nat.le_of_ble_eq_true rfl⟩ dX3_readFor_88 rfl k_b78 rfl (Nat.le_of_ble_eq_true rfl) rfl rfl (fun hr88 => ?_)
        refine a_istore (L' := [some (.ref v0), some (.ref v1), some (.ref v2), some (.ref v3), some (.int r67), some (.int v5), some (.int r88)]) dX3_readFor_91 rfl (Nat.le_of_ble_eq_true rfl) (fun _ _ hv => by cases hv; rfl) rfl ?_
        refine a_aload_n dX3_readFor_93 rfl rfl ?_
        refine a_iload dX3_readFor_94 rfl rfl ?_
        refine a_aload_n dX3_readFor_96 rfl rfl ?_
        refine a_aload_n dX3_readFor_97 rfl rfl ?_
        refine a_aload_n dX3_readFor_98 rfl rfl ?_
        obtain ⟨r99, h99, hc99, hf⟩ := am_bind_some hf
        refine a_callV (As := [.int r88, .ref v1, .ref v2, .ref v3]) (r1 := (some (.int r99), Γ, h99)) (sX3_readContents l k_v0 k_v1 k_v2 k_v3 hc99) ccX3_readContents tw_563 tw_565 tp_4 (ci := 3) rfl (by decide) ⟨Nat.le_of_ble_eq_true rfl, Nat.le_of_ble_eq_true rfl, Nat.le_of_ble_eq_true rfl, Nat.le_of_ble_eq_true rfl⟩ dX3_readFor_99 rfl k_v0 rfl (Nat.le_of_ble_eq_true rfl) rfl rfl (fun hr99 => ?_)
        refine a_istore (L' := [some (.ref v0), some (.ref v1), some (.ref v2), some (.ref v3), some (.int r99), some (.int v5), some (.int r88)]) dX3_readFor_102 rfl (Nat.le_of_ble_eq_true rfl) (fun _ _ hv => by cases hv; rfl) rfl ?_
        refine a_aload_n dX3_readFor_104 rfl rfl ?_
        refine a_dup dX3_readFor_105 rfl rfl ?_
        refine a_getI fl_RX3_30 dX3_readFor_106 rfl k_v0 rfl ?_
        refine a_bipush (v := (8 : Int32)) dX3_readFor_109 rfl (by decide) ?_
        refine a_iload dX3_readFor_111 rfl rfl ?_
        refine a_iadd dX3_readFor_113 rfl ?_
        refine a_iload dX3_readFor_114 rfl rfl ?_
        refine a_iconst (v := (1 : Int32)) dX3_readFor_116 rfl (by decide) ?_
        refine a_iand dX3_readFor_117 rfl ?_
        refine a_iadd dX3_readFor_118 rfl ?_
        refine a_iadd dX3_readFor_119 rfl ?_
        refine a_putI fp_RX3_30 dX3_readFor_120 rfl k_v0 rfl hf (fun h120 hf => ?_)
        exact AW.weak (wX3_readFor_123 l ih v0 v1 v2 v3 r99 v5 h120 _ k_v0 _ k_v1 _ k_v2 _ k_v3 hf) ⟨rfl, ⟨rfl, ⟨rfl, ⟨rfl, ⟨rfl, ⟨rfl, trivial⟩⟩⟩⟩⟩⟩
      exact AW.weak (wX3_readFor_123 l ih v0 v1 v2 v3 r67 v5 h67 _ k_v0 _ k_v1 _ k_v2 _ k_v3 hf) ⟨rfl, ⟨rfl, ⟨rfl, ⟨rfl, ⟨rfl, ⟨rfl, trivial⟩⟩⟩⟩⟩⟩
    exact AW.weak (wX3_readFor_129 l v0 v4 h _ k_v0 hf) ⟨rfl, ⟨rfl, trivial⟩⟩
set_option maxRecDepth 100000 in
set_option maxHeartbeats 4000000 in
theorem sX3_readFor (l : Launch) {Γ : Gm} {h h' : AH} {v0 : Nat} {v1 : Nat} {v2 : Nat} {v3 : Nat} {r : Int32} {n_v0 : Nat} (k_v0 : Γ[v0]? = some (3, n_v0)) {n_v1 : Nat} (k_v1 : Γ[v1]? = some (5, n_v1)) {n_v2 : Nat} (k_v2 : Γ[v2]? = some (4, n_v2)) {n_v3 : Nat} (k_v3 : Γ[v3]? = some (6, n_v3)) (hf : fX3_readFor Γ v0 v1 v2 v3 h = some (r, h')) : AR l yX3_readFor mX3_readFor [.ref v0, .ref v1, .ref v2, .ref v3] Γ h (some (.int r), Γ, h') := by
  refine AR.of [some (.ref v0), some (.ref v1), some (.ref v2), some (.ref v3), none, none, none] (by decide +kernel) rfl (fun z => by cases z) (Nat.le_of_ble_eq_true rfl) ⟨rfl, ⟨rfl, ⟨rfl, ⟨rfl, trivial⟩⟩⟩⟩ ?_
  unfold fX3_readFor at hf
  refine a_aload_n dX3_readFor_0 rfl rfl ?_
  refine a_aload_n dX3_readFor_1 rfl rfl ?_
  obtain ⟨r2, h2, hc2, hf⟩ := am_bind_some hf
  refine a_callV (As := [.ref v1]) (r1 := (none, Γ, h2)) (sX4_begin l k_v2 k_v1 hc2) ccX4_begin tw_542 tw_350 tw_351 (ci := 4) rfl (by decide) ⟨Nat.le_of_ble_eq_true rfl, Nat.le_of_ble_eq_true rfl, Nat.le_of_ble_eq_true rfl, Nat.le_of_ble_eq_true rfl⟩ dX3_readFor_2 rfl k_v2 rfl (Nat.le_of_ble_eq_true rfl) rfl rfl (fun hr2 => ?_)
  refine a_aload_n dX3_readFor_5 rfl rfl ?_
  obtain ⟨r6, h6, hc6, hf⟩ := am_bind_some hf
  refine a_callV (As := []) (r1 := (none, Γ, h6)) (sX6_clear l k_v3 hc6) ccX6_clear tw_543 tw_370 tw_371 (ci := 6) rfl (by decide) ⟨Nat.le_of_ble_eq_true rfl, Nat.le_of_ble_eq_true rfl, Nat.le_of_ble_eq_true rfl, Nat.le_of_ble_eq_true rfl⟩ dX3_readFor_6 rfl k_v3 rfl (Nat.le_of_ble_eq_true rfl) rfl rfl (fun hr6 => ?_)
  refine a_aload_n dX3_readFor_9 rfl rfl ?_
  refine a_iconst (v := (0 : Int32)) dX3_readFor_10 rfl (by decide) ?_
  refine a_putZ fp_RX3_20 dX3_readFor_11 rfl k_v0 rfl (by decide) hf (fun h11 hf => ?_)
  refine a_aload_n dX3_readFor_14 rfl rfl ?_
  refine a_iconst (v := (0 : Int32)) dX3_readFor_15 rfl (by decide) ?_
  refine a_putZ fp_RX3_24 dX3_readFor_16 rfl k_v0 rfl (by decide) hf (fun h16 hf => ?_)
  refine a_aload_n dX3_readFor_19 rfl rfl ?_
  refine a_iconst (v := (0 : Int32)) dX3_readFor_20 rfl (by decide) ?_
  refine a_putZ fp_RX3_27 dX3_readFor_21 rfl k_v0 rfl (by decide) hf (fun h21 hf => ?_)
  refine a_aload_n dX3_readFor_24 rfl rfl ?_
  refine a_bipush (v := (12 : Int32)) dX3_readFor_25 rfl (by decide) ?_
  refine a_putI fp_RX3_30 dX3_readFor_27 rfl k_v0 rfl hf (fun h27 hf => ?_)
  refine a_aload_n dX3_readFor_30 rfl rfl ?_
  obtain ⟨r31, h31, hc31, hf⟩ := am_bind_some hf
  refine a_callV (As := []) (r1 := (some (.int r31), Γ, h31)) (sX3_frontFault l k_v0 hc31) ccX3_frontFault tw_544 tw_546 tp_2 (ci := 3) rfl (by decide) ⟨Nat.le_of_ble_eq_true rfl, Nat.le_of_ble_eq_true rfl, Nat.le_of_ble_eq_true rfl, Nat.le_of_ble_eq_true rfl⟩ dX3_readFor_31 rfl k_v0 rfl (Nat.le_of_ble_eq_true rfl) rfl rfl (fun hr31 => ?_)
  refine a_istore (L' := [some (.ref v0), some (.ref v1), some (.ref v2), some (.ref v3), some (.int r31), none, none]) dX3_readFor_34 rfl (Nat.le_of_ble_eq_true rfl) (fun _ _ hv => by cases hv; rfl) rfl ?_
  refine a_iconst (v := (0 : Int32)) dX3_readFor_36 rfl (by decide) ?_
  refine a_istore (L' := [some (.ref v0), some (.ref v1), some (.ref v2), some (.ref v3), some (.int r31), some (.int ((0 : Int32))), none]) dX3_readFor_37 rfl (Nat.le_of_ble_eq_true rfl) (fun _ _ hv => by cases hv; rfl) rfl ?_
  exact AW.weak (wX3_readFor_39 l am_fuel v0 v1 v2 v3 r31 ((0 : Int32)) h31 _ k_v0 _ k_v1 _ k_v2 _ k_v3 hf) ⟨rfl, ⟨rfl, ⟨rfl, ⟨rfl, ⟨rfl, ⟨rfl, trivial⟩⟩⟩⟩⟩⟩
set_option maxRecDepth 100000 in
set_option maxHeartbeats 4000000 in
theorem sX4_bits (l : Launch) {Γ : Gm} {h h' : AH} {v0 : Nat} {r : Int32} {n_v0 : Nat} (k_v0 : Γ[v0]? = some (4, n_v0)) (hf : fX4_bits Γ v0 h = some (r, h')) : AR l yX4_bits mX4_bits [.ref v0] Γ h (some (.int r), Γ, h') := by
  refine AR.of [some (.ref v0)] (by decide +kernel) rfl (fun z => by cases z) (Nat.le_of_ble_eq_true rfl) ⟨rfl, trivial⟩ ?_
  unfold fX4_bits at hf
  refine a_aload_n dX4_bits_0 rfl rfl ?_
  refine a_bipush (v := (17 : Int32)) dX4_bits_1 rfl (by decide) ?_
  obtain ⟨r3, h3, hc3, hf⟩ := am_bind_some hf
  refine a_callV (As := [.int ((17 : Int32))]) (r1 := (some (.int r3), Γ, h3)) (sX4_byteAt l k_v0 hc3) ccX4_byteAt tw_512 tw_389 tw_390 (ci := 4) rfl (by decide) ⟨Nat.le_of_ble_eq_true rfl, Nat.le_of_ble_eq_true rfl, Nat.le_of_ble_eq_true rfl, Nat.le_of_ble_eq_true rfl⟩ dX4_bits_3 rfl k_v0 rfl (Nat.le_of_ble_eq_true rfl) rfl rfl (fun hr3 => ?_)
  refine a_iconst (v := (3 : Int32)) dX4_bits_6 rfl (by decide) ?_
  refine a_iand dX4_bits_7 rfl ?_
  cases hf
  exact a_iret dX4_bits_8 rfl rfl rfl (by decide)
set_option maxRecDepth 100000 in
set_option maxHeartbeats 4000000 in
theorem sX4_setBits (l : Launch) {Γ : Gm} {h h' : AH} {v0 : Nat} {v1 : Int32} {r : Unit} {n_v0 : Nat} (k_v0 : Γ[v0]? = some (4, n_v0)) (hf : fX4_setBits Γ v0 v1 h = some (r, h')) : AR l yX4_setBits mX4_setBits [.ref v0, .int v1] Γ h (none, Γ, h') := by
  refine AR.of [some (.ref v0), some (.int v1)] (by decide +kernel) rfl (fun z => by cases z) (Nat.le_of_ble_eq_true rfl) ⟨rfl, ⟨rfl, trivial⟩⟩ ?_
  unfold fX4_setBits at hf
  refine a_aload_n dX4_setBits_0 rfl rfl ?_
  refine a_bipush (v := (17 : Int32)) dX4_setBits_1 rfl (by decide) ?_
  refine a_aload_n dX4_setBits_3 rfl rfl ?_
  refine a_bipush (v := (17 : Int32)) dX4_setBits_4 rfl (by decide) ?_
  obtain ⟨r6, h6, hc6, hf⟩ := am_bind_some hf
  refine a_callV (As := [.int ((17 : Int32))]) (r1 := (some (.int r6), Γ, h6)) (sX4_byteAt l k_v0 hc6) ccX4_byteAt tw_512 tw_389 tw_390 (ci := 4) rfl (by decide) ⟨Nat.le_of_ble_eq_true rfl, Nat.le_of_ble_eq_true rfl, Nat.le_of_ble_eq_true rfl, Nat.le_of_ble_eq_true rfl⟩ dX4_setBits_6 rfl k_v0 rfl (Nat.le_of_ble_eq_true rfl) rfl rfl (fun hr6 => ?_)
  refine a_bipush (v := (-4 : Int32)) dX4_setBits_9 rfl (by decide) ?_
  refine a_iand dX4_setBits_11 rfl ?_
  refine a_iload_n dX4_setBits_12 rfl rfl ?_
  refine a_iconst (v := (3 : Int32)) dX4_setBits_13 rfl (by decide) ?_
  refine a_iand dX4_setBits_14 rfl ?_
  refine a_ior dX4_setBits_15 rfl ?_
  obtain ⟨r16, h16, hc16, hf⟩ := am_bind_some hf
  refine a_callV (As := [.int ((17 : Int32)), .int ((r6 &&& ((-4 : Int32))) ||| (v1 &&& ((3 : Int32))))]) (r1 := (none, Γ, h16)) (sX4_setByte l k_v0 hc16) ccX4_setByte tw_357 tw_358 tw_359 (ci := 4) rfl (by decide) ⟨Nat.le_of_ble_eq_true rfl, Nat.le_of_ble_eq_true rfl, Nat.le_of_ble_eq_true rfl, Nat.le_of_ble_eq_true rfl⟩ dX4_setBits_16 rfl k_v0 rfl (Nat.le_of_ble_eq_true rfl) rfl rfl (fun hr16 => ?_)
  cases hf
  exact a_ret dX4_setBits_19 rfl rfl rfl
set_option maxRecDepth 100000 in
set_option maxHeartbeats 4000000 in
theorem wX4_tellMemory_2 (l : Launch) {Γ : Gm} {r : Unit} {h' : AH} : ∀ (z : Nat) (v0 : Nat) (v1 : Nat) (v2 : Int32) (h : AH), ∀ n_v0 : Nat, Γ[v0]? = some (4, n_v0) → ∀ n_v1 : Nat, Γ[v1]? = some (0, n_v1) → fX4_tellMemory_2 Γ z v0 v1 v2 h = some (r, h') → AW l mX4_tellMemory (none, Γ, h') 0 0 2 [some (.ref v0), some (.ref v1), some (.int v2)] [] Γ h := by
  intro z
  induction z with
  | zero => intro v0 v1 v2 h n_v0 k_v0 n_v1 k_v1 hf; cases hf
  | succ z ih =>
    intro v0 v1 v2 h n_v0 k_v0 n_v1 k_v1 hf
    unfold fX4_tellMemory_2 at hf
    refine a_iload_n dX4_tellMemory_2 rfl rfl ?_
    refine a_aload_n dX4_tellMemory_3 rfl rfl ?_
    refine a_getI fl_RX4_21 dX4_tellMemory_4 rfl k_v0 rfl ?_
    refine a_icmp_ge (t := 25) dX4_tellMemory_7 rfl rfl hf (fun _ hf => ?_) (fun _ hf => ?_)
    · cases hf
      exact a_ret dX4_tellMemory_25 rfl rfl rfl
    refine a_aload_n dX4_tellMemory_10 rfl rfl ?_
    refine a_aload_n dX4_tellMemory_11 rfl rfl ?_
    refine a_iload_n dX4_tellMemory_12 rfl rfl ?_
    obtain ⟨r13, h13, hc13, hf⟩ := am_bind_some hf
    refine a_callV (As := [.int v2]) (r1 := (some (.int r13), Γ, h13)) (sX4_byteAt l k_v0 hc13) ccX4_byteAt tw_512 tw_389 tw_390 (ci := 4) rfl (by decide) ⟨Nat.le_of_ble_eq_true rfl, Nat.le_of_ble_eq_true rfl, Nat.le_of_ble_eq_true rfl, Nat.le_of_ble_eq_true rfl⟩ dX4_tellMemory_13 rfl k_v0 rfl (Nat.le_of_ble_eq_true rfl) rfl rfl (fun hr13 => ?_)
    obtain ⟨r16, h16, hc16, hf⟩ := am_bind_some hf
    refine a_callV (As := [.int r13]) (r1 := (none, Γ, h16)) (sX0_add l k_v1 hc16) ccX0_add tw_513 tw_290 tw_291 (ci := 0) rfl (by decide) ⟨Nat.le_of_ble_eq_true rfl, Nat.le_of_ble_eq_true rfl, Nat.le_of_ble_eq_true rfl, Nat.le_of_ble_eq_true rfl⟩ dX4_tellMemory_16 rfl k_v1 rfl (Nat.le_of_ble_eq_true rfl) rfl rfl (fun hr16 => ?_)
    refine a_iinc (v := v2 + (1 : Int32)) (L' := [some (.ref v0), some (.ref v1), some (.int (v2 + (1 : Int32)))]) dX4_tellMemory_19 rfl rfl rfl (Nat.le_of_ble_eq_true rfl) (fun _ _ hv => by cases hv; rfl) rfl ?_
    refine a_goto (t := 2) dX4_tellMemory_22 rfl ?_
    exact AW.weak (ih v0 v1 (v2 + (1 : Int32)) h16 _ k_v0 _ k_v1 hf) ⟨rfl, ⟨rfl, ⟨rfl, trivial⟩⟩⟩
set_option maxRecDepth 100000 in
set_option maxHeartbeats 4000000 in
theorem sX4_tellMemory (l : Launch) {Γ : Gm} {h h' : AH} {v0 : Nat} {v1 : Nat} {r : Unit} {n_v0 : Nat} (k_v0 : Γ[v0]? = some (4, n_v0)) {n_v1 : Nat} (k_v1 : Γ[v1]? = some (0, n_v1)) (hf : fX4_tellMemory Γ v0 v1 h = some (r, h')) : AR l yX4_tellMemory mX4_tellMemory [.ref v0, .ref v1] Γ h (none, Γ, h') := by
  refine AR.of [some (.ref v0), some (.ref v1), none] (by decide +kernel) rfl (fun z => by cases z) (Nat.le_of_ble_eq_true rfl) ⟨rfl, ⟨rfl, trivial⟩⟩ ?_
  unfold fX4_tellMemory at hf
  refine a_iconst (v := (0 : Int32)) dX4_tellMemory_0 rfl (by decide) ?_
  refine a_istore_n (L' := [some (.ref v0), some (.ref v1), some (.int ((0 : Int32)))]) dX4_tellMemory_1 rfl (Nat.le_of_ble_eq_true rfl) (fun _ _ hv => by cases hv; rfl) rfl ?_
  exact AW.weak (wX4_tellMemory_2 l am_fuel v0 v1 ((0 : Int32)) h _ k_v0 _ k_v1 hf) ⟨rfl, ⟨rfl, ⟨rfl, trivial⟩⟩⟩
set_option maxRecDepth 100000 in
set_option maxHeartbeats 4000000 in
theorem wX4_tellZeros_2 (l : Launch) {Γ : Gm} {r : Unit} {h' : AH} : ∀ (z : Nat) (v1 : Nat) (v2 : Int32) (h : AH), ∀ n_v1 : Nat, Γ[v1]? = some (0, n_v1) → fX4_tellZeros_2 Γ z v1 v2 h = some (r, h') → AW l mX4_tellZeros (none, Γ, h') 0 0 2 [none, some (.ref v1), some (.int v2)] [] Γ h := by
  intro z
  induction z with
  | zero => intro v1 v2 h n_v1 k_v1 hf; cases hf
  | succ z ih =>
    intro v1 v2 h n_v1 k_v1 hf
    unfold fX4_tellZeros_2 at hf
    refine a_iload_n dX4_tellZeros_2 rfl rfl ?_
    refine a_if_le (t := 33) dX4_tellZeros_3 rfl rfl hf (fun _ hf => ?_) (fun _ hf => ?_)
    · cases hf
      exact a_ret dX4_tellZeros_33 rfl rfl rfl
    refine a_aload_n dX4_tellZeros_6 rfl rfl ?_
    refine a_iconst (v := (0 : Int32)) dX4_tellZeros_7 rfl (by decide) ?_
    obtain ⟨r8, h8, hc8, hf⟩ := am_bind_some hf
    refine a_callV (As := [.int ((0 : Int32))]) (r1 := (none, Γ, h8)) (sX0_add l k_v1 hc8) ccX0_add tw_513 tw_290 tw_291 (ci := 0) rfl (by decide) ⟨Nat.le_of_ble_eq_true rfl, Nat.le_of_ble_eq_true rfl, Nat.le_of_ble_eq_true rfl, Nat.le_of_ble_eq_true rfl⟩ dX4_tellZeros_8 rfl k_v1 rfl (Nat.le_of_ble_eq_true rfl) rfl rfl (fun hr8 => ?_)
    refine a_aload_n dX4_tellZeros_11 rfl rfl ?_
    refine a_iload_n dX4_tellZeros_12 rfl rfl ?_
    refine a_sipush (v := (256 : Int32)) dX4_tellZeros_13 rfl (by decide) ?_
    refine a_min dX4_tellZeros_16 rfl tw_521 tw_346 tw_4 tw_347 ⟨Nat.le_of_ble_eq_true rfl, Nat.le_of_ble_eq_true rfl, Nat.le_of_ble_eq_true rfl, Nat.le_of_ble_eq_true rfl⟩ ?_
    refine a_iconst (v := (1 : Int32)) dX4_tellZeros_19 rfl (by decide) ?_
    refine a_isub dX4_tellZeros_20 rfl ?_
    obtain ⟨r21, h21, hc21, hf⟩ := am_bind_some hf
    refine a_callV (As := [.int ((am_min v2 ((256 : Int32))) - ((1 : Int32)))]) (r1 := (none, Γ, h21)) (sX0_add l k_v1 hc21) ccX0_add tw_513 tw_290 tw_291 (ci := 0) rfl (by decide) ⟨Nat.le_of_ble_eq_true rfl, Nat.le_of_ble_eq_true rfl, Nat.le_of_ble_eq_true rfl, Nat.le_of_ble_eq_true rfl⟩ dX4_tellZeros_21 rfl k_v1 rfl (Nat.le_of_ble_eq_true rfl) rfl rfl (fun hr21 => ?_)
    refine a_iincW (v := v2 + (-256 : Int32)) (L' := [none, some (.ref v1), some (.int (v2 + (-256 : Int32)))]) dX4_tellZeros_24 rfl rfl rfl (Nat.le_of_ble_eq_true rfl) (fun _ _ hv => by cases hv; rfl) rfl ?_
    refine a_goto (t := 2) dX4_tellZeros_30 rfl ?_
    exact AW.weak (ih v1 (v2 + (-256 : Int32)) h21 _ k_v1 hf) ⟨rfl, ⟨rfl, trivial⟩⟩
set_option maxRecDepth 100000 in
set_option maxHeartbeats 4000000 in
theorem sX4_tellZeros (l : Launch) {Γ : Gm} {h h' : AH} {v0 : Int32} {v1 : Nat} {r : Unit} {n_v1 : Nat} (k_v1 : Γ[v1]? = some (0, n_v1)) (hf : fX4_tellZeros Γ v0 v1 h = some (r, h')) : AR l yX4_tellZeros mX4_tellZeros [.int v0, .ref v1] Γ h (none, Γ, h') := by
  refine AR.of [some (.int v0), some (.ref v1), none] (by decide +kernel) rfl (fun z => by cases z) (Nat.le_of_ble_eq_true rfl) ⟨rfl, ⟨rfl, trivial⟩⟩ ?_
  unfold fX4_tellZeros at hf
  refine a_iload_n dX4_tellZeros_0 rfl rfl ?_
  refine a_istore_n (L' := [some (.int v0), some (.ref v1), some (.int v0)]) dX4_tellZeros_1 rfl (Nat.le_of_ble_eq_true rfl) (fun _ _ hv => by cases hv; rfl) rfl ?_
  exact AW.weak (wX4_tellZeros_2 l am_fuel v1 v0 h _ k_v1 hf) ⟨rfl, ⟨rfl, trivial⟩⟩
