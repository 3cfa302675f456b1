set_option maxRecDepth 100000 in
set_option maxHeartbeats 4000000 in
theorem sX3_frontFault (l : Launch) {Γ : Gm} {h h' : AH} {v0 : Nat} {r : Int32} {n_v0 : Nat} (k_v0 : Γ[v0]? = some (3, n_v0)) (hf : fX3_frontFault Γ v0 h = some (r, h')) : AR l yX3_frontFault mX3_frontFault [.ref v0] Γ h (some (.int r), Γ, h') := by
  refine AR.of [some (.ref v0)] (by decide +kernel) rfl (fun z => by cases z) (Nat.le_of_ble_eq_true rfl) ⟨rfl, trivial⟩ ?_
  unfold fX3_frontFault at hf
  refine a_aload_n dX3_frontFault_0 rfl rfl ?_
  refine a_getR fl_RX3_14 dX3_frontFault_1 rfl k_v0 rfl (by decide) hf (fun b1 n_b1 _ k_b1 hf => ?_)
  refine a_getI fl_RX3_49 dX3_frontFault_4 rfl k_b1 rfl ?_
  refine a_bipush (v := nI 12) dX3_frontFault_7 rfl (by decide) ?_
  refine a_icmp_ge (t := 24) dX3_frontFault_9 rfl rfl hf (fun _ hf => ?_) (fun _ hf => ?_)
  · refine a_aload_n dX3_frontFault_24 rfl rfl ?_
    refine a_getR fl_RX3_14 dX3_frontFault_25 rfl k_v0 rfl (by decide) hf (fun b25 n_b25 _ k_b25 hf => ?_)
    refine a_iconst (v := nI 0) dX3_frontFault_28 rfl (by decide) ?_
    refine a_iconst (v := nI 4) dX3_frontFault_29 rfl (by decide) ?_
    obtain ⟨r30, h30, hc30, hf⟩ := am_bind_some hf
    refine a_callV (As := [.int (nI 0), .int (nI 4)]) (r1 := (some (.int r30), Γ, h30)) (sX0_number l k_b25 hc30) ccX0_number tw_551 tw_552 tw_553 (ci := 0) rfl (by decide) ⟨Nat.le_of_ble_eq_true rfl, Nat.le_of_ble_eq_true rfl, Nat.le_of_ble_eq_true rfl, Nat.le_of_ble_eq_true rfl⟩ dX3_frontFault_30 rfl k_b25 rfl (Nat.le_of_ble_eq_true rfl) rfl rfl (fun hr30 => ?_)
    refine a_ldc (v := nI 1179603533) dX3_frontFault_33 rfl tw_556 ?_
    refine a_icmp_eq (t := 44) dX3_frontFault_35 rfl rfl hf (fun _ hf => ?_) (fun _ hf => ?_)
    · refine a_aload_n dX3_frontFault_44 rfl rfl ?_
      refine a_getR fl_RX3_14 dX3_frontFault_45 rfl k_v0 rfl (by decide) hf (fun b45 n_b45 _ k_b45 hf => ?_)
      refine a_iconst (v := nI 4) dX3_frontFault_48 rfl (by decide) ?_
      refine a_iconst (v := nI 4) dX3_frontFault_49 rfl (by decide) ?_
      obtain ⟨r50, h50, hc50, hf⟩ := am_bind_some hf
      refine a_callV (As := [.int (nI 4), .int (nI 4)]) (r1 := (some (.int r50), Γ, h50)) (sX0_number l k_b45 hc50) ccX0_number tw_551 tw_552 tw_553 (ci := 0) rfl (by decide) ⟨Nat.le_of_ble_eq_true rfl, Nat.le_of_ble_eq_true rfl, Nat.le_of_ble_eq_true rfl, Nat.le_of_ble_eq_true rfl⟩ dX3_frontFault_50 rfl k_b45 rfl (Nat.le_of_ble_eq_true rfl) rfl rfl (fun hr50 => ?_)
      refine a_aload_n dX3_frontFault_53 rfl rfl ?_
      refine a_getR fl_RX3_14 dX3_frontFault_54 rfl k_v0 rfl (by decide) hf (fun b54 n_b54 _ k_b54 hf => ?_)
      refine a_getI fl_RX3_49 dX3_frontFault_57 rfl k_b54 rfl ?_
      refine a_bipush (v := nI 8) dX3_frontFault_60 rfl (by decide) ?_
      refine a_isub dX3_frontFault_62 rfl ?_
      refine a_icmp_eq (t := 72) dX3_frontFault_63 rfl rfl hf (fun _ hf => ?_) (fun _ hf => ?_)
      · refine a_aload_n dX3_frontFault_72 rfl rfl ?_
        refine a_getR fl_RX3_14 dX3_frontFault_73 rfl k_v0 rfl (by decide) hf (fun b73 n_b73 _ k_b73 hf => ?_)
        refine a_bipush (v := nI 8) dX3_frontFault_76 rfl (by decide) ?_
        refine a_iconst (v := nI 4) dX3_frontFault_78 rfl (by decide) ?_
        obtain ⟨r79, h79, hc79, hf⟩ := am_bind_some hf
        refine a_callV (As := [.int (nI 8), .int (nI 4)]) (r1 := (some (.int r79), Γ, h79)) (sX0_number l k_b73 hc79) ccX0_number tw_551 tw_552 tw_553 (ci := 0) rfl (by decide) ⟨Nat.le_of_ble_eq_true rfl, Nat.le_of_ble_eq_true rfl, Nat.le_of_ble_eq_true rfl, Nat.le_of_ble_eq_true rfl⟩ dX3_frontFault_79 rfl k_b73 rfl (Nat.le_of_ble_eq_true rfl) rfl rfl (fun hr79 => ?_)
        refine a_ldc (v := nI 1229347411) dX3_frontFault_82 rfl tw_557 ?_
        refine a_icmp_eq (t := 96) dX3_frontFault_84 rfl rfl hf (fun _ hf => ?_) (fun _ hf => ?_)
        · refine a_iconst (v := nI 0) dX3_frontFault_96 rfl (by decide) ?_
          cases hf
          exact a_iret dX3_frontFault_97 rfl rfl rfl (by decide)
        refine a_iconst (v := nI 2) dX3_frontFault_87 rfl (by decide) ?_
        refine a_bipush (v := nI 8) dX3_frontFault_88 rfl (by decide) ?_
        obtain ⟨r90, h90, hc90, hf⟩ := am_bind_some hf
        refine a_callSN (As := [.int (nI 2), .int (nI 8)]) (r1 := (some (.int r90), Γ, h90)) (sX8_fault l hc90) ccX8_fault tn_548 tw_549 ⟨Nat.le_of_ble_eq_true rfl, Nat.le_of_ble_eq_true rfl, Nat.le_of_ble_eq_true rfl, Nat.le_of_ble_eq_true rfl⟩ dX3_frontFault_90 rfl rfl (Nat.le_of_ble_eq_true rfl) rfl rfl (fun hr90 => ?_)
        refine a_goto (t := 97) dX3_frontFault_93 rfl ?_
        cases hf
        exact a_iret dX3_frontFault_97 rfl rfl rfl (by decide)
      refine a_iconst (v := nI 3) dX3_frontFault_66 rfl (by decide) ?_
      refine a_iconst (v := nI 4) dX3_frontFault_67 rfl (by decide) ?_
      obtain ⟨r68, h68, hc68, hf⟩ := am_bind_some hf
      refine a_callSN (As := [.int (nI 3), .int (nI 4)]) (r1 := (some (.int r68), Γ, h68)) (sX8_fault l hc68) ccX8_fault tn_548 tw_549 ⟨Nat.le_of_ble_eq_true rfl, Nat.le_of_ble_eq_true rfl, Nat.le_of_ble_eq_true rfl, Nat.le_of_ble_eq_true rfl⟩ dX3_frontFault_68 rfl rfl (Nat.le_of_ble_eq_true rfl) rfl rfl (fun hr68 => ?_)
      cases hf
      exact a_iret dX3_frontFault_71 rfl rfl rfl (by decide)
    refine a_iconst (v := nI 2) dX3_frontFault_38 rfl (by decide) ?_
    refine a_iconst (v := nI 0) dX3_frontFault_39 rfl (by decide) ?_
    obtain ⟨r40, h40, hc40, hf⟩ := am_bind_some hf
    refine a_callSN (As := [.int (nI 2), .int (nI 0)]) (r1 := (some (.int r40), Γ, h40)) (sX8_fault l hc40) ccX8_fault tn_548 tw_549 ⟨Nat.le_of_ble_eq_true rfl, Nat.le_of_ble_eq_true rfl, Nat.le_of_ble_eq_true rfl, Nat.le_of_ble_eq_true rfl⟩ dX3_frontFault_40 rfl rfl (Nat.le_of_ble_eq_true rfl) rfl rfl (fun hr40 => ?_)
    cases hf
    exact a_iret dX3_frontFault_43 rfl rfl rfl (by decide)
  refine a_iconst (v := nI 1) dX3_frontFault_12 rfl (by decide) ?_
  refine a_aload_n dX3_frontFault_13 rfl rfl ?_
  refine a_getR fl_RX3_14 dX3_frontFault_14 rfl k_v0 rfl (by decide) hf (fun b14 n_b14 _ k_b14 hf => ?_)
  refine a_getI fl_RX3_49 dX3_frontFault_17 rfl k_b14 rfl ?_
  obtain ⟨r20, h20, hc20, hf⟩ := am_bind_some hf
  refine a_callSN (As := [.int (nI 1), .int (h.1 b14 1)]) (r1 := (some (.int r20), Γ, h20)) (sX8_fault l hc20) ccX8_fault tn_548 tw_549 ⟨Nat.le_of_ble_eq_true rfl, Nat.le_of_ble_eq_true rfl, Nat.le_of_ble_eq_true rfl, Nat.le_of_ble_eq_true rfl⟩ dX3_frontFault_20 rfl rfl (Nat.le_of_ble_eq_true rfl) rfl rfl (fun hr20 => ?_)
  cases hf
  exact a_iret dX3_frontFault_23 rfl rfl rfl (by decide)
set_option maxRecDepth 100000 in
set_option maxHeartbeats 4000000 in
theorem sX5_headAt (l : Launch) {Γ : Gm} {h h' : AH} {v0 : Nat} {v1 : Int32} {r : Int32} {n_v0 : Nat} (k_v0 : Γ[v0]? = some (5, n_v0)) (hf : fX5_headAt Γ v0 v1 h = some (r, h')) : AR l yX5_headAt mX5_headAt [.ref v0, .int v1] Γ h (some (.int r), Γ, h') := by
  refine AR.of [some (.ref v0), some (.int v1)] (by decide +kernel) rfl (fun z => by cases z) (Nat.le_of_ble_eq_true rfl) ⟨rfl, ⟨rfl, trivial⟩⟩ ?_
  unfold fX5_headAt at hf
  refine a_iload_n dX5_headAt_0 rfl rfl ?_
  refine a_if_lt (t := 22) dX5_headAt_1 rfl rfl hf (fun _ hf => ?_) (fun _ hf => ?_)
  · refine a_iconst (v := nI 0) dX5_headAt_22 rfl (by decide) ?_
    cases hf
    exact a_iret dX5_headAt_23 rfl rfl rfl (by decide)
  refine a_iload_n dX5_headAt_4 rfl rfl ?_
  refine a_aload_n dX5_headAt_5 rfl rfl ?_
  refine a_getR fl_RX5_9 dX5_headAt_6 rfl k_v0 rfl (by decide) hf (fun b6 n_b6 _ k_b6 hf => ?_)
  refine a_alen dX5_headAt_9 rfl k_b6 ?_
  refine a_icmp_ge (t := 22) dX5_headAt_10 rfl rfl hf (fun _ hf => ?_) (fun _ hf => ?_)
  · refine a_iconst (v := nI 0) dX5_headAt_22 rfl (by decide) ?_
    cases hf
    exact a_iret dX5_headAt_23 rfl rfl rfl (by decide)
  refine a_aload_n dX5_headAt_13 rfl rfl ?_
  refine a_getR fl_RX5_9 dX5_headAt_14 rfl k_v0 rfl (by decide) hf (fun b14 n_b14 _ k_b14 hf => ?_)
  refine a_iload_n dX5_headAt_17 rfl rfl ?_
  refine a_iald dX5_headAt_18 rfl k_b14 hf (fun hf => ?_)
  refine a_goto (t := 23) dX5_headAt_19 rfl ?_
  cases hf
  exact a_iret dX5_headAt_23 rfl rfl rfl (by decide)
set_option maxRecDepth 100000 in
set_option maxHeartbeats 4000000 in
theorem wX3_readHead_30 (l : Launch) {Γ : Gm} {r : Int32} {h' : AH} : ∀ (z : Nat) (v0 : Nat) (v2 : Nat) (v3 : Nat) (v4 : Int32) (v5 : Int32) (h : AH), ∀ n_v0 : Nat, Γ[v0]? = some (3, n_v0) → ∀ n_v2 : Nat, Γ[v2]? = some (5, n_v2) → ∀ n_v3 : Nat, Γ[v3]? = some (4, n_v3) → fX3_readHead_30 Γ z v0 v2 v3 v4 v5 h = some (r, h') → AW l mX3_readHead (some (.int r), Γ, h') 0 0 30 [some (.ref v0), none, some (.ref v2), some (.ref v3), some (.int v4), some (.int v5)] [] Γ h := by
  intro z
  induction z with
  | zero => intro v0 v2 v3 v4 v5 h n_v0 k_v0 n_v2 k_v2 n_v3 k_v3 hf; cases hf
  | succ z ih =>
    intro v0 v2 v3 v4 v5 h n_v0 k_v0 n_v2 k_v2 n_v3 k_v3 hf
    unfold fX3_readHead_30 at hf
    refine a_iload dX3_readHead_30 rfl rfl ?_
    refine a_bipush (v := nI 10) dX3_readHead_32 rfl (by decide) ?_
    refine a_icmp_ge (t := 75) dX3_readHead_34 rfl rfl hf (fun _ hf => ?_) (fun _ hf => ?_)
    · refine a_aload_n dX3_readHead_75 rfl rfl ?_
      refine a_aload_n dX3_readHead_76 rfl rfl ?_
      refine a_getR fl_RX3_14 dX3_readHead_77 rfl k_v0 rfl (by decide) hf (fun b77 n_b77 _ k_b77 hf => ?_)
      refine a_iload dX3_readHead_80 rfl rfl ?_
      refine a_bipush (v := nI 10) dX3_readHead_82 rfl (by decide) ?_
      refine a_iadd dX3_readHead_84 rfl ?_
      refine a_iconst (v := nI 3) dX3_readHead_85 rfl (by decide) ?_
      obtain ⟨r86, h86, hc86, hf⟩ := am_bind_some hf
      refine a_callV (As := [.int (v4 + (nI 10)), .int (nI 3)]) (r1 := (some (.int r86), Γ, h86)) (sX0_number l k_b77 hc86) ccX0_number tw_551 tw_552 tw_553 (ci := 0) rfl (by decide) ⟨Nat.le_of_ble_eq_true rfl, Nat.le_of_ble_eq_true rfl, Nat.le_of_ble_eq_true rfl, Nat.le_of_ble_eq_true rfl⟩ dX3_readHead_86 rfl k_b77 rfl (Nat.le_of_ble_eq_true rfl) rfl rfl (fun hr86 => ?_)
      refine a_putI fp_RX3_92 dX3_readHead_89 rfl k_v3 rfl hf (fun h89 hf => ?_)
      refine a_aload_n dX3_readHead_92 rfl rfl ?_
      refine a_iconst (v := nI 1) dX3_readHead_93 rfl (by decide) ?_
      refine a_putZ fp_RX3_20 dX3_readHead_94 rfl k_v0 rfl (by decide) hf (fun h94 hf => ?_)
      refine a_iconst (v := nI 0) dX3_readHead_97 rfl (by decide) ?_
      cases hf
      exact a_iret dX3_readHead_98 rfl rfl rfl (by decide)
    refine a_aload_n dX3_readHead_37 rfl rfl ?_
    refine a_getR fl_RX3_14 dX3_readHead_38 rfl k_v0 rfl (by decide) hf (fun b38 n_b38 _ k_b38 hf => ?_)
    refine a_iload dX3_readHead_41 rfl rfl ?_
    refine a_iload dX3_readHead_43 rfl rfl ?_
    refine a_iadd dX3_readHead_45 rfl ?_
    obtain ⟨r46, h46, hc46, hf⟩ := am_bind_some hf
    refine a_callV (As := [.int (v4 + v5)]) (r1 := (some (.int r46), Γ, h46)) (sX0_at l k_b38 hc46) ccX0_at tw_562 tw_309 tw_310 (ci := 0) rfl (by decide) ⟨Nat.le_of_ble_eq_true rfl, Nat.le_of_ble_eq_true rfl, Nat.le_of_ble_eq_true rfl, Nat.le_of_ble_eq_true rfl⟩ dX3_readHead_46 rfl k_b38 rfl (Nat.le_of_ble_eq_true rfl) rfl rfl (fun hr46 => ?_)
    refine a_aload_n dX3_readHead_49 rfl rfl ?_
    refine a_iload dX3_readHead_50 rfl rfl ?_
    obtain ⟨r52, h52, hc52, hf⟩ := am_bind_some hf
    refine a_callV (As := [.int v5]) (r1 := (some (.int r52), Γ, h52)) (sX5_headAt l k_v2 hc52) ccX5_headAt tw_571 tw_572 tw_573 (ci := 5) rfl (by decide) ⟨Nat.le_of_ble_eq_true rfl, Nat.le_of_ble_eq_true rfl, Nat.le_of_ble_eq_true rfl, Nat.le_of_ble_eq_true rfl⟩ dX3_readHead_52 rfl k_v2 rfl (Nat.le_of_ble_eq_true rfl) rfl rfl (fun hr52 => ?_)
    refine a_icmp_eq (t := 69) dX3_readHead_55 rfl rfl hf (fun _ hf => ?_) (fun _ hf => ?_)
    · refine a_iinc (v := v5 + nI 1) (L' := [some (.ref v0), none, some (.ref v2), some (.ref v3), some (.int v4), some (.int (v5 + nI 1))]) dX3_readHead_69 rfl rfl rfl (Nat.le_of_ble_eq_true rfl) (fun _ _ hv => by cases hv; rfl) rfl ?_
      refine a_goto (t := 30) dX3_readHead_72 rfl ?_
      exact AW.weak (ih v0 v2 v3 v4 (v5 + nI 1) h52 _ k_v0 _ k_v2 _ k_v3 hf) ⟨rfl, ⟨rfl, ⟨rfl, ⟨rfl, ⟨rfl, trivial⟩⟩⟩⟩⟩
    refine a_bipush (v := nI 6) dX3_readHead_58 rfl (by decide) ?_
    refine a_iload dX3_readHead_60 rfl rfl ?_
    refine a_iload dX3_readHead_62 rfl rfl ?_
    refine a_iadd dX3_readHead_64 rfl ?_
    obtain ⟨r65, h65, hc65, hf⟩ := am_bind_some hf
    refine a_callSN (As := [.int (nI 6), .int (v4 + v5)]) (r1 := (some (.int r65), Γ, h65)) (sX8_fault l hc65) ccX8_fault tn_548 tw_549 ⟨Nat.le_of_ble_eq_true rfl, Nat.le_of_ble_eq_true rfl, Nat.le_of_ble_eq_true rfl, Nat.le_of_ble_eq_true rfl⟩ dX3_readHead_65 rfl rfl (Nat.le_of_ble_eq_true rfl) rfl rfl (fun hr65 => ?_)
    cases hf
    exact a_iret dX3_readHead_68 rfl rfl rfl (by decide)
set_option maxRecDepth 100000 in
set_option maxHeartbeats 4000000 in
theorem sX3_readHead (l : Launch) {Γ : Gm} {h h' : AH} {v0 : Nat} {v1 : Int32} {v2 : Nat} {v3 : Nat} {r : Int32} {n_v0 : Nat} (k_v0 : Γ[v0]? = some (3, n_v0)) {n_v2 : Nat} (k_v2 : Γ[v2]? = some (5, n_v2)) {n_v3 : Nat} (k_v3 : Γ[v3]? = some (4, n_v3)) (hf : fX3_readHead Γ v0 v1 v2 v3 h = some (r, h')) : AR l yX3_readHead mX3_readHead [.ref v0, .int v1, .ref v2, .ref v3] Γ h (some (.int r), Γ, h') := by
  refine AR.of [some (.ref v0), some (.int v1), some (.ref v2), some (.ref v3), none, none] (by decide +kernel) rfl (fun z => by cases z) (Nat.le_of_ble_eq_true rfl) ⟨rfl, ⟨rfl, ⟨rfl, ⟨rfl, trivial⟩⟩⟩⟩ ?_
  unfold fX3_readHead at hf
  refine a_iload_n dX3_readHead_0 rfl rfl ?_
  refine a_bipush (v := nI 13) dX3_readHead_1 rfl (by decide) ?_
  refine a_icmp_eq (t := 18) dX3_readHead_3 rfl rfl hf (fun _ hf => ?_) (fun _ hf => ?_)
  · refine a_aload_n dX3_readHead_18 rfl rfl ?_
    refine a_getI fl_RX3_30 dX3_readHead_19 rfl k_v0 rfl ?_
    refine a_bipush (v := nI 8) dX3_readHead_22 rfl (by decide) ?_
    refine a_iadd dX3_readHead_24 rfl ?_
    refine a_nmI hf (fun x25 hf => ?_)
    refine a_istore (L' := [some (.ref v0), some (.int v1), some (.ref v2), some (.ref v3), some (.int x25), none]) dX3_readHead_25 rfl (Nat.le_of_ble_eq_true rfl) (fun _ _ hv => by cases hv; rfl) rfl ?_
    refine a_iconst (v := nI 0) dX3_readHead_27 rfl (by decide) ?_
    refine a_istore (L' := [some (.ref v0), some (.int v1), some (.ref v2), some (.ref v3), some (.int x25), some (.int (nI 0))]) dX3_readHead_28 rfl (Nat.le_of_ble_eq_true rfl) (fun _ _ hv => by cases hv; rfl) rfl ?_
    exact AW.weak (wX3_readHead_30 l am_fuel v0 v2 v3 x25 (nI 0) h _ k_v0 _ k_v2 _ k_v3 hf) ⟨rfl, ⟨rfl, ⟨rfl, ⟨rfl, ⟨rfl, trivial⟩⟩⟩⟩⟩
  refine a_bipush (v := nI 6) dX3_readHead_6 rfl (by decide) ?_
  refine a_aload_n dX3_readHead_8 rfl rfl ?_
  refine a_getI fl_RX3_30 dX3_readHead_9 rfl k_v0 rfl ?_
  refine a_iconst (v := nI 4) dX3_readHead_12 rfl (by decide) ?_
  refine a_iadd dX3_readHead_13 rfl ?_
  obtain ⟨r14, h14, hc14, hf⟩ := am_bind_some hf
  refine a_callSN (As := [.int (nI 6), .int ((h.1 v0 4) + (nI 4))]) (r1 := (some (.int r14), Γ, h14)) (sX8_fault l hc14) ccX8_fault tn_548 tw_549 ⟨Nat.le_of_ble_eq_true rfl, Nat.le_of_ble_eq_true rfl, Nat.le_of_ble_eq_true rfl, Nat.le_of_ble_eq_true rfl⟩ dX3_readHead_14 rfl rfl (Nat.le_of_ble_eq_true rfl) rfl rfl (fun hr14 => ?_)
  cases hf
  exact a_iret dX3_readHead_17 rfl rfl rfl (by decide)
set_option maxRecDepth 100000 in
set_option maxHeartbeats 4000000 in
theorem wX4_takeMemory_2 (l : Launch) {Γ : Gm} {r : Unit} {h' : AH} : ∀ (z : Nat) (v0 : Nat) (v1 : Nat) (v2 : Int32) (v3 : Int32) (h : AH), ∀ n_v0 : Nat, Γ[v0]? = some (4, n_v0) → ∀ n_v1 : Nat, Γ[v1]? = some (0, n_v1) → fX4_takeMemory_2 Γ z v0 v1 v2 v3 h = some (r, h') → AW l mX4_takeMemory (none, Γ, h') 0 0 2 [some (.ref v0), some (.ref v1), some (.int v2), some (.int v3)] [] Γ h := by
  intro z
  induction z with
  | zero => intro v0 v1 v2 v3 h n_v0 k_v0 n_v1 k_v1 hf; cases hf
  | succ z ih =>
    intro v0 v1 v2 v3 h n_v0 k_v0 n_v1 k_v1 hf
    unfold fX4_takeMemory_2 at hf
    refine a_iload_n dX4_takeMemory_2 rfl rfl ?_
    refine a_aload_n dX4_takeMemory_3 rfl rfl ?_
    refine a_getI fl_RX4_21 dX4_takeMemory_4 rfl k_v0 rfl ?_
    refine a_icmp_ge (t := 28) dX4_takeMemory_7 rfl rfl hf (fun _ hf => ?_) (fun _ hf => ?_)
    · cases hf
      exact a_ret dX4_takeMemory_28 rfl rfl rfl
    refine a_aload_n dX4_takeMemory_10 rfl rfl ?_
    refine a_iload_n dX4_takeMemory_11 rfl rfl ?_
    refine a_aload_n dX4_takeMemory_12 rfl rfl ?_
    refine a_iload_n dX4_takeMemory_13 rfl rfl ?_
    refine a_iload_n dX4_takeMemory_14 rfl rfl ?_
    refine a_iadd dX4_takeMemory_15 rfl ?_
    obtain ⟨r16, h16, hc16, hf⟩ := am_bind_some hf
    refine a_callV (As := [.int (v2 + v3)]) (r1 := (some (.int r16), Γ, h16)) (sX0_at l k_v1 hc16) ccX0_at tw_584 tw_309 tw_310 (ci := 0) rfl (by decide) ⟨Nat.le_of_ble_eq_true rfl, Nat.le_of_ble_eq_true rfl, Nat.le_of_ble_eq_true rfl, Nat.le_of_ble_eq_true rfl⟩ dX4_takeMemory_16 rfl k_v1 rfl (Nat.le_of_ble_eq_true rfl) rfl rfl (fun hr16 => ?_)
    obtain ⟨r19, h19, hc19, hf⟩ := am_bind_some hf
    refine a_callV (As := [.int v3, .int r16]) (r1 := (none, Γ, h19)) (sX4_setByte l k_v0 hc19) ccX4_setByte tw_357 tw_358 tw_359 (ci := 4) rfl (by decide) ⟨Nat.le_of_ble_eq_true rfl, Nat.le_of_ble_eq_true rfl, Nat.le_of_ble_eq_true rfl, Nat.le_of_ble_eq_true rfl⟩ dX4_takeMemory_19 rfl k_v0 rfl (Nat.le_of_ble_eq_true rfl) rfl rfl (fun hr19 => ?_)
    refine a_iinc (v := v3 + nI 1) (L' := [some (.ref v0), some (.ref v1), some (.int v2), some (.int (v3 + nI 1))]) dX4_takeMemory_22 rfl rfl rfl (Nat.le_of_ble_eq_true rfl) (fun _ _ hv => by cases hv; rfl) rfl ?_
    refine a_goto (t := 2) dX4_takeMemory_25 rfl ?_
    exact AW.weak (ih v0 v1 v2 (v3 + nI 1) h19 _ k_v0 _ k_v1 hf) ⟨rfl, ⟨rfl, ⟨rfl, ⟨rfl, trivial⟩⟩⟩⟩
set_option maxRecDepth 100000 in
set_option maxHeartbeats 4000000 in
theorem sX4_takeMemory (l : Launch) {Γ : Gm} {h h' : AH} {v0 : Nat} {v1 : Nat} {v2 : Int32} {r : Unit} {n_v0 : Nat} (k_v0 : Γ[v0]? = some (4, n_v0)) {n_v1 : Nat} (k_v1 : Γ[v1]? = some (0, n_v1)) (hf : fX4_takeMemory Γ v0 v1 v2 h = some (r, h')) : AR l yX4_takeMemory mX4_takeMemory [.ref v0, .ref v1, .int v2] Γ h (none, Γ, h') := by
  refine AR.of [some (.ref v0), some (.ref v1), some (.int v2), none] (by decide +kernel) rfl (fun z => by cases z) (Nat.le_of_ble_eq_true rfl) ⟨rfl, ⟨rfl, ⟨rfl, trivial⟩⟩⟩ ?_
  unfold fX4_takeMemory at hf
  refine a_iconst (v := nI 0) dX4_takeMemory_0 rfl (by decide) ?_
  refine a_istore_n (L' := [some (.ref v0), some (.ref v1), some (.int v2), some (.int (nI 0))]) dX4_takeMemory_1 rfl (Nat.le_of_ble_eq_true rfl) (fun _ _ hv => by cases hv; rfl) rfl ?_
  exact AW.weak (wX4_takeMemory_2 l am_fuel v0 v1 v2 (nI 0) h _ k_v0 _ k_v1 hf) ⟨rfl, ⟨rfl, ⟨rfl, ⟨rfl, trivial⟩⟩⟩⟩
set_option maxRecDepth 100000 in
set_option maxHeartbeats 4000000 in
theorem sX3_readMemory (l : Launch) {Γ : Gm} {h h' : AH} {v0 : Nat} {v1 : Int32} {v2 : Int32} {v3 : Nat} {r : Int32} {n_v0 : Nat} (k_v0 : Γ[v0]? = some (3, n_v0)) {n_v3 : Nat} (k_v3 : Γ[v3]? = some (4, n_v3)) (hf : fX3_readMemory Γ v0 v1 v2 v3 h = some (r, h')) : AR l yX3_readMemory mX3_readMemory [.ref v0, .int v1, .int v2, .ref v3] Γ h (some (.int r), Γ, h') := by
  refine AR.of [some (.ref v0), some (.int v1), some (.int v2), some (.ref v3), none] (by decide +kernel) rfl (fun z => by cases z) (Nat.le_of_ble_eq_true rfl) ⟨rfl, ⟨rfl, ⟨rfl, ⟨rfl, trivial⟩⟩⟩⟩ ?_
  unfold fX3_readMemory at hf
  refine a_aload_n dX3_readMemory_0 rfl rfl ?_
  refine a_getI fl_RX3_20 dX3_readMemory_1 rfl k_v0 rfl ?_
  refine a_if_ne (t := 16) dX3_readMemory_4 rfl rfl hf (fun _ hf => ?_) (fun _ hf => ?_)
  · refine a_iconst (v := nI 5) dX3_readMemory_7 rfl (by decide) ?_
    refine a_aload_n dX3_readMemory_8 rfl rfl ?_
    refine a_getI fl_RX3_30 dX3_readMemory_9 rfl k_v0 rfl ?_
    obtain ⟨r12, h12, hc12, hf⟩ := am_bind_some hf
    refine a_callSN (As := [.int (nI 5), .int (h.1 v0 4)]) (r1 := (some (.int r12), Γ, h12)) (sX8_fault l hc12) ccX8_fault tn_548 tw_549 ⟨Nat.le_of_ble_eq_true rfl, Nat.le_of_ble_eq_true rfl, Nat.le_of_ble_eq_true rfl, Nat.le_of_ble_eq_true rfl⟩ dX3_readMemory_12 rfl rfl (Nat.le_of_ble_eq_true rfl) rfl rfl (fun hr12 => ?_)
    cases hf
    exact a_iret dX3_readMemory_15 rfl rfl rfl (by decide)
  refine a_aload_n dX3_readMemory_16 rfl rfl ?_
  refine a_iconst (v := nI 1) dX3_readMemory_17 rfl (by decide) ?_
  refine a_putZ fp_RX3_24 dX3_readMemory_18 rfl k_v0 rfl (by decide) hf (fun h18 hf => ?_)
  refine a_aload_n dX3_readMemory_21 rfl rfl ?_
  refine a_getI fl_RX3_30 dX3_readMemory_22 rfl k_v0 rfl ?_
  refine a_bipush (v := nI 8) dX3_readMemory_25 rfl (by decide) ?_
  refine a_iadd dX3_readMemory_27 rfl ?_
  refine a_nmI hf (fun x28 hf => ?_)
  refine a_istore (L' := [some (.ref v0), some (.int v1), some (.int v2), some (.ref v3), some (.int x28)]) dX3_readMemory_28 rfl (Nat.le_of_ble_eq_true rfl) (fun _ _ hv => by cases hv; rfl) rfl ?_
  refine a_iload_n dX3_readMemory_30 rfl rfl ?_
  refine a_ldc (v := nI 1129145709) dX3_readMemory_31 rfl tw_579 ?_
  refine a_icmp_ne (t := 51) dX3_readMemory_33 rfl rfl hf (fun _ hf => ?_) (fun _ hf => ?_)
  · refine a_aload_n dX3_readMemory_36 rfl rfl ?_
    refine a_aload_n dX3_readMemory_37 rfl rfl ?_
    refine a_getR fl_RX3_14 dX3_readMemory_38 rfl k_v0 rfl (by decide) hf (fun b38 n_b38 _ k_b38 hf => ?_)
    refine a_iload dX3_readMemory_41 rfl rfl ?_
    refine a_iload dX3_readMemory_43 rfl rfl ?_
    refine a_iload_n dX3_readMemory_45 rfl rfl ?_
    refine a_iadd dX3_readMemory_46 rfl ?_
    obtain ⟨r47, h47, hc47, hf⟩ := am_bind_some hf
    refine a_callV (As := [.ref b38, .int x28, .int (x28 + v2)]) (r1 := (some (.int r47), Γ, h47)) (sX4_takeRuns l k_v3 k_b38 hc47) ccX4_takeRuns tw_580 tw_581 tw_582 (ci := 4) rfl (by decide) ⟨Nat.le_of_ble_eq_true rfl, Nat.le_of_ble_eq_true rfl, Nat.le_of_ble_eq_true rfl, Nat.le_of_ble_eq_true rfl⟩ dX3_readMemory_47 rfl k_v3 rfl (Nat.le_of_ble_eq_true rfl) rfl rfl (fun hr47 => ?_)
    cases hf
    exact a_iret dX3_readMemory_50 rfl rfl rfl (by decide)
  refine a_iload_n dX3_readMemory_51 rfl rfl ?_
  refine a_aload_n dX3_readMemory_52 rfl rfl ?_
  refine a_getI fl_RX3_99 dX3_readMemory_53 rfl k_v3 rfl ?_
  refine a_icmp_eq (t := 71) dX3_readMemory_56 rfl rfl hf (fun _ hf => ?_) (fun _ hf => ?_)
  · refine a_aload_n dX3_readMemory_71 rfl rfl ?_
    refine a_aload_n dX3_readMemory_72 rfl rfl ?_
    refine a_getR fl_RX3_14 dX3_readMemory_73 rfl k_v0 rfl (by decide) hf (fun b73 n_b73 _ k_b73 hf => ?_)
    refine a_iload dX3_readMemory_76 rfl rfl ?_
    obtain ⟨r78, h78, hc78, hf⟩ := am_bind_some hf
    refine a_callV (As := [.ref b73, .int x28]) (r1 := (none, Γ, h78)) (sX4_takeMemory l k_v3 k_b73 hc78) ccX4_takeMemory tw_586 tw_587 tw_588 (ci := 4) rfl (by decide) ⟨Nat.le_of_ble_eq_true rfl, Nat.le_of_ble_eq_true rfl, Nat.le_of_ble_eq_true rfl, Nat.le_of_ble_eq_true rfl⟩ dX3_readMemory_78 rfl k_v3 rfl (Nat.le_of_ble_eq_true rfl) rfl rfl (fun hr78 => ?_)
    refine a_iconst (v := nI 0) dX3_readMemory_81 rfl (by decide) ?_
    cases hf
    exact a_iret dX3_readMemory_82 rfl rfl rfl (by decide)
  refine a_bipush (v := nI 7) dX3_readMemory_59 rfl (by decide) ?_
  refine a_aload_n dX3_readMemory_61 rfl rfl ?_
  refine a_getI fl_RX3_30 dX3_readMemory_62 rfl k_v0 rfl ?_
  refine a_iconst (v := nI 4) dX3_readMemory_65 rfl (by decide) ?_
  refine a_iadd dX3_readMemory_66 rfl ?_
  obtain ⟨r67, h67, hc67, hf⟩ := am_bind_some hf
  refine a_callSN (As := [.int (nI 7), .int ((h18.1 v0 4) + (nI 4))]) (r1 := (some (.int r67), Γ, h67)) (sX8_fault l hc67) ccX8_fault tn_548 tw_549 ⟨Nat.le_of_ble_eq_true rfl, Nat.le_of_ble_eq_true rfl, Nat.le_of_ble_eq_true rfl, Nat.le_of_ble_eq_true rfl⟩ dX3_readMemory_67 rfl rfl (Nat.le_of_ble_eq_true rfl) rfl rfl (fun hr67 => ?_)
  cases hf
  exact a_iret dX3_readMemory_70 rfl rfl rfl (by decide)
set_option maxRecDepth 100000 in
set_option maxHeartbeats 4000000 in
theorem sX6_add (l : Launch) {Γ : Gm} {h h' : AH} {v0 : Nat} {v1 : Int32} {v2 : Nat} {v3 : Int32} {v4 : Int32} {r : Int32} {n_v0 : Nat} (k_v0 : Γ[v0]? = some (6, n_v0)) {n_v2 : Nat} (k_v2 : Γ[v2]? = some (0, n_v2)) (hf : fX6_add Γ v0 v1 v2 v3 v4 h = some (r, h')) : AR l yX6_add mX6_add [.ref v0, .int v1, .ref v2, .int v3, .int v4] Γ h (some (.int r), Γ, h') := by
  refine AR.of [some (.ref v0), some (.int v1), some (.ref v2), some (.int v3), some (.int v4)] (by decide +kernel) rfl (fun z => by cases z) (Nat.le_of_ble_eq_true rfl) ⟨rfl, ⟨rfl, ⟨rfl, ⟨rfl, ⟨rfl, trivial⟩⟩⟩⟩⟩ ?_
  unfold fX6_add at hf
  refine a_aload_n dX6_add_0 rfl rfl ?_
  refine a_getI fl_RX6_27 dX6_add_1 rfl k_v0 rfl ?_
  refine a_if_lt (t := 24) dX6_add_4 rfl rfl hf (fun _ hf => ?_) (fun _ hf => ?_)
  · refine a_iconst (v := nI 0) dX6_add_24 rfl (by decide) ?_
    cases hf
    exact a_zret dX6_add_25 rfl rfl rfl (by decide)
  refine a_aload_n dX6_add_7 rfl rfl ?_
  refine a_getI fl_RX6_27 dX6_add_8 rfl k_v0 rfl ?_
  refine a_bipush (v := nI 8) dX6_add_11 rfl (by decide) ?_
  refine a_icmp_ge (t := 24) dX6_add_13 rfl rfl hf (fun _ hf => ?_) (fun _ hf => ?_)
  · refine a_iconst (v := nI 0) dX6_add_24 rfl (by decide) ?_
    cases hf
    exact a_zret dX6_add_25 rfl rfl rfl (by decide)
  refine a_iload dX6_add_16 rfl rfl ?_
  refine a_sipush (v := nI 200) dX6_add_18 rfl (by decide) ?_
  refine a_icmp_le (t := 26) dX6_add_21 rfl rfl hf (fun _ hf => ?_) (fun _ hf => ?_)
  · refine a_aload_n dX6_add_26 rfl rfl ?_
    refine a_getR fl_RX6_20 dX6_add_27 rfl k_v0 rfl (by decide) hf (fun b27 n_b27 _ k_b27 hf => ?_)
    refine a_aload_n dX6_add_30 rfl rfl ?_
    refine a_getI fl_RX6_27 dX6_add_31 rfl k_v0 rfl ?_
    refine a_iload_n dX6_add_34 rfl rfl ?_
    refine a_iast dX6_add_35 rfl k_b27 hf (fun h35 hf => ?_)
    refine a_aload_n dX6_add_36 rfl rfl ?_
    refine a_getR fl_RX6_24 dX6_add_37 rfl k_v0 rfl (by decide) hf (fun b37 n_b37 _ k_b37 hf => ?_)
    refine a_aload_n dX6_add_40 rfl rfl ?_
    refine a_getI fl_RX6_27 dX6_add_41 rfl k_v0 rfl ?_
    refine a_iload dX6_add_44 rfl rfl ?_
    refine a_iast dX6_add_46 rfl k_b37 hf (fun h46 hf => ?_)
    refine a_aload_n dX6_add_47 rfl rfl ?_
    refine a_getR fl_RX6_14 dX6_add_48 rfl k_v0 rfl (by decide) hf (fun b48 n_b48 _ k_b48 hf => ?_)
    refine a_aload_n dX6_add_51 rfl rfl ?_
    refine a_iload_n dX6_add_52 rfl rfl ?_
    refine a_iload dX6_add_53 rfl rfl ?_
    obtain ⟨r55, h55, hc55, hf⟩ := am_bind_some hf
    refine a_callV (As := [.ref v2, .int v3, .int v4]) (r1 := (none, Γ, h55)) (sX0_addPart l k_b48 k_v2 hc55) ccX0_addPart tw_622 tw_329 tw_330 (ci := 0) rfl (by decide) ⟨Nat.le_of_ble_eq_true rfl, Nat.le_of_ble_eq_true rfl, Nat.le_of_ble_eq_true rfl, Nat.le_of_ble_eq_true rfl⟩ dX6_add_55 rfl k_b48 rfl (Nat.le_of_ble_eq_true rfl) rfl rfl (fun hr55 => ?_)
    refine a_aload_n dX6_add_58 rfl rfl ?_
    refine a_dup dX6_add_59 rfl rfl ?_
    refine a_getI fl_RX6_27 dX6_add_60 rfl k_v0 rfl ?_
    refine a_iconst (v := nI 1) dX6_add_63 rfl (by decide) ?_
    refine a_iadd dX6_add_64 rfl ?_
    refine a_putI fp_RX6_27 dX6_add_65 rfl k_v0 rfl hf (fun h65 hf => ?_)
    refine a_iconst (v := nI 1) dX6_add_68 rfl (by decide) ?_
    cases hf
    exact a_zret dX6_add_69 rfl rfl rfl (by decide)
  refine a_iconst (v := nI 0) dX6_add_24 rfl (by decide) ?_
  cases hf
  exact a_zret dX6_add_25 rfl rfl rfl (by decide)
set_option maxRecDepth 100000 in
set_option maxHeartbeats 4000000 in
theorem wX3_readContents_87 (l : Launch) {Γ : Gm} {r : Int32} {h' : AH} (v0 : Nat) (v1 : Int32) (v3 : Nat) (v5 : Int32) (h : AH) : ∀ n_v0 : Nat, Γ[v0]? = some (3, n_v0) → ∀ n_v3 : Nat, Γ[v3]? = some (4, n_v3) → fX3_readContents_87 Γ v0 v1 v3 v5 h = some (r, h') → AW l mX3_readContents (some (.int r), Γ, h') 0 0 87 [some (.ref v0), some (.int v1), none, some (.ref v3), none, some (.int v5), none] [] Γ h := by
  intro n_v0 k_v0 n_v3 k_v3 hf
  unfold fX3_readContents_87 at hf
  refine a_aload_n dX3_readContents_87 rfl rfl ?_
  refine a_getI fl_RX3_24 dX3_readContents_88 rfl k_v0 rfl ?_
  refine a_if_eq (t := 98) dX3_readContents_91 rfl rfl hf (fun _ hf => ?_) (fun _ hf => ?_)
  · refine a_aload_n dX3_readContents_98 rfl rfl ?_
    refine a_iload dX3_readContents_99 rfl rfl ?_
    refine a_iload_n dX3_readContents_101 rfl rfl ?_
    refine a_aload_n dX3_readContents_102 rfl rfl ?_
    obtain ⟨r103, h103, hc103, hf⟩ := am_bind_some hf
    refine a_callV (As := [.int v5, .int v1, .ref v3]) (r1 := (some (.int r103), Γ, h103)) (sX3_readMemory l k_v0 k_v3 hc103) ccX3_readMemory tw_575 tw_577 tp_6 (ci := 3) rfl (by decide) ⟨Nat.le_of_ble_eq_true rfl, Nat.le_of_ble_eq_true rfl, Nat.le_of_ble_eq_true rfl, Nat.le_of_ble_eq_true rfl⟩ dX3_readContents_103 rfl k_v0 rfl (Nat.le_of_ble_eq_true rfl) rfl rfl (fun hr103 => ?_)
    cases hf
    exact a_iret dX3_readContents_106 rfl rfl rfl (by decide)
  refine a_iconst (v := nI 0) dX3_readContents_94 rfl (by decide) ?_
  refine a_goto (t := 106) dX3_readContents_95 rfl ?_
  cases hf
  exact a_iret dX3_readContents_106 rfl rfl rfl (by decide)
set_option maxRecDepth 100000 in
set_option maxHeartbeats 4000000 in
theorem sX3_readContents (l : Launch) {Γ : Gm} {h h' : AH} {v0 : Nat} {v1 : Int32} {v2 : Nat} {v3 : Nat} {v4 : Nat} {r : Int32} {n_v0 : Nat} (k_v0 : Γ[v0]? = some (3, n_v0)) {n_v2 : Nat} (k_v2 : Γ[v2]? = some (5, n_v2)) {n_v3 : Nat} (k_v3 : Γ[v3]? = some (4, n_v3)) {n_v4 : Nat} (k_v4 : Γ[v4]? = some (6, n_v4)) (hf : fX3_readContents Γ v0 v1 v2 v3 v4 h = some (r, h')) : AR l yX3_readContents mX3_readContents [.ref v0, .int v1, .ref v2, .ref v3, .ref v4] Γ h (some (.int r), Γ, h') := by
  refine AR.of [some (.ref v0), some (.int v1), some (.ref v2), some (.ref v3), some (.ref v4), none, none] (by decide +kernel) rfl (fun z => by cases z) (Nat.le_of_ble_eq_true rfl) ⟨rfl, ⟨rfl, ⟨rfl, ⟨rfl, ⟨rfl, trivial⟩⟩⟩⟩⟩ ?_
  unfold fX3_readContents at hf
  refine a_aload_n dX3_readContents_0 rfl rfl ?_
  refine a_getR fl_RX3_14 dX3_readContents_1 rfl k_v0 rfl (by decide) hf (fun b1 n_b1 _ k_b1 hf => ?_)
  refine a_aload_n dX3_readContents_4 rfl rfl ?_
  refine a_getI fl_RX3_30 dX3_readContents_5 rfl k_v0 rfl ?_
  refine a_iconst (v := nI 4) dX3_readContents_8 rfl (by decide) ?_
  obtain ⟨r9, h9, hc9, hf⟩ := am_bind_some hf
  refine a_callV (As := [.int (h.1 v0 4), .int (nI 4)]) (r1 := (some (.int r9), Γ, h9)) (sX0_number l k_b1 hc9) ccX0_number tw_551 tw_552 tw_553 (ci := 0) rfl (by decide) ⟨Nat.le_of_ble_eq_true rfl, Nat.le_of_ble_eq_true rfl, Nat.le_of_ble_eq_true rfl, Nat.le_of_ble_eq_true rfl⟩ dX3_readContents_9 rfl k_b1 rfl (Nat.le_of_ble_eq_true rfl) rfl rfl (fun hr9 => ?_)
  refine a_istore (L' := [some (.ref v0), some (.int v1), some (.ref v2), some (.ref v3), some (.ref v4), some (.int r9), none]) dX3_readContents_12 rfl (Nat.le_of_ble_eq_true rfl) (fun _ _ hv => by cases hv; rfl) rfl ?_
  refine a_aload_n dX3_readContents_14 rfl rfl ?_
  refine a_getI fl_RX3_30 dX3_readContents_15 rfl k_v0 rfl ?_
  refine a_bipush (v := nI 8) dX3_readContents_18 rfl (by decide) ?_
  refine a_iadd dX3_readContents_20 rfl ?_
  refine a_nmI hf (fun x21 hf => ?_)
  refine a_istore (L' := [some (.ref v0), some (.int v1), some (.ref v2), some (.ref v3), some (.ref v4), some (.int r9), some (.int x21)]) dX3_readContents_21 rfl (Nat.le_of_ble_eq_true rfl) (fun _ _ hv => by cases hv; rfl) rfl ?_
  refine a_iload dX3_readContents_23 rfl rfl ?_
  refine am_if hf (fun hx hf => ?_) (fun hx0 hf => ?_)
  · refine a_lsw (off := 62) (t := 87) dX3_readContents_25 (by decide) (by rw [hx]; decide) rfl ?_
    exact AW.weak (wX3_readContents_87 l v0 v1 v3 r9 h9 _ k_v0 _ k_v3 hf) ⟨rfl, ⟨rfl, ⟨rfl, ⟨rfl, trivial⟩⟩⟩⟩
  refine am_if hf (fun hx hf => ?_) (fun hx1 hf => ?_)
  · refine a_lsw (off := 43) (t := 68) dX3_readContents_25 (by decide) (by rw [hx]; decide) rfl ?_
    refine a_aload_n dX3_readContents_68 rfl rfl ?_
    refine a_getI fl_RX3_20 dX3_readContents_69 rfl k_v0 rfl ?_
    refine a_if_eq (t := 79) dX3_readContents_72 rfl rfl hf (fun _ hf => ?_) (fun _ hf => ?_)
    · refine a_aload_n dX3_readContents_79 rfl rfl ?_
      refine a_iload_n dX3_readContents_80 rfl rfl ?_
      refine a_aload_n dX3_readContents_81 rfl rfl ?_
      refine a_aload_n dX3_readContents_82 rfl rfl ?_
      obtain ⟨r83, h83, hc83, hf⟩ := am_bind_some hf
      refine a_callV (As := [.int v1, .ref v2, .ref v3]) (r1 := (some (.int r83), Γ, h83)) (sX3_readHead l k_v0 k_v2 k_v3 hc83) ccX3_readHead tw_567 tw_569 tp_5 (ci := 3) rfl (by decide) ⟨Nat.le_of_ble_eq_true rfl, Nat.le_of_ble_eq_true rfl, Nat.le_of_ble_eq_true rfl, Nat.le_of_ble_eq_true rfl⟩ dX3_readContents_83 rfl k_v0 rfl (Nat.le_of_ble_eq_true rfl) rfl rfl (fun hr83 => ?_)
      cases hf
      exact a_iret dX3_readContents_86 rfl rfl rfl (by decide)
    refine a_iconst (v := nI 0) dX3_readContents_75 rfl (by decide) ?_
    refine a_goto (t := 86) dX3_readContents_76 rfl ?_
    cases hf
    exact a_iret dX3_readContents_86 rfl rfl rfl (by decide)
  refine am_if hf (fun hx hf => ?_) (fun hx2 hf => ?_)
  · refine a_lsw (off := 82) (t := 107) dX3_readContents_25 (by decide) (by rw [hx]; decide) rfl ?_
    refine a_aload_n dX3_readContents_107 rfl rfl ?_
    refine a_getI fl_RX3_27 dX3_readContents_108 rfl k_v0 rfl ?_
    refine a_if_eq (t := 116) dX3_readContents_111 rfl rfl hf (fun _ hf => ?_) (fun _ hf => ?_)
    · refine a_aload_n dX3_readContents_116 rfl rfl ?_
      refine a_iconst (v := nI 1) dX3_readContents_117 rfl (by decide) ?_
      refine a_putZ fp_RX3_27 dX3_readContents_118 rfl k_v0 rfl (by decide) hf (fun h118 hf => ?_)
      refine a_aload_n dX3_readContents_121 rfl rfl ?_
      refine a_aload_n dX3_readContents_122 rfl rfl ?_
      refine a_getR fl_RX3_14 dX3_readContents_123 rfl k_v0 rfl (by decide) hf (fun b123 n_b123 _ k_b123 hf => ?_)
      refine a_iload dX3_readContents_126 rfl rfl ?_
      refine a_iload dX3_readContents_128 rfl rfl ?_
      refine a_iload_n dX3_readContents_130 rfl rfl ?_
      refine a_iadd dX3_readContents_131 rfl ?_
      obtain ⟨r132, h132, hc132, hf⟩ := am_bind_some hf
      refine a_callV (As := [.ref b123, .int x21, .int (x21 + v1)]) (r1 := (some (.int r132), Γ, h132)) (sX4_takeFrames l k_v3 k_b123 hc132) ccX4_takeFrames tw_590 tw_591 tw_592 (ci := 4) rfl (by decide) ⟨Nat.le_of_ble_eq_true rfl, Nat.le_of_ble_eq_true rfl, Nat.le_of_ble_eq_true rfl, Nat.le_of_ble_eq_true rfl⟩ dX3_readContents_132 rfl k_v3 rfl (Nat.le_of_ble_eq_true rfl) rfl rfl (fun hr132 => ?_)
      cases hf
      exact a_iret dX3_readContents_135 rfl rfl rfl (by decide)
    refine a_iconst (v := nI 0) dX3_readContents_114 rfl (by decide) ?_
    cases hf
    exact a_iret dX3_readContents_115 rfl rfl rfl (by decide)
  refine am_if hf (fun hx hf => ?_) (fun hx3 hf => ?_)
  · refine a_lsw (off := 62) (t := 87) dX3_readContents_25 (by decide) (by rw [hx]; decide) rfl ?_
    exact AW.weak (wX3_readContents_87 l v0 v1 v3 r9 h9 _ k_v0 _ k_v3 hf) ⟨rfl, ⟨rfl, ⟨rfl, ⟨rfl, trivial⟩⟩⟩⟩
  refine a_lsw (off := 111) (t := 136) dX3_readContents_25 (by decide) (by show Op.lookupswitch.offset [(1129145709, 62), (1229351012, 43), (1400138611, 82), (1431135597, 62)] 111 _ = _; rw [lv_osw hx0 (by decide), lv_osw hx1 (by decide), lv_osw hx2 (by decide), lv_osw hx3 (by decide)]; rfl) rfl ?_
  refine a_aload dX3_readContents_136 rfl rfl ?_
  refine a_iload dX3_readContents_138 rfl rfl ?_
  refine a_aload_n dX3_readContents_140 rfl rfl ?_
  refine a_getR fl_RX3_14 dX3_readContents_141 rfl k_v0 rfl (by decide) hf (fun b141 n_b141 _ k_b141 hf => ?_)
  refine a_iload dX3_readContents_144 rfl rfl ?_
  refine a_iload_n dX3_readContents_146 rfl rfl ?_
  obtain ⟨r147, h147, hc147, hf⟩ := am_bind_some hf
  refine a_callV (As := [.int r9, .ref b141, .int x21, .int v1]) (r1 := (some (.int r147), Γ, h147)) (sX6_add l k_v4 k_b141 hc147) ccX6_add tw_618 tw_619 tw_620 (ci := 6) rfl (by decide) ⟨Nat.le_of_ble_eq_true rfl, Nat.le_of_ble_eq_true rfl, Nat.le_of_ble_eq_true rfl, Nat.le_of_ble_eq_true rfl⟩ dX3_readContents_147 rfl k_v4 rfl (Nat.le_of_ble_eq_true rfl) rfl rfl (fun hr147 => ?_)
  refine a_if_eq (t := 157) dX3_readContents_150 rfl rfl hf (fun _ hf => ?_) (fun _ hf => ?_)
  · refine a_bipush (v := nI 9) dX3_readContents_157 rfl (by decide) ?_
    refine a_aload_n dX3_readContents_159 rfl rfl ?_
    refine a_getI fl_RX3_30 dX3_readContents_160 rfl k_v0 rfl ?_
    obtain ⟨r163, h163, hc163, hf⟩ := am_bind_some hf
    refine a_callSN (As := [.int (nI 9), .int (h147.1 v0 4)]) (r1 := (some (.int r163), Γ, h163)) (sX8_fault l hc163) ccX8_fault tn_548 tw_549 ⟨Nat.le_of_ble_eq_true rfl, Nat.le_of_ble_eq_true rfl, Nat.le_of_ble_eq_true rfl, Nat.le_of_ble_eq_true rfl⟩ dX3_readContents_163 rfl rfl (Nat.le_of_ble_eq_true rfl) rfl rfl (fun hr163 => ?_)
    cases hf
    exact a_iret dX3_readContents_166 rfl rfl rfl (by decide)
  refine a_iconst (v := nI 0) dX3_readContents_153 rfl (by decide) ?_
  refine a_goto (t := 166) dX3_readContents_154 rfl ?_
  cases hf
  exact a_iret dX3_readContents_166 rfl rfl rfl (by decide)
