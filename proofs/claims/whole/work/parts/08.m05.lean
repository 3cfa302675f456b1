set_option maxRecDepth 100000 in
set_option maxHeartbeats 4000000 in
theorem wX3_shapeFault_44 (l : Launch) {Γ : Gm} {r : Int32} {h' : AH} (v0 : Nat) (h : AH) : ∀ n_v0 : Nat, Γ[v0]? = some (3, n_v0) → fX3_shapeFault_44 Γ v0 h = some (r, h') → AW l mX3_shapeFault (some (.int r), Γ, h') 0 0 44 [some (.ref v0), none, none, none] [] Γ h := by
  intro n_v0 k_v0 hf
  unfold fX3_shapeFault_44 at hf
  refine a_iconst (v := (1 : Int32)) dX3_shapeFault_44 rfl (by decide) ?_
  refine a_aload_n dX3_shapeFault_45 rfl rfl ?_
  refine a_getR fl_RX3_14 dX3_shapeFault_46 rfl k_v0 rfl (by decide) hf (fun b46 n_b46 _ k_b46 hf => ?_)
  refine a_getI fl_RX3_49 dX3_shapeFault_49 rfl k_b46 rfl ?_
  obtain ⟨r52, h52, hc52, hf⟩ := am_bind_some hf
  refine a_callSN (As := [.int ((1 : Int32)), .int (h.1 b46 1)]) (r1 := (some (.int r52), Γ, h52)) (sX8_fault l hc52) ccX8_fault tn_548 tw_549 ⟨Nat.le_of_ble_eq_true rfl, Nat.le_of_ble_eq_true rfl, Nat.le_of_ble_eq_true rfl, Nat.le_of_ble_eq_true rfl⟩ dX3_shapeFault_52 rfl rfl (Nat.le_of_ble_eq_true rfl) rfl rfl (fun hr52 => ?_)
  cases hf
  exact a_iret dX3_shapeFault_55 rfl rfl rfl (by decide)
set_option maxRecDepth 100000 in
set_option maxHeartbeats 4000000 in
theorem sX3_shapeFault (l : Launch) {Γ : Gm} {h h' : AH} {v0 : Nat} {r : Int32} {n_v0 : Nat} (k_v0 : Γ[v0]? = some (3, n_v0)) (hf : fX3_shapeFault Γ v0 h = some (r, h')) : AR l yX3_shapeFault mX3_shapeFault [.ref v0] Γ h (some (.int r), Γ, h') := by
  refine AR.of [some (.ref v0), none, none, none] (by decide +kernel) rfl (fun z => by cases z) (Nat.le_of_ble_eq_true rfl) ⟨rfl, trivial⟩ ?_
  unfold fX3_shapeFault at hf
  refine a_aload_n dX3_shapeFault_0 rfl rfl ?_
  refine a_getR fl_RX3_14 dX3_shapeFault_1 rfl k_v0 rfl (by decide) hf (fun b1 n_b1 _ k_b1 hf => ?_)
  refine a_getI fl_RX3_49 dX3_shapeFault_4 rfl k_b1 rfl ?_
  refine a_aload_n dX3_shapeFault_7 rfl rfl ?_
  refine a_getI fl_RX3_30 dX3_shapeFault_8 rfl k_v0 rfl ?_
  refine a_isub dX3_shapeFault_11 rfl ?_
  refine a_bipush (v := (8 : Int32)) dX3_shapeFault_12 rfl (by decide) ?_
  refine a_isub dX3_shapeFault_14 rfl ?_
  refine a_nmI hf (fun x15 hf => ?_)
  refine a_istore_n (L' := [some (.ref v0), some (.int x15), none, none]) dX3_shapeFault_15 rfl (Nat.le_of_ble_eq_true rfl) (fun _ _ hv => by cases hv; rfl) rfl ?_
  refine a_aload_n dX3_shapeFault_16 rfl rfl ?_
  refine a_getR fl_RX3_14 dX3_shapeFault_17 rfl k_v0 rfl (by decide) hf (fun b17 n_b17 _ k_b17 hf => ?_)
  refine a_aload_n dX3_shapeFault_20 rfl rfl ?_
  refine a_getI fl_RX3_30 dX3_shapeFault_21 rfl k_v0 rfl ?_
  refine a_iconst (v := (4 : Int32)) dX3_shapeFault_24 rfl (by decide) ?_
  refine a_iadd dX3_shapeFault_25 rfl ?_
  refine a_iconst (v := (4 : Int32)) dX3_shapeFault_26 rfl (by decide) ?_
  obtain ⟨r27, h27, hc27, hf⟩ := am_bind_some hf
  refine a_callV (As := [.int ((h.1 v0 4) + ((4 : Int32))), .int ((4 : Int32))]) (r1 := (some (.int r27), Γ, h27)) (sX0_number l k_b17 hc27) ccX0_number tw_551 tw_552 tw_553 (ci := 0) rfl (by decide) ⟨Nat.le_of_ble_eq_true rfl, Nat.le_of_ble_eq_true rfl, Nat.le_of_ble_eq_true rfl, Nat.le_of_ble_eq_true rfl⟩ dX3_shapeFault_27 rfl k_b17 rfl (Nat.le_of_ble_eq_true rfl) rfl rfl (fun hr27 => ?_)
  refine a_istore_n (L' := [some (.ref v0), some (.int x15), some (.int r27), none]) dX3_shapeFault_30 rfl (Nat.le_of_ble_eq_true rfl) (fun _ _ hv => by cases hv; rfl) rfl ?_
  refine a_iload_n dX3_shapeFault_31 rfl rfl ?_
  refine a_if_lt (t := 44) dX3_shapeFault_32 rfl rfl hf (fun _ hf => ?_) (fun _ hf => ?_)
  · exact AW.weak (wX3_shapeFault_44 l v0 h27 _ k_v0 hf) ⟨rfl, trivial⟩
  refine a_iload_n dX3_shapeFault_35 rfl rfl ?_
  refine a_if_lt (t := 44) dX3_shapeFault_36 rfl rfl hf (fun _ hf => ?_) (fun _ hf => ?_)
  · exact AW.weak (wX3_shapeFault_44 l v0 h27 _ k_v0 hf) ⟨rfl, trivial⟩
  refine a_iload_n dX3_shapeFault_39 rfl rfl ?_
  refine a_iload_n dX3_shapeFault_40 rfl rfl ?_
  refine a_icmp_le (t := 56) dX3_shapeFault_41 rfl rfl hf (fun _ hf => ?_) (fun _ hf => ?_)
  · refine a_iload_n dX3_shapeFault_56 rfl rfl ?_
    refine a_iconst (v := (1 : Int32)) dX3_shapeFault_57 rfl (by decide) ?_
    refine a_iand dX3_shapeFault_58 rfl ?_
    refine a_if_ne (t := 64) dX3_shapeFault_59 rfl rfl hf (fun _ hf => ?_) (fun _ hf => ?_)
    · refine a_iconst (v := (0 : Int32)) dX3_shapeFault_62 rfl (by decide) ?_
      cases hf
      exact a_iret dX3_shapeFault_63 rfl rfl rfl (by decide)
    refine a_iload_n dX3_shapeFault_64 rfl rfl ?_
    refine a_iload_n dX3_shapeFault_65 rfl rfl ?_
    refine a_icmp_ne (t := 81) dX3_shapeFault_66 rfl rfl hf (fun _ hf => ?_) (fun _ hf => ?_)
    · refine a_iconst (v := (1 : Int32)) dX3_shapeFault_69 rfl (by decide) ?_
      refine a_aload_n dX3_shapeFault_70 rfl rfl ?_
      refine a_getR fl_RX3_14 dX3_shapeFault_71 rfl k_v0 rfl (by decide) hf (fun b71 n_b71 _ k_b71 hf => ?_)
      refine a_getI fl_RX3_49 dX3_shapeFault_74 rfl k_b71 rfl ?_
      obtain ⟨r77, h77, hc77, hf⟩ := am_bind_some hf
      refine a_callSN (As := [.int ((1 : Int32)), .int (h27.1 b71 1)]) (r1 := (some (.int r77), Γ, h77)) (sX8_fault l hc77) ccX8_fault tn_548 tw_549 ⟨Nat.le_of_ble_eq_true rfl, Nat.le_of_ble_eq_true rfl, Nat.le_of_ble_eq_true rfl, Nat.le_of_ble_eq_true rfl⟩ dX3_shapeFault_77 rfl rfl (Nat.le_of_ble_eq_true rfl) rfl rfl (fun hr77 => ?_)
      cases hf
      exact a_iret dX3_shapeFault_80 rfl rfl rfl (by decide)
    refine a_aload_n dX3_shapeFault_81 rfl rfl ?_
    refine a_getI fl_RX3_30 dX3_shapeFault_82 rfl k_v0 rfl ?_
    refine a_bipush (v := (8 : Int32)) dX3_shapeFault_85 rfl (by decide) ?_
    refine a_iadd dX3_shapeFault_87 rfl ?_
    refine a_iload_n dX3_shapeFault_88 rfl rfl ?_
    refine a_iadd dX3_shapeFault_89 rfl ?_
    refine a_nmI hf (fun x90 hf => ?_)
    refine a_istore_n (L' := [some (.ref v0), some (.int x15), some (.int r27), some (.int x90)]) dX3_shapeFault_90 rfl (Nat.le_of_ble_eq_true rfl) (fun _ _ hv => by cases hv; rfl) rfl ?_
    refine a_aload_n dX3_shapeFault_91 rfl rfl ?_
    refine a_getR fl_RX3_14 dX3_shapeFault_92 rfl k_v0 rfl (by decide) hf (fun b92 n_b92 _ k_b92 hf => ?_)
    refine a_iload_n dX3_shapeFault_95 rfl rfl ?_
    obtain ⟨r96, h96, hc96, hf⟩ := am_bind_some hf
    refine a_callV (As := [.int x90]) (r1 := (some (.int r96), Γ, h96)) (sX0_at l k_b92 hc96) ccX0_at tw_562 tw_309 tw_310 (ci := 0) rfl (by decide) ⟨Nat.le_of_ble_eq_true rfl, Nat.le_of_ble_eq_true rfl, Nat.le_of_ble_eq_true rfl, Nat.le_of_ble_eq_true rfl⟩ dX3_shapeFault_96 rfl k_b92 rfl (Nat.le_of_ble_eq_true rfl) rfl rfl (fun hr96 => ?_)
    refine a_if_eq (t := 110) dX3_shapeFault_99 rfl rfl hf (fun _ hf => ?_) (fun _ hf => ?_)
    · refine a_iconst (v := (0 : Int32)) dX3_shapeFault_110 rfl (by decide) ?_
      cases hf
      exact a_iret dX3_shapeFault_111 rfl rfl rfl (by decide)
    refine a_iconst (v := (4 : Int32)) dX3_shapeFault_102 rfl (by decide) ?_
    refine a_iload_n dX3_shapeFault_103 rfl rfl ?_
    obtain ⟨r104, h104, hc104, hf⟩ := am_bind_some hf
    refine a_callSN (As := [.int ((4 : Int32)), .int x90]) (r1 := (some (.int r104), Γ, h104)) (sX8_fault l hc104) ccX8_fault tn_548 tw_549 ⟨Nat.le_of_ble_eq_true rfl, Nat.le_of_ble_eq_true rfl, Nat.le_of_ble_eq_true rfl, Nat.le_of_ble_eq_true rfl⟩ dX3_shapeFault_104 rfl rfl (Nat.le_of_ble_eq_true rfl) rfl rfl (fun hr104 => ?_)
    refine a_goto (t := 111) dX3_shapeFault_107 rfl ?_
    cases hf
    exact a_iret dX3_shapeFault_111 rfl rfl rfl (by decide)
  exact AW.weak (wX3_shapeFault_44 l v0 h27 _ k_v0 hf) ⟨rfl, trivial⟩
set_option maxRecDepth 100000 in
set_option maxHeartbeats 4000000 in
theorem sX6_clear (l : Launch) {Γ : Gm} {h h' : AH} {v0 : Nat} {r : Unit} {n_v0 : Nat} (k_v0 : Γ[v0]? = some (6, n_v0)) (hf : fX6_clear Γ v0 h = some (r, h')) : AR l yX6_clear mX6_clear [.ref v0] Γ h (none, Γ, h') := by
  refine AR.of [some (.ref v0)] (by decide +kernel) rfl (fun z => by cases z) (Nat.le_of_ble_eq_true rfl) ⟨rfl, trivial⟩ ?_
  unfold fX6_clear at hf
  refine a_aload_n dX6_clear_0 rfl rfl ?_
  refine a_getR fl_RX6_14 dX6_clear_1 rfl k_v0 rfl (by decide) hf (fun b1 n_b1 _ k_b1 hf => ?_)
  obtain ⟨r4, h4, hc4, hf⟩ := am_bind_some hf
  refine a_callV (As := []) (r1 := (none, Γ, h4)) (sX0_clear l k_b1 hc4) ccX0_clear tw_373 tw_325 tw_326 (ci := 0) rfl (by decide) ⟨Nat.le_of_ble_eq_true rfl, Nat.le_of_ble_eq_true rfl, Nat.le_of_ble_eq_true rfl, Nat.le_of_ble_eq_true rfl⟩ dX6_clear_4 rfl k_b1 rfl (Nat.le_of_ble_eq_true rfl) rfl rfl (fun hr4 => ?_)
  refine a_aload_n dX6_clear_7 rfl rfl ?_
  refine a_iconst (v := (0 : Int32)) dX6_clear_8 rfl (by decide) ?_
  refine a_putI fp_RX6_27 dX6_clear_9 rfl k_v0 rfl hf (fun h9 hf => ?_)
  cases hf
  exact a_ret dX6_clear_12 rfl rfl rfl
set_option maxRecDepth 100000 in
set_option maxHeartbeats 4000000 in
theorem wX4_takeMemory_2 (l : Launch) {Γ : Gm} {r : Unit} {h' : AH} : ∀ (z : Nat) (v0 : Nat) (v1 : Nat) (v2 : Int32) (v3 : Int32) (h : AH), ∀ n_v0 : Nat, Γ[v0]? = some (4, n_v0) → ∀ n_v1 : Nat, Γ[v1]? = some (0, n_v1) → fX4_takeMemory_2 Γ z v0 v1 v2 v3 h = some (r, h') → AW l mX4_takeMemory (none, Γ, h') 0 0 2 [some (.ref v0), some (.ref v1), some (.int v2), some (.int v3)] [] Γ h := by
  intro z
  induction z with
  | zero => intro v0 v1 v2 v3 h n_v0 k_v0 n_v1 k_v1 hf; cases hf
  | succ z ih =>
    intro v0 v1 v2 v3 h n_v0 k_v0 n_v1 k_v1 hf
    unfold fX4_takeMemory_2 at hf
    refine a_iload_n dX4_takeMemory_2 rfl rfl ?_
    refine a_aload_n dX4_takeMemory_3 rfl rfl ?_
    refine a_getI fl_RX4_21 dX4_takeMemory_4 rfl k_v0 rfl ?_
    refine a_icmp_ge (t := 28) dX4_takeMemory_7 rfl rfl hf (fun _ hf => ?_) (fun _ hf => ?_)
    · cases hf
      exact a_ret dX4_takeMemory_28 rfl rfl rfl
    refine a_aload_n dX4_takeMemory_10 rfl rfl ?_
    refine a_iload_n dX4_takeMemory_11 rfl rfl ?_
    refine a_aload_n dX4_takeMemory_12 rfl rfl ?_
    refine a_iload_n dX4_takeMemory_13 rfl rfl ?_
    refine a_iload_n dX4_takeMemory_14 rfl rfl ?_
    refine a_iadd dX4_takeMemory_15 rfl ?_
    obtain ⟨r16, h16, hc16, hf⟩ := am_bind_some hf
    refine a_callV (As := [.int (v2 + v3)]) (r1 := (some (.int r16), Γ, h16)) (sX0_at l k_v1 hc16) ccX0_at tw_584 tw_309 tw_310 (ci := 0) rfl (by decide) ⟨Nat.le_of_ble_eq_true rfl, Nat.le_of_ble_eq_true rfl, Nat.le_of_ble_eq_true rfl, Nat.le_of_ble_eq_true rfl⟩ dX4_takeMemory_16 rfl k_v1 rfl (Nat.le_of_ble_eq_true rfl) rfl rfl (fun hr16 => ?_)
    obtain ⟨r19, h19, hc19, hf⟩ := am_bind_some hf
    refine a_callV (As := [.int v3, .int r16]) (r1 := (none, Γ, h19)) (sX4_setByte l k_v0 hc19) ccX4_setByte tw_357 tw_358 tw_359 (ci := 4) rfl (by decide) ⟨Nat.le_of_ble_eq_true rfl, Nat.le_of_ble_eq_true rfl, Nat.le_of_ble_eq_true rfl, Nat.le_of_ble_eq_true rfl⟩ dX4_takeMemory_19 rfl k_v0 rfl (Nat.le_of_ble_eq_true rfl) rfl rfl (fun hr19 => ?_)
    refine a_iinc (v := v3 + (1 : Int32)) (L' := [some (.ref v0), some (.ref v1), some (.int v2), some (.int (v3 + (1 : Int32)))]) dX4_takeMemory_22 rfl rfl rfl (Nat.le_of_ble_eq_true rfl) (fun _ _ hv => by cases hv; rfl) rfl ?_
    refine a_goto (t := 2) dX4_takeMemory_25 rfl ?_
    exact AW.weak (ih v0 v1 v2 (v3 + (1 : Int32)) h19 _ k_v0 _ k_v1 hf) ⟨rfl, ⟨rfl, ⟨rfl, ⟨rfl, trivial⟩⟩⟩⟩
set_option maxRecDepth 100000 in
set_option maxHeartbeats 4000000 in
theorem sX4_takeMemory (l : Launch) {Γ : Gm} {h h' : AH} {v0 : Nat} {v1 : Nat} {v2 : Int32} {r : Unit} {n_v0 : Nat} (k_v0 : Γ[v0]? = some (4, n_v0)) {n_v1 : Nat} (k_v1 : Γ[v1]? = some (0, n_v1)) (hf : fX4_takeMemory Γ v0 v1 v2 h = some (r, h')) : AR l yX4_takeMemory mX4_takeMemory [.ref v0, .ref v1, .int v2] Γ h (none, Γ, h') := by
  refine AR.of [some (.ref v0), some (.ref v1), some (.int v2), none] (by decide +kernel) rfl (fun z => by cases z) (Nat.le_of_ble_eq_true rfl) ⟨rfl, ⟨rfl, ⟨rfl, trivial⟩⟩⟩ ?_
  unfold fX4_takeMemory at hf
  refine a_iconst (v := (0 : Int32)) dX4_takeMemory_0 rfl (by decide) ?_
  refine a_istore_n (L' := [some (.ref v0), some (.ref v1), some (.int v2), some (.int ((0 : Int32)))]) dX4_takeMemory_1 rfl (Nat.le_of_ble_eq_true rfl) (fun _ _ hv => by cases hv; rfl) rfl ?_
  exact AW.weak (wX4_takeMemory_2 l am_fuel v0 v1 v2 ((0 : Int32)) h _ k_v0 _ k_v1 hf) ⟨rfl, ⟨rfl, ⟨rfl, ⟨rfl, trivial⟩⟩⟩⟩
set_option maxRecDepth 100000 in
set_option maxHeartbeats 4000000 in
theorem sX3_readMemory (l : Launch) {Γ : Gm} {h h' : AH} {v0 : Nat} {v1 : Int32} {v2 : Int32} {v3 : Nat} {r : Int32} {n_v0 : Nat} (k_v0 : Γ[v0]? = some (3, n_v0)) {n_v3 : Nat} (k_v3 : Γ[v3]? = some (4, n_v3)) (hf : fX3_readMemory Γ v0 v1 v2 v3 h = some (r, h')) : AR l yX3_readMemory mX3_readMemory [.ref v0, .int v1, .int v2, .ref v3] Γ h (some (.int r), Γ, h') := by
  refine AR.of [some (.ref v0), some (.int v1), some (.int v2), some (.ref v3), none] (by decide +kernel) rfl (fun z => by cases z) (Nat.le_of_ble_eq_true rfl) ⟨rfl, ⟨rfl, ⟨rfl, ⟨rfl, trivial⟩⟩⟩⟩ ?_
  unfold fX3_readMemory at hf
  refine a_aload_n dX3_readMemory_0 rfl rfl ?_
  refine a_getI fl_RX3_20 dX3_readMemory_1 rfl k_v0 rfl ?_
  refine a_if_ne (t := 16) dX3_readMemory_4 rfl rfl hf (fun _ hf => ?_) (fun _ hf => ?_)
  · refine a_iconst (v := (5 : Int32)) dX3_readMemory_7 rfl (by decide) ?_
    refine a_aload_n dX3_readMemory_8 rfl rfl ?_
    refine a_getI fl_RX3_30 dX3_readMemory_9 rfl k_v0 rfl ?_
    obtain ⟨r12, h12, hc12, hf⟩ := am_bind_some hf
    refine a_callSN (As := [.int ((5 : Int32)), .int (h.1 v0 4)]) (r1 := (some (.int r12), Γ, h12)) (sX8_fault l hc12) ccX8_fault tn_548 tw_549 ⟨Nat.le_of_ble_eq_true rfl, Nat.le_of_ble_eq_true rfl, Nat.le_of_ble_eq_true rfl, Nat.le_of_ble_eq_true rfl⟩ dX3_readMemory_12 rfl rfl (Nat.le_of_ble_eq_true rfl) rfl rfl (fun hr12 => ?_)
    cases hf
    exact a_iret dX3_readMemory_15 rfl rfl rfl (by decide)
  refine a_aload_n dX3_readMemory_16 rfl rfl ?_
  refine a_iconst (v := (1 : Int32)) dX3_readMemory_17 rfl (by decide) ?_
  refine a_putZ fp_RX3_24 dX3_readMemory_18 rfl k_v0 rfl (by decide) hf (fun h18 hf => ?_)
  refine a_aload_n dX3_readMemory_21 rfl rfl ?_
  refine a_getI fl_RX3_30 dX3_readMemory_22 rfl k_v0 rfl ?_
  refine a_bipush (v := (8 : Int32)) dX3_readMemory_25 rfl (by decide) ?_
  refine a_iadd dX3_readMemory_27 rfl ?_
  refine a_nmI hf (fun x28 hf => ?_)
  refine a_istore (L' := [some (.ref v0), some (.int v1), some (.int v2), some (.ref v3), some (.int x28)]) dX3_readMemory_28 rfl (Nat.le_of_ble_eq_true rfl) (fun _ _ hv => by cases hv; rfl) rfl ?_
  refine a_iload_n dX3_readMemory_30 rfl rfl ?_
  refine a_ldc (v := (1129145709 : Int32)) dX3_readMemory_31 rfl tw_579 ?_
  refine a_icmp_ne (t := 51) dX3_readMemory_33 rfl rfl hf (fun _ hf => ?_) (fun _ hf => ?_)
  · refine a_aload_n dX3_readMemory_36 rfl rfl ?_
    refine a_aload_n dX3_readMemory_37 rfl rfl ?_
    refine a_getR fl_RX3_14 dX3_readMemory_38 rfl k_v0 rfl (by decide) hf (fun b38 n_b38 _ k_b38 hf => ?_)
    refine a_iload dX3_readMemory_41 rfl rfl ?_
    refine a_iload dX3_readMemory_43 rfl rfl ?_
    refine a_iload_n dX3_readMemory_45 rfl rfl ?_
    refine a_iadd dX3_readMemory_46 rfl ?_
    obtain ⟨r47, h47, hc47, hf⟩ := am_bind_some hf
    refine a_callV (As := [.ref b38, .int x28, .int (x28 + v2)]) (r1 := (some (.int r47), Γ, h47)) (sX4_takeRuns l k_v3 k_b38 hc47) ccX4_takeRuns tw_580 tw_581 tw_582 (ci := 4) rfl (by decide) ⟨Nat.le_of_ble_eq_true rfl, Nat.le_of_ble_eq_true rfl, Nat.le_of_ble_eq_true rfl, Nat.le_of_ble_eq_true rfl⟩ dX3_readMemory_47 rfl k_v3 rfl (Nat.le_of_ble_eq_true rfl) rfl rfl (fun hr47 => ?_)
    cases hf
    exact a_iret dX3_readMemory_50 rfl rfl rfl (by decide)
  refine a_iload_n dX3_readMemory_51 rfl rfl ?_
  refine a_aload_n dX3_readMemory_52 rfl rfl ?_
  refine a_getI fl_RX3_99 dX3_readMemory_53 rfl k_v3 rfl ?_
  refine a_icmp_eq (t := 71) dX3_readMemory_56 rfl rfl hf (fun _ hf => ?_) (fun _ hf => ?_)
  · refine a_aload_n dX3_readMemory_71 rfl rfl ?_
    refine a_aload_n dX3_readMemory_72 rfl rfl ?_
    refine a_getR fl_RX3_14 dX3_readMemory_73 rfl k_v0 rfl (by decide) hf (fun b73 n_b73 _ k_b73 hf => ?_)
    refine a_iload dX3_readMemory_76 rfl rfl ?_
    obtain ⟨r78, h78, hc78, hf⟩ := am_bind_some hf
    refine a_callV (As := [.ref b73, .int x28]) (r1 := (none, Γ, h78)) (sX4_takeMemory l k_v3 k_b73 hc78) ccX4_takeMemory tw_586 tw_587 tw_588 (ci := 4) rfl (by decide) ⟨Nat.le_of_ble_eq_true rfl, Nat.le_of_ble_eq_true rfl, Nat.le_of_ble_eq_true rfl, Nat.le_of_ble_eq_true rfl⟩ dX3_readMemory_78 rfl k_v3 rfl (Nat.le_of_ble_eq_true rfl) rfl rfl (fun hr78 => ?_)
    refine a_iconst (v := (0 : Int32)) dX3_readMemory_81 rfl (by decide) ?_
    cases hf
    exact a_iret dX3_readMemory_82 rfl rfl rfl (by decide)
  refine a_bipush (v := (7 : Int32)) dX3_readMemory_59 rfl (by decide) ?_
  refine a_aload_n dX3_readMemory_61 rfl rfl ?_
  refine a_getI fl_RX3_30 dX3_readMemory_62 rfl k_v0 rfl ?_
  refine a_iconst (v := (4 : Int32)) dX3_readMemory_65 rfl (by decide) ?_
  refine a_iadd dX3_readMemory_66 rfl ?_
  obtain ⟨r67, h67, hc67, hf⟩ := am_bind_some hf
  refine a_callSN (As := [.int ((7 : Int32)), .int ((h18.1 v0 4) + ((4 : Int32)))]) (r1 := (some (.int r67), Γ, h67)) (sX8_fault l hc67) ccX8_fault tn_548 tw_549 ⟨Nat.le_of_ble_eq_true rfl, Nat.le_of_ble_eq_true rfl, Nat.le_of_ble_eq_true rfl, Nat.le_of_ble_eq_true rfl⟩ dX3_readMemory_67 rfl rfl (Nat.le_of_ble_eq_true rfl) rfl rfl (fun hr67 => ?_)
  cases hf
  exact a_iret dX3_readMemory_70 rfl rfl rfl (by decide)
set_option maxRecDepth 100000 in
set_option maxHeartbeats 4000000 in
theorem sX6_add (l : Launch) {Γ : Gm} {h h' : AH} {v0 : Nat} {v1 : Int32} {v2 : Nat} {v3 : Int32} {v4 : Int32} {r : Int32} {n_v0 : Nat} (k_v0 : Γ[v0]? = some (6, n_v0)) {n_v2 : Nat} (k_v2 : Γ[v2]? = some (0, n_v2)) (hf : fX6_add Γ v0 v1 v2 v3 v4 h = some (r, h')) : AR l yX6_add mX6_add [.ref v0, .int v1, .ref v2, .int v3, .int v4] Γ h (some (.int r), Γ, h') := by
  refine AR.of [some (.ref v0), some (.int v1), some (.ref v2), some (.int v3), some (.int v4)] (by decide +kernel) rfl (fun z => by cases z) (Nat.le_of_ble_eq_true rfl) ⟨rfl, ⟨rfl, ⟨rfl, ⟨rfl, ⟨rfl, trivial⟩⟩⟩⟩⟩ ?_
  unfold fX6_add at hf
  refine a_aload_n dX6_add_0 rfl rfl ?_
  refine a_getI fl_RX6_27 dX6_add_1 rfl k_v0 rfl ?_
  refine a_if_lt (t := 24) dX6_add_4 rfl rfl hf (fun _ hf => ?_) (fun _ hf => ?_)
  · refine a_iconst (v := (0 : Int32)) dX6_add_24 rfl (by decide) ?_
    cases hf
    exact a_zret dX6_add_25 rfl rfl rfl (by decide)
  refine a_aload_n dX6_add_7 rfl rfl ?_
  refine a_getI fl_RX6_27 dX6_add_8 rfl k_v0 rfl ?_
  refine a_bipush (v := (8 : Int32)) dX6_add_11 rfl (by decide) ?_
  refine a_icmp_ge (t := 24) dX6_add_13 rfl rfl hf (fun _ hf => ?_) (fun _ hf => ?_)
  · refine a_iconst (v := (0 : Int32)) dX6_add_24 rfl (by decide) ?_
    cases hf
    exact a_zret dX6_add_25 rfl rfl rfl (by decide)
  refine a_iload dX6_add_16 rfl rfl ?_
  refine a_sipush (v := (200 : Int32)) dX6_add_18 rfl (by decide) ?_
  refine a_icmp_le (t := 26) dX6_add_21 rfl rfl hf (fun _ hf => ?_) (fun _ hf => ?_)
  · refine a_aload_n dX6_add_26 rfl rfl ?_
    refine a_getR fl_RX6_20 dX6_add_27 rfl k_v0 rfl (by decide) hf (fun b27 n_b27 _ k_b27 hf => ?_)
    refine a_aload_n dX6_add_30 rfl rfl ?_
    refine a_getI fl_RX6_27 dX6_add_31 rfl k_v0 rfl ?_
    refine a_iload_n dX6_add_34 rfl rfl ?_
    refine a_iast dX6_add_35 rfl k_b27 hf (fun h35 hf => ?_)
    refine a_aload_n dX6_add_36 rfl rfl ?_
    refine a_getR fl_RX6_24 dX6_add_37 rfl k_v0 rfl (by decide) hf (fun b37 n_b37 _ k_b37 hf => ?_)
    refine a_aload_n dX6_add_40 rfl rfl ?_
    refine a_getI fl_RX6_27 dX6_add_41 rfl k_v0 rfl ?_
    refine a_iload dX6_add_44 rfl rfl ?_
    refine a_iast dX6_add_46 rfl k_b37 hf (fun h46 hf => ?_)
    refine a_aload_n dX6_add_47 rfl rfl ?_
    refine a_getR fl_RX6_14 dX6_add_48 rfl k_v0 rfl (by decide) hf (fun b48 n_b48 _ k_b48 hf => ?_)
    refine a_aload_n dX6_add_51 rfl rfl ?_
    refine a_iload_n dX6_add_52 rfl rfl ?_
    refine a_iload dX6_add_53 rfl rfl ?_
    obtain ⟨r55, h55, hc55, hf⟩ := am_bind_some hf
    refine a_callV (As := [.ref v2, .int v3, .int v4]) (r1 := (none, Γ, h55)) (sX0_addPart l k_b48 k_v2 hc55) ccX0_addPart tw_622 tw_329 tw_330 (ci := 0) rfl (by decide) ⟨Nat.le_of_ble_eq_true rfl, Nat.le_of_ble_eq_true rfl, Nat.le_of_ble_eq_true rfl, Nat.le_of_ble_eq_true rfl⟩ dX6_add_55 rfl k_b48 rfl (Nat.le_of_ble_eq_true rfl) rfl rfl (fun hr55 => ?_)
    refine a_aload_n dX6_add_58 rfl rfl ?_
    refine a_dup dX6_add_59 rfl rfl ?_
    refine a_getI fl_RX6_27 dX6_add_60 rfl k_v0 rfl ?_
    refine a_iconst (v := (1 : Int32)) dX6_add_63 rfl (by decide) ?_
    refine a_iadd dX6_add_64 rfl ?_
    refine a_putI fp_RX6_27 dX6_add_65 rfl k_v0 rfl hf (fun h65 hf => ?_)
    refine a_iconst (v := (1 : Int32)) dX6_add_68 rfl (by decide) ?_
    cases hf
    exact a_zret dX6_add_69 rfl rfl rfl (by decide)
  refine a_iconst (v := (0 : Int32)) dX6_add_24 rfl (by decide) ?_
  cases hf
  exact a_zret dX6_add_25 rfl rfl rfl (by decide)
set_option maxRecDepth 100000 in
set_option maxHeartbeats 4000000 in
theorem sX5_headAt (l : Launch) {Γ : Gm} {h h' : AH} {v0 : Nat} {v1 : Int32} {r : Int32} {n_v0 : Nat} (k_v0 : Γ[v0]? = some (5, n_v0)) (hf : fX5_headAt Γ v0 v1 h = some (r, h')) : AR l yX5_headAt mX5_headAt [.ref v0, .int v1] Γ h (some (.int r), Γ, h') := by
  refine AR.of [some (.ref v0), some (.int v1)] (by decide +kernel) rfl (fun z => by cases z) (Nat.le_of_ble_eq_true rfl) ⟨rfl, ⟨rfl, trivial⟩⟩ ?_
  unfold fX5_headAt at hf
  refine a_iload_n dX5_headAt_0 rfl rfl ?_
  refine a_if_lt (t := 22) dX5_headAt_1 rfl rfl hf (fun _ hf => ?_) (fun _ hf => ?_)
  · refine a_iconst (v := (0 : Int32)) dX5_headAt_22 rfl (by decide) ?_
    cases hf
    exact a_iret dX5_headAt_23 rfl rfl rfl (by decide)
  refine a_iload_n dX5_headAt_4 rfl rfl ?_
  refine a_aload_n dX5_headAt_5 rfl rfl ?_
  refine a_getR fl_RX5_9 dX5_headAt_6 rfl k_v0 rfl (by decide) hf (fun b6 n_b6 _ k_b6 hf => ?_)
  refine a_alen dX5_headAt_9 rfl k_b6 ?_
  refine a_icmp_ge (t := 22) dX5_headAt_10 rfl rfl hf (fun _ hf => ?_) (fun _ hf => ?_)
  · refine a_iconst (v := (0 : Int32)) dX5_headAt_22 rfl (by decide) ?_
    cases hf
    exact a_iret dX5_headAt_23 rfl rfl rfl (by decide)
  refine a_aload_n dX5_headAt_13 rfl rfl ?_
  refine a_getR fl_RX5_9 dX5_headAt_14 rfl k_v0 rfl (by decide) hf (fun b14 n_b14 _ k_b14 hf => ?_)
  refine a_iload_n dX5_headAt_17 rfl rfl ?_
  refine a_iald dX5_headAt_18 rfl k_b14 hf (fun hf => ?_)
  refine a_goto (t := 23) dX5_headAt_19 rfl ?_
  cases hf
  exact a_iret dX5_headAt_23 rfl rfl rfl (by decide)
set_option maxRecDepth 100000 in
set_option maxHeartbeats 4000000 in
theorem wX3_readHead_30 (l : Launch) {Γ : Gm} {r : Int32} {h' : AH} : ∀ (z : Nat) (v0 : Nat) (v2 : Nat) (v3 : Nat) (v4 : Int32) (v5 : Int32) (h : AH), ∀ n_v0 : Nat, Γ[v0]? = some (3, n_v0) → ∀ n_v2 : Nat, Γ[v2]? = some (5, n_v2) → ∀ n_v3 : Nat, Γ[v3]? = some (4, n_v3) → fX3_readHead_30 Γ z v0 v2 v3 v4 v5 h = some (r, h') → AW l mX3_readHead (some (.int r), Γ, h') 0 0 30 [some (.ref v0), none, some (.ref v2), some (.ref v3), some (.int v4), some (.int v5)] [] Γ h := by
  intro z
  induction z with
  | zero => intro v0 v2 v3 v4 v5 h n_v0 k_v0 n_v2 k_v2 n_v3 k_v3 hf; cases hf
  | succ z ih =>
    intro v0 v2 v3 v4 v5 h n_v0 k_v0 n_v2 k_v2 n_v3 k_v3 hf
    unfold fX3_readHead_30 at hf
    refine a_iload dX3_readHead_30 rfl rfl ?_
    refine a_bipush (v := (10 : Int32)) dX3_readHead_32 rfl (by decide) ?_
    refine a_icmp_ge (t := 75) dX3_readHead_34 rfl rfl hf (fun _ hf => ?_) (fun _ hf => ?_)
    · refine a_aload_n dX3_readHead_75 rfl rfl ?_
      refine a_aload_n dX3_readHead_76 rfl rfl ?_
      refine a_getR fl_RX3_14 dX3_readHead_77 rfl k_v0 rfl (by decide) hf (fun b77 n_b77 _ k_b77 hf => ?_)
      refine a_iload dX3_readHead_80 rfl rfl ?_
      refine a_bipush (v := (10 : Int32)) dX3_readHead_82 rfl (by decide) ?_
      refine a_iadd dX3_readHead_84 rfl ?_
      refine a_iconst (v := (3 : Int32)) dX3_readHead_85 rfl (by decide) ?_
      obtain ⟨r86, h86, hc86, hf⟩ := am_bind_some hf
      refine a_callV (As := [.int (v4 + ((10 : Int32))), .int ((3 : Int32))]) (r1 := (some (.int r86), Γ, h86)) (sX0_number l k_b77 hc86) ccX0_number tw_551 tw_552 tw_553 (ci := 0) rfl (by decide) ⟨Nat.le_of_ble_eq_true rfl, Nat.le_of_ble_eq_true rfl, Nat.le_of_ble_eq_true rfl, Nat.le_of_ble_eq_true rfl⟩ dX3_readHead_86 rfl k_b77 rfl (Nat.le_of_ble_eq_true rfl) rfl rfl (fun hr86 => ?_)
      refine a_putI fp_RX3_92 dX3_readHead_89 rfl k_v3 rfl hf (fun h89 hf => ?_)
      refine a_aload_n dX3_readHead_92 rfl rfl ?_
      refine a_iconst (v := (1 : Int32)) dX3_readHead_93 rfl (by decide) ?_
      refine a_putZ fp_RX3_20 dX3_readHead_94 rfl k_v0 rfl (by decide) hf (fun h94 hf => ?_)
      refine a_iconst (v := (0 : Int32)) dX3_readHead_97 rfl (by decide) ?_
      cases hf
      exact a_iret dX3_readHead_98 rfl rfl rfl (by decide)
    refine a_aload_n dX3_readHead_37 rfl rfl ?_
    refine a_getR fl_RX3_14 dX3_readHead_38 rfl k_v0 rfl (by decide) hf (fun b38 n_b38 _ k_b38 hf => ?_)
    refine a_iload dX3_readHead_41 rfl rfl ?_
    refine a_iload dX3_readHead_43 rfl rfl ?_
    refine a_iadd dX3_readHead_45 rfl ?_
    obtain ⟨r46, h46, hc46, hf⟩ := am_bind_some hf
    refine a_callV (As := [.int (v4 + v5)]) (r1 := (some (.int r46), Γ, h46)) (sX0_at l k_b38 hc46) ccX0_at tw_562 tw_309 tw_310 (ci := 0) rfl (by decide) ⟨Nat.le_of_ble_eq_true rfl, Nat.le_of_ble_eq_true rfl, Nat.le_of_ble_eq_true rfl, Nat.le_of_ble_eq_true rfl⟩ dX3_readHead_46 rfl k_b38 rfl (Nat.le_of_ble_eq_true rfl) rfl rfl (fun hr46 => ?_)
    refine a_aload_n dX3_readHead_49 rfl rfl ?_
    refine a_iload dX3_readHead_50 rfl rfl ?_
    obtain ⟨r52, h52, hc52, hf⟩ := am_bind_some hf
    refine a_callV (As := [.int v5]) (r1 := (some (.int r52), Γ, h52)) (sX5_headAt l k_v2 hc52) ccX5_headAt tw_571 tw_572 tw_573 (ci := 5) rfl (by decide) ⟨Nat.le_of_ble_eq_true rfl, Nat.le_of_ble_eq_true rfl, Nat.le_of_ble_eq_true rfl, Nat.le_of_ble_eq_true rfl⟩ dX3_readHead_52 rfl k_v2 rfl (Nat.le_of_ble_eq_true rfl) rfl rfl (fun hr52 => ?_)
    refine a_icmp_eq (t := 69) dX3_readHead_55 rfl rfl hf (fun _ hf => ?_) (fun _ hf => ?_)
    · refine a_iinc (v := v5 + (1 : Int32)) (L' := [some (.ref v0), none, some (.ref v2), some (.ref v3), some (.int v4), some (.int (v5 + (1 : Int32)))]) dX3_readHead_69 rfl rfl rfl (Nat.le_of_ble_eq_true rfl) (fun _ _ hv => by cases hv; rfl) rfl ?_
      refine a_goto (t := 30) dX3_readHead_72 rfl ?_
      exact AW.weak (ih v0 v2 v3 v4 (v5 + (1 : Int32)) h52 _ k_v0 _ k_v2 _ k_v3 hf) ⟨rfl, ⟨rfl, ⟨rfl, ⟨rfl, ⟨rfl, trivial⟩⟩⟩⟩⟩
    refine a_bipush (v := (6 : Int32)) dX3_readHead_58 rfl (by decide) ?_
    refine a_iload dX3_readHead_60 rfl rfl ?_
    refine a_iload dX3_readHead_62 rfl rfl ?_
    refine a_iadd dX3_readHead_64 rfl ?_
    obtain ⟨r65, h65, hc65, hf⟩ := am_bind_some hf
    refine a_callSN (As := [.int ((6 : Int32)), .int (v4 + v5)]) (r1 := (some (.int r65), Γ, h65)) (sX8_fault l hc65) ccX8_fault tn_548 tw_549 ⟨Nat.le_of_ble_eq_true rfl, Nat.le_of_ble_eq_true rfl, Nat.le_of_ble_eq_true rfl, Nat.le_of_ble_eq_true rfl⟩ dX3_readHead_65 rfl rfl (Nat.le_of_ble_eq_true rfl) rfl rfl (fun hr65 => ?_)
    cases hf
    exact a_iret dX3_readHead_68 rfl rfl rfl (by decide)
set_option maxRecDepth 100000 in
set_option maxHeartbeats 4000000 in
theorem sX3_readHead (l : Launch) {Γ : Gm} {h h' : AH} {v0 : Nat} {v1 : Int32} {v2 : Nat} {v3 : Nat} {r : Int32} {n_v0 : Nat} (k_v0 : Γ[v0]? = some (3, n_v0)) {n_v2 : Nat} (k_v2 : Γ[v2]? = some (5, n_v2)) {n_v3 : Nat} (k_v3 : Γ[v3]? = some (4, n_v3)) (hf : fX3_readHead Γ v0 v1 v2 v3 h = some (r, h')) : AR l yX3_readHead mX3_readHead [.ref v0, .int v1, .ref v2, .ref v3] Γ h (some (.int r), Γ, h') := by
  refine AR.of [some (.ref v0), some (.int v1), some (.ref v2), some (.ref v3), none, none] (by decide +kernel) rfl (fun z => by cases z) (Nat.le_of_ble_eq_true rfl) ⟨rfl, ⟨rfl, ⟨rfl, ⟨rfl, trivial⟩⟩⟩⟩ ?_
  unfold fX3_readHead at hf
  refine a_iload_n dX3_readHead_0 rfl rfl ?_
  refine a_bipush (v := (13 : Int32)) dX3_readHead_1 rfl (by decide) ?_
  refine a_icmp_eq (t := 18) dX3_readHead_3 rfl rfl hf (fun _ hf => ?_) (fun _ hf => ?_)
  · refine a_aload_n dX3_readHead_18 rfl rfl ?_
    refine a_getI fl_RX3_30 dX3_readHead_19 rfl k_v0 rfl ?_
    refine a_bipush (v := (8 : Int32)) dX3_readHead_22 rfl (by decide) ?_
    refine a_iadd dX3_readHead_24 rfl ?_
    refine a_nmI hf (fun x25 hf => ?_)
    refine a_istore (L' := [some (.ref v0), some (.int v1), some (.ref v2), some (.ref v3), some (.int x25), none]) dX3_readHead_25 rfl (Nat.le_of_ble_eq_true rfl) (fun _ _ hv => by cases hv; rfl) rfl ?_
    refine a_iconst (v := (0 : Int32)) dX3_readHead_27 rfl (by decide) ?_
    refine a_istore (L' := [some (.ref v0), some (.int v1), some (.ref v2), some (.ref v3), some (.int x25), some (.int ((0 : Int32)))]) dX3_readHead_28 rfl (Nat.le_of_ble_eq_true rfl) (fun _ _ hv => by cases hv; rfl) rfl ?_
    exact AW.weak (wX3_readHead_30 l am_fuel v0 v2 v3 x25 ((0 : Int32)) h _ k_v0 _ k_v2 _ k_v3 hf) ⟨rfl, ⟨rfl, ⟨rfl, ⟨rfl, ⟨rfl, trivial⟩⟩⟩⟩⟩
  refine a_bipush (v := (6 : Int32)) dX3_readHead_6 rfl (by decide) ?_
  refine a_aload_n dX3_readHead_8 rfl rfl ?_
  refine a_getI fl_RX3_30 dX3_readHead_9 rfl k_v0 rfl ?_
  refine a_iconst (v := (4 : Int32)) dX3_readHead_12 rfl (by decide) ?_
  refine a_iadd dX3_readHead_13 rfl ?_
  obtain ⟨r14, h14, hc14, hf⟩ := am_bind_some hf
  refine a_callSN (As := [.int ((6 : Int32)), .int ((h.1 v0 4) + ((4 : Int32)))]) (r1 := (some (.int r14), Γ, h14)) (sX8_fault l hc14) ccX8_fault tn_548 tw_549 ⟨Nat.le_of_ble_eq_true rfl, Nat.le_of_ble_eq_true rfl, Nat.le_of_ble_eq_true rfl, Nat.le_of_ble_eq_true rfl⟩ dX3_readHead_14 rfl rfl (Nat.le_of_ble_eq_true rfl) rfl rfl (fun hr14 => ?_)
  cases hf
  exact a_iret dX3_readHead_17 rfl rfl rfl (by decide)
