set_option maxRecDepth 100000 in
set_option maxHeartbeats 4000000 in
theorem wX4_frameFault_35 (l : Launch) {Γ : Gm} {r : Int32} {h' : AH} (v1 : Nat) (v2 : Int32) (v3 : Int32) (s0 : Int32) (h : AH) : ∀ n_v1 : Nat, Γ[v1]? = some (0, n_v1) → fX4_frameFault_35 Γ v1 v2 v3 s0 h = some (r, h') → AW l mX4_frameFault (some (.int r), Γ, h') 0 0 35 [none, some (.ref v1), some (.int v2), some (.int v3), none, none, none] [.int s0] Γ h := by
  intro n_v1 k_v1 hf
  unfold fX4_frameFault_35 at hf
  refine a_istore (L' := [none, some (.ref v1), some (.int v2), some (.int v3), some (.int s0), none, none]) dX4_frameFault_35 rfl (Nat.le_of_ble_eq_true rfl) (fun _ _ hv => by cases hv; rfl) rfl ?_
  refine a_iload dX4_frameFault_37 rfl rfl ?_
  refine a_bipush (v := (-2 : Int32)) dX4_frameFault_39 rfl (by decide) ?_
  refine a_icmp_eq (t := 54) dX4_frameFault_41 rfl rfl hf (fun _ hf => ?_) (fun _ hf => ?_)
  · refine a_aload_n dX4_frameFault_54 rfl rfl ?_
    refine a_iload_n dX4_frameFault_55 rfl rfl ?_
    refine a_bipush (v := nI 6) dX4_frameFault_56 rfl (by decide) ?_
    refine a_iadd dX4_frameFault_58 rfl ?_
    refine a_iconst (v := nI 2) dX4_frameFault_59 rfl (by decide) ?_
    obtain ⟨r60, h60, hc60, hf⟩ := am_bind_some hf
    refine a_callV (As := [.int (v2 + (nI 6)), .int (nI 2)]) (r1 := (some (.int r60), Γ, h60)) (sX0_number l k_v1 hc60) ccX0_number tw_604 tw_552 tw_553 (ci := 0) rfl (by decide) ⟨Nat.le_of_ble_eq_true rfl, Nat.le_of_ble_eq_true rfl, Nat.le_of_ble_eq_true rfl, Nat.le_of_ble_eq_true rfl⟩ dX4_frameFault_60 rfl k_v1 rfl (Nat.le_of_ble_eq_true rfl) rfl rfl (fun hr60 => ?_)
    refine a_istore (L' := [none, some (.ref v1), some (.int v2), some (.int v3), some (.int s0), some (.int r60), none]) dX4_frameFault_63 rfl (Nat.le_of_ble_eq_true rfl) (fun _ _ hv => by cases hv; rfl) rfl ?_
    refine a_iload dX4_frameFault_65 rfl rfl ?_
    refine a_bipush (v := nI 40) dX4_frameFault_67 rfl (by decide) ?_
    refine a_icmp_le (t := 82) dX4_frameFault_69 rfl rfl hf (fun _ hf => ?_) (fun _ hf => ?_)
    · refine a_aload_n dX4_frameFault_82 rfl rfl ?_
      refine a_iload_n dX4_frameFault_83 rfl rfl ?_
      refine a_iconst (v := nI 3) dX4_frameFault_84 rfl (by decide) ?_
      refine a_iadd dX4_frameFault_85 rfl ?_
      obtain ⟨r86, h86, hc86, hf⟩ := am_bind_some hf
      refine a_callV (As := [.int (v2 + (nI 3))]) (r1 := (some (.int r86), Γ, h86)) (sX0_at l k_v1 hc86) ccX0_at tw_584 tw_309 tw_310 (ci := 0) rfl (by decide) ⟨Nat.le_of_ble_eq_true rfl, Nat.le_of_ble_eq_true rfl, Nat.le_of_ble_eq_true rfl, Nat.le_of_ble_eq_true rfl⟩ dX4_frameFault_86 rfl k_v1 rfl (Nat.le_of_ble_eq_true rfl) rfl rfl (fun hr86 => ?_)
      refine a_bipush (v := nI 15) dX4_frameFault_89 rfl (by decide) ?_
      refine a_iand dX4_frameFault_91 rfl ?_
      refine a_iload dX4_frameFault_92 rfl rfl ?_
      refine a_iadd dX4_frameFault_94 rfl ?_
      refine a_nmI hf (fun x95 hf => ?_)
      refine a_istore (L' := [none, some (.ref v1), some (.int v2), some (.int v3), some (.int s0), some (.int r60), some (.int x95)]) dX4_frameFault_95 rfl (Nat.le_of_ble_eq_true rfl) (fun _ _ hv => by cases hv; rfl) rfl ?_
      refine a_iload_n dX4_frameFault_97 rfl rfl ?_
      refine a_iload_n dX4_frameFault_98 rfl rfl ?_
      refine a_isub dX4_frameFault_99 rfl ?_
      refine a_bipush (v := nI 8) dX4_frameFault_100 rfl (by decide) ?_
      refine a_isub dX4_frameFault_102 rfl ?_
      refine a_iconst (v := nI 2) dX4_frameFault_103 rfl (by decide) ?_
      refine a_iload dX4_frameFault_104 rfl rfl ?_
      refine a_imul dX4_frameFault_106 rfl ?_
      refine a_icmp_ge (t := 119) dX4_frameFault_107 rfl rfl hf (fun _ hf => ?_) (fun _ hf => ?_)
      · refine a_iconst (v := nI 0) dX4_frameFault_119 rfl (by decide) ?_
        cases hf
        exact a_iret dX4_frameFault_120 rfl rfl rfl (by decide)
      refine a_bipush (v := nI 8) dX4_frameFault_110 rfl (by decide) ?_
      refine a_iload_n dX4_frameFault_112 rfl rfl ?_
      obtain ⟨r113, h113, hc113, hf⟩ := am_bind_some hf
      refine a_callSN (As := [.int (nI 8), .int v3]) (r1 := (some (.int r113), Γ, h113)) (sX8_fault l hc113) ccX8_fault tn_585 tw_549 ⟨Nat.le_of_ble_eq_true rfl, Nat.le_of_ble_eq_true rfl, Nat.le_of_ble_eq_true rfl, Nat.le_of_ble_eq_true rfl⟩ dX4_frameFault_113 rfl rfl (Nat.le_of_ble_eq_true rfl) rfl rfl (fun hr113 => ?_)
      refine a_goto (t := 120) dX4_frameFault_116 rfl ?_
      cases hf
      exact a_iret dX4_frameFault_120 rfl rfl rfl (by decide)
    refine a_bipush (v := nI 9) dX4_frameFault_72 rfl (by decide) ?_
    refine a_iload_n dX4_frameFault_74 rfl rfl ?_
    refine a_bipush (v := nI 6) dX4_frameFault_75 rfl (by decide) ?_
    refine a_iadd dX4_frameFault_77 rfl ?_
    obtain ⟨r78, h78, hc78, hf⟩ := am_bind_some hf
    refine a_callSN (As := [.int (nI 9), .int (v2 + (nI 6))]) (r1 := (some (.int r78), Γ, h78)) (sX8_fault l hc78) ccX8_fault tn_585 tw_549 ⟨Nat.le_of_ble_eq_true rfl, Nat.le_of_ble_eq_true rfl, Nat.le_of_ble_eq_true rfl, Nat.le_of_ble_eq_true rfl⟩ dX4_frameFault_78 rfl rfl (Nat.le_of_ble_eq_true rfl) rfl rfl (fun hr78 => ?_)
    cases hf
    exact a_iret dX4_frameFault_81 rfl rfl rfl (by decide)
  refine a_bipush (v := nI 8) dX4_frameFault_44 rfl (by decide) ?_
  refine a_iload_n dX4_frameFault_46 rfl rfl ?_
  refine a_iload dX4_frameFault_47 rfl rfl ?_
  refine a_iadd dX4_frameFault_49 rfl ?_
  obtain ⟨r50, h50, hc50, hf⟩ := am_bind_some hf
  refine a_callSN (As := [.int (nI 8), .int (v2 + s0)]) (r1 := (some (.int r50), Γ, h50)) (sX8_fault l hc50) ccX8_fault tn_585 tw_549 ⟨Nat.le_of_ble_eq_true rfl, Nat.le_of_ble_eq_true rfl, Nat.le_of_ble_eq_true rfl, Nat.le_of_ble_eq_true rfl⟩ dX4_frameFault_50 rfl rfl (Nat.le_of_ble_eq_true rfl) rfl rfl (fun hr50 => ?_)
  cases hf
  exact a_iret dX4_frameFault_53 rfl rfl rfl (by decide)
set_option maxRecDepth 100000 in
set_option maxHeartbeats 4000000 in
theorem sX4_frameFault (l : Launch) {Γ : Gm} {h h' : AH} {v0 : Nat} {v1 : Nat} {v2 : Int32} {v3 : Int32} {r : Int32} {n_v0 : Nat} (k_v0 : Γ[v0]? = some (4, n_v0)) {n_v1 : Nat} (k_v1 : Γ[v1]? = some (0, n_v1)) (hf : fX4_frameFault Γ v0 v1 v2 v3 h = some (r, h')) : AR l yX4_frameFault mX4_frameFault [.ref v0, .ref v1, .int v2, .int v3] Γ h (some (.int r), Γ, h') := by
  refine AR.of [some (.ref v0), some (.ref v1), some (.int v2), some (.int v3), none, none, none] (by decide +kernel) rfl (fun z => by cases z) (Nat.le_of_ble_eq_true rfl) ⟨rfl, ⟨rfl, ⟨rfl, ⟨rfl, trivial⟩⟩⟩⟩ ?_
  unfold fX4_frameFault at hf
  refine a_iload_n dX4_frameFault_0 rfl rfl ?_
  refine a_iload_n dX4_frameFault_1 rfl rfl ?_
  refine a_isub dX4_frameFault_2 rfl ?_
  refine a_bipush (v := nI 8) dX4_frameFault_3 rfl (by decide) ?_
  refine a_icmp_ge (t := 15) dX4_frameFault_5 rfl rfl hf (fun _ hf => ?_) (fun _ hf => ?_)
  · refine a_aload_n dX4_frameFault_15 rfl rfl ?_
    refine a_getI fl_RX4_28 dX4_frameFault_16 rfl k_v0 rfl ?_
    refine a_if_ne (t := 30) dX4_frameFault_19 rfl rfl hf (fun _ hf => ?_) (fun _ hf => ?_)
    · refine a_aload_n dX4_frameFault_22 rfl rfl ?_
      refine a_iload_n dX4_frameFault_23 rfl rfl ?_
      obtain ⟨r24, h24, hc24, hf⟩ := am_bind_some hf
      refine a_callS (As := [.ref v1, .int v2]) (r1 := (some (.int r24), Γ, h24)) (sX4_wrongInFirst l k_v1 hc24) ccX4_wrongInFirst tw_598 tw_599 ⟨Nat.le_of_ble_eq_true rfl, Nat.le_of_ble_eq_true rfl, Nat.le_of_ble_eq_true rfl, Nat.le_of_ble_eq_true rfl⟩ dX4_frameFault_24 rfl rfl (Nat.le_of_ble_eq_true rfl) rfl rfl (fun hr24 => ?_)
      refine a_goto (t := 35) dX4_frameFault_27 rfl ?_
      exact AW.weak (wX4_frameFault_35 l v1 v2 v3 r24 h24 _ k_v1 hf) ⟨rfl, ⟨rfl, ⟨rfl, trivial⟩⟩⟩
    refine a_aload_n dX4_frameFault_30 rfl rfl ?_
    refine a_iload_n dX4_frameFault_31 rfl rfl ?_
    obtain ⟨r32, h32, hc32, hf⟩ := am_bind_some hf
    refine a_callS (As := [.ref v1, .int v2]) (r1 := (some (.int r32), Γ, h32)) (sX4_wrongInLater l k_v1 hc32) ccX4_wrongInLater tw_601 tw_602 ⟨Nat.le_of_ble_eq_true rfl, Nat.le_of_ble_eq_true rfl, Nat.le_of_ble_eq_true rfl, Nat.le_of_ble_eq_true rfl⟩ dX4_frameFault_32 rfl rfl (Nat.le_of_ble_eq_true rfl) rfl rfl (fun hr32 => ?_)
    exact AW.weak (wX4_frameFault_35 l v1 v2 v3 r32 h32 _ k_v1 hf) ⟨rfl, ⟨rfl, ⟨rfl, trivial⟩⟩⟩
  refine a_bipush (v := nI 8) dX4_frameFault_8 rfl (by decide) ?_
  refine a_iload_n dX4_frameFault_10 rfl rfl ?_
  obtain ⟨r11, h11, hc11, hf⟩ := am_bind_some hf
  refine a_callSN (As := [.int (nI 8), .int v3]) (r1 := (some (.int r11), Γ, h11)) (sX8_fault l hc11) ccX8_fault tn_585 tw_549 ⟨Nat.le_of_ble_eq_true rfl, Nat.le_of_ble_eq_true rfl, Nat.le_of_ble_eq_true rfl, Nat.le_of_ble_eq_true rfl⟩ dX4_frameFault_11 rfl rfl (Nat.le_of_ble_eq_true rfl) rfl rfl (fun hr11 => ?_)
  cases hf
  exact a_iret dX4_frameFault_14 rfl rfl rfl (by decide)
set_option maxRecDepth 100000 in
set_option maxHeartbeats 4000000 in
theorem sX4_frameAt (l : Launch) {Γ : Gm} {h h' : AH} {v0 : Nat} {v1 : Int32} {r : Option Nat} {n_v0 : Nat} (k_v0 : Γ[v0]? = some (4, n_v0)) (hf : fX4_frameAt Γ v0 v1 h = some (r, h')) : AR l yX4_frameAt mX4_frameAt [.ref v0, .int v1] Γ h (some (am_o r), Γ, h') := by
  refine AR.of [some (.ref v0), some (.int v1)] (by decide +kernel) rfl (fun z => by cases z) (Nat.le_of_ble_eq_true rfl) ⟨rfl, ⟨rfl, trivial⟩⟩ ?_
  unfold fX4_frameAt at hf
  refine a_iload_n dX4_frameAt_0 rfl rfl ?_
  refine a_if_lt (t := 30) dX4_frameAt_1 rfl rfl hf (fun _ hf => ?_) (fun _ hf => ?_)
  · refine a_null dX4_frameAt_30 rfl ?_
    cases hf
    exact a_aretN dX4_frameAt_31 rfl rfl rfl
  refine a_iload_n dX4_frameAt_4 rfl rfl ?_
  refine a_aload_n dX4_frameAt_5 rfl rfl ?_
  refine a_getI fl_RX4_28 dX4_frameAt_6 rfl k_v0 rfl ?_
  refine a_icmp_ge (t := 30) dX4_frameAt_9 rfl rfl hf (fun _ hf => ?_) (fun _ hf => ?_)
  · refine a_null dX4_frameAt_30 rfl ?_
    cases hf
    exact a_aretN dX4_frameAt_31 rfl rfl rfl
  refine a_iload_n dX4_frameAt_12 rfl rfl ?_
  refine a_aload_n dX4_frameAt_13 rfl rfl ?_
  refine a_getR fl_RX4_17 dX4_frameAt_14 rfl k_v0 rfl (by decide) hf (fun b14 n_b14 _ k_b14 hf => ?_)
  refine a_alenF dX4_frameAt_17 rfl k_b14 ?_
  refine a_icmp_ge (t := 30) dX4_frameAt_18 rfl rfl hf (fun _ hf => ?_) (fun _ hf => ?_)
  · refine a_null dX4_frameAt_30 rfl ?_
    cases hf
    exact a_aretN dX4_frameAt_31 rfl rfl rfl
  refine a_aload_n dX4_frameAt_21 rfl rfl ?_
  refine a_getR fl_RX4_17 dX4_frameAt_22 rfl k_v0 rfl (by decide) hf (fun b22 n_b22 _ k_b22 hf => ?_)
  refine a_iload_n dX4_frameAt_25 rfl rfl ?_
  refine a_aald dX4_frameAt_26 rfl k_b22 hf (fun hf => ?_) (fun b26 n_b26 _ k_b26 hf => ?_)
  · refine a_goto (t := 31) dX4_frameAt_27 rfl ?_
    cases hf
    exact a_aretN dX4_frameAt_31 rfl rfl rfl
  refine a_goto (t := 31) dX4_frameAt_27 rfl ?_
  cases hf
  exact a_aretR dX4_frameAt_31 rfl rfl rfl k_b26
set_option maxRecDepth 100000 in
set_option maxHeartbeats 4000000 in
theorem sX4_newest (l : Launch) {Γ : Gm} {h h' : AH} {v0 : Nat} {r : Option Nat} {n_v0 : Nat} (k_v0 : Γ[v0]? = some (4, n_v0)) (hf : fX4_newest Γ v0 h = some (r, h')) : AR l yX4_newest mX4_newest [.ref v0] Γ h (some (am_o r), Γ, h') := by
  refine AR.of [some (.ref v0)] (by decide +kernel) rfl (fun z => by cases z) (Nat.le_of_ble_eq_true rfl) ⟨rfl, trivial⟩ ?_
  unfold fX4_newest at hf
  refine a_aload_n dX4_newest_0 rfl rfl ?_
  refine a_aload_n dX4_newest_1 rfl rfl ?_
  refine a_getI fl_RX4_28 dX4_newest_2 rfl k_v0 rfl ?_
  refine a_iconst (v := nI 1) dX4_newest_5 rfl (by decide) ?_
  refine a_isub dX4_newest_6 rfl ?_
  obtain ⟨r7, h7, hc7, hf⟩ := am_bind_some hf
  refine a_callV (As := [.int ((h.1 v0 4) - (nI 1))]) (r1 := (some (am_o r7), Γ, h7)) (sX4_frameAt l k_v0 hc7) ccX4_frameAt tw_415 tw_416 tw_417 (ci := 4) rfl (by decide) ⟨Nat.le_of_ble_eq_true rfl, Nat.le_of_ble_eq_true rfl, Nat.le_of_ble_eq_true rfl, Nat.le_of_ble_eq_true rfl⟩ dX4_newest_7 rfl k_v0 rfl (Nat.le_of_ble_eq_true rfl) rfl rfl (fun hr7 => ?_)
  cases r7 with
  | none =>
    refine AW.null ?_
    cases hf
    exact a_aretN dX4_newest_10 rfl rfl rfl
  | some b7 =>
    obtain ⟨n_b7, k_b7⟩ := hr7.1 b7 rfl (by decide)
    refine AW.refo ?_
    cases hf
    exact a_aretR dX4_newest_10 rfl rfl rfl k_b7
set_option maxRecDepth 100000 in
set_option maxHeartbeats 4000000 in
theorem sJ6_bitCount_0f7a4 (l : Launch) {Γ : Gm} {h h' : AH} {v0 : Int32} {r : Int32} (hf : fJ6_bitCount_0f7a4 Γ v0 h = some (r, h')) : AR l yJ6_bitCount_0f7a4 mJ6_bitCount_0f7a4 [.int v0] Γ h (some (.int r), Γ, h') := by
  refine AR.of [some (.int v0)] (by decide +kernel) rfl (fun z => by cases z) (Nat.le_of_ble_eq_true rfl) ⟨rfl, trivial⟩ ?_
  unfold fJ6_bitCount_0f7a4 at hf
  refine a_iload_n dJ6_bitCount_0f7a4_0 rfl rfl ?_
  refine a_iload_n dJ6_bitCount_0f7a4_1 rfl rfl ?_
  refine a_iconst (v := nI 1) dJ6_bitCount_0f7a4_2 rfl (by decide) ?_
  refine a_iushr dJ6_bitCount_0f7a4_3 rfl ?_
  refine a_ldcw (v := nI 1431655765) dJ6_bitCount_0f7a4_4 rfl tw_612 ?_
  refine a_iand dJ6_bitCount_0f7a4_7 rfl ?_
  refine a_isub dJ6_bitCount_0f7a4_8 rfl ?_
  refine a_nmI hf (fun x9 hf => ?_)
  refine a_istore_n (L' := [some (.int x9)]) dJ6_bitCount_0f7a4_9 rfl (Nat.le_of_ble_eq_true rfl) (fun _ h0 _ => absurd h0 (by decide)) rfl ?_
  refine a_iload_n dJ6_bitCount_0f7a4_10 rfl rfl ?_
  refine a_ldcw (v := nI 858993459) dJ6_bitCount_0f7a4_11 rfl tw_613 ?_
  refine a_iand dJ6_bitCount_0f7a4_14 rfl ?_
  refine a_iload_n dJ6_bitCount_0f7a4_15 rfl rfl ?_
  refine a_iconst (v := nI 2) dJ6_bitCount_0f7a4_16 rfl (by decide) ?_
  refine a_iushr dJ6_bitCount_0f7a4_17 rfl ?_
  refine a_ldcw (v := nI 858993459) dJ6_bitCount_0f7a4_18 rfl tw_613 ?_
  refine a_iand dJ6_bitCount_0f7a4_21 rfl ?_
  refine a_iadd dJ6_bitCount_0f7a4_22 rfl ?_
  refine a_nmI hf (fun x23 hf => ?_)
  refine a_istore_n (L' := [some (.int x23)]) dJ6_bitCount_0f7a4_23 rfl (Nat.le_of_ble_eq_true rfl) (fun _ h0 _ => absurd h0 (by decide)) rfl ?_
  refine a_iload_n dJ6_bitCount_0f7a4_24 rfl rfl ?_
  refine a_iload_n dJ6_bitCount_0f7a4_25 rfl rfl ?_
  refine a_iconst (v := nI 4) dJ6_bitCount_0f7a4_26 rfl (by decide) ?_
  refine a_iushr dJ6_bitCount_0f7a4_27 rfl ?_
  refine a_iadd dJ6_bitCount_0f7a4_28 rfl ?_
  refine a_ldcw (v := nI 252645135) dJ6_bitCount_0f7a4_29 rfl tw_614 ?_
  refine a_iand dJ6_bitCount_0f7a4_32 rfl ?_
  refine a_nmI hf (fun x33 hf => ?_)
  refine a_istore_n (L' := [some (.int x33)]) dJ6_bitCount_0f7a4_33 rfl (Nat.le_of_ble_eq_true rfl) (fun _ h0 _ => absurd h0 (by decide)) rfl ?_
  refine a_iload_n dJ6_bitCount_0f7a4_34 rfl rfl ?_
  refine a_iload_n dJ6_bitCount_0f7a4_35 rfl rfl ?_
  refine a_bipush (v := nI 8) dJ6_bitCount_0f7a4_36 rfl (by decide) ?_
  refine a_iushr dJ6_bitCount_0f7a4_38 rfl ?_
  refine a_iadd dJ6_bitCount_0f7a4_39 rfl ?_
  refine a_nmI hf (fun x40 hf => ?_)
  refine a_istore_n (L' := [some (.int x40)]) dJ6_bitCount_0f7a4_40 rfl (Nat.le_of_ble_eq_true rfl) (fun _ h0 _ => absurd h0 (by decide)) rfl ?_
  refine a_iload_n dJ6_bitCount_0f7a4_41 rfl rfl ?_
  refine a_iload_n dJ6_bitCount_0f7a4_42 rfl rfl ?_
  refine a_bipush (v := nI 16) dJ6_bitCount_0f7a4_43 rfl (by decide) ?_
  refine a_iushr dJ6_bitCount_0f7a4_45 rfl ?_
  refine a_iadd dJ6_bitCount_0f7a4_46 rfl ?_
  refine a_nmI hf (fun x47 hf => ?_)
  refine a_istore_n (L' := [some (.int x47)]) dJ6_bitCount_0f7a4_47 rfl (Nat.le_of_ble_eq_true rfl) (fun _ h0 _ => absurd h0 (by decide)) rfl ?_
  refine a_iload_n dJ6_bitCount_0f7a4_48 rfl rfl ?_
  refine a_bipush (v := nI 63) dJ6_bitCount_0f7a4_49 rfl (by decide) ?_
  refine a_iand dJ6_bitCount_0f7a4_51 rfl ?_
  cases hf
  exact a_iret dJ6_bitCount_0f7a4_52 rfl rfl rfl (by decide)
set_option maxRecDepth 100000 in
set_option maxHeartbeats 4000000 in
theorem sX4_addFrame (l : Launch) {Γ : Gm} {h h' : AH} {v0 : Nat} {v1 : Int32} {v2 : Int32} {v3 : Int32} {v4 : Int32} {r : Unit} {n_v0 : Nat} (k_v0 : Γ[v0]? = some (4, n_v0)) (hf : fX4_addFrame Γ v0 v1 v2 v3 v4 h = some (r, h')) : AR l yX4_addFrame mX4_addFrame [.ref v0, .int v1, .int v2, .int v3, .int v4] Γ h (none, Γ, h') := by
  refine AR.of [some (.ref v0), some (.int v1), some (.int v2), some (.int v3), some (.int v4)] (by decide +kernel) rfl (fun z => by cases z) (Nat.le_of_ble_eq_true rfl) ⟨rfl, ⟨rfl, ⟨rfl, ⟨rfl, ⟨rfl, trivial⟩⟩⟩⟩⟩ ?_
  unfold fX4_addFrame at hf
  refine a_aload_n dX4_addFrame_0 rfl rfl ?_
  refine a_getI fl_RX4_28 dX4_addFrame_1 rfl k_v0 rfl ?_
  refine a_if_lt (t := 46) dX4_addFrame_4 rfl rfl hf (fun _ hf => ?_) (fun _ hf => ?_)
  · cases hf
    exact a_ret dX4_addFrame_46 rfl rfl rfl
  refine a_aload_n dX4_addFrame_7 rfl rfl ?_
  refine a_getI fl_RX4_28 dX4_addFrame_8 rfl k_v0 rfl ?_
  refine a_aload_n dX4_addFrame_11 rfl rfl ?_
  refine a_getR fl_RX4_17 dX4_addFrame_12 rfl k_v0 rfl (by decide) hf (fun b12 n_b12 _ k_b12 hf => ?_)
  refine a_alenF dX4_addFrame_15 rfl k_b12 ?_
  refine a_icmp_ge (t := 46) dX4_addFrame_16 rfl rfl hf (fun _ hf => ?_) (fun _ hf => ?_)
  · cases hf
    exact a_ret dX4_addFrame_46 rfl rfl rfl
  refine a_aload_n dX4_addFrame_19 rfl rfl ?_
  refine a_getR fl_RX4_17 dX4_addFrame_20 rfl k_v0 rfl (by decide) hf (fun b20 n_b20 _ k_b20 hf => ?_)
  refine a_aload_n dX4_addFrame_23 rfl rfl ?_
  refine a_getI fl_RX4_28 dX4_addFrame_24 rfl k_v0 rfl ?_
  refine a_aald dX4_addFrame_27 rfl k_b20 hf (fun hf => ?_) (fun b27 n_b27 _ k_b27 hf => ?_)
  · refine a_iload_n dX4_addFrame_28 rfl rfl ?_
    refine a_iload_n dX4_addFrame_29 rfl rfl ?_
    refine a_iload_n dX4_addFrame_30 rfl rfl ?_
    refine a_iload dX4_addFrame_31 rfl rfl ?_
    cases hf
  refine a_iload_n dX4_addFrame_28 rfl rfl ?_
  refine a_iload_n dX4_addFrame_29 rfl rfl ?_
  refine a_iload_n dX4_addFrame_30 rfl rfl ?_
  refine a_iload dX4_addFrame_31 rfl rfl ?_
  obtain ⟨r33, h33, hc33, hf⟩ := am_bind_some hf
  refine a_callV (As := [.int v1, .int v2, .int v3, .int v4]) (r1 := (none, Γ, h33)) (sX1_begin l k_b27 hc33) ccX1_begin tw_365 tw_366 tw_367 (ci := 1) rfl (by decide) ⟨Nat.le_of_ble_eq_true rfl, Nat.le_of_ble_eq_true rfl, Nat.le_of_ble_eq_true rfl, Nat.le_of_ble_eq_true rfl⟩ dX4_addFrame_33 rfl k_b27 rfl (Nat.le_of_ble_eq_true rfl) rfl rfl (fun hr33 => ?_)
  refine a_aload_n dX4_addFrame_36 rfl rfl ?_
  refine a_dup dX4_addFrame_37 rfl rfl ?_
  refine a_getI fl_RX4_28 dX4_addFrame_38 rfl k_v0 rfl ?_
  refine a_iconst (v := nI 1) dX4_addFrame_41 rfl (by decide) ?_
  refine a_iadd dX4_addFrame_42 rfl ?_
  refine a_putI fp_RX4_28 dX4_addFrame_43 rfl k_v0 rfl hf (fun h43 hf => ?_)
  cases hf
  exact a_ret dX4_addFrame_46 rfl rfl rfl
set_option maxRecDepth 100000 in
set_option maxHeartbeats 4000000 in
theorem wX4_takeFrame_145 (l : Launch) {Γ : Gm} {r : Int32} {h' : AH} (v4 : Int32) (v6 : Int32) (v7 : Int32) (h : AH) : fX4_takeFrame_145 Γ v4 v6 v7 h = some (r, h') → AW l mX4_takeFrame (some (.int r), Γ, h') 0 0 145 [none, none, none, none, some (.int v4), none, some (.int v6), some (.int v7), none, none, none] [] Γ h := by
  intro hf
  unfold fX4_takeFrame_145 at hf
  refine a_iload dX4_takeFrame_145 rfl rfl ?_
  refine a_iconst (v := nI 2) dX4_takeFrame_147 rfl (by decide) ?_
  refine a_iload dX4_takeFrame_148 rfl rfl ?_
  refine a_iload dX4_takeFrame_150 rfl rfl ?_
  refine a_iadd dX4_takeFrame_152 rfl ?_
  refine a_imul dX4_takeFrame_153 rfl ?_
  refine a_iadd dX4_takeFrame_154 rfl ?_
  cases hf
  exact a_iret dX4_takeFrame_155 rfl rfl rfl (by decide)
set_option maxRecDepth 100000 in
set_option maxHeartbeats 4000000 in
theorem wX4_takeFrame_139 (l : Launch) {Γ : Gm} {r : Int32} {h' : AH} {k84 : Nat → Int32 → Int32 → Int32 → Nat → Int32 → AH → Option (Int32 × AH)} (hk84 : ∀ v1 v4 v6 v7 v8 v9 (h : AH), ∀ n_v1 : Nat, Γ[v1]? = some (0, n_v1) → ∀ n_v8 : Nat, Γ[v8]? = some (1, n_v8) → k84 v1 v4 v6 v7 v8 v9 h = some (r, h') → AW l mX4_takeFrame (some (.int r), Γ, h') 0 0 84 [none, some (.ref v1), none, none, some (.int v4), none, some (.int v6), some (.int v7), some (.ref v8), some (.int v9), none] [] Γ h) (v1 : Nat) (v4 : Int32) (v6 : Int32) (v7 : Int32) (v8 : Nat) (v9 : Int32) (h : AH) : ∀ n_v1 : Nat, Γ[v1]? = some (0, n_v1) → ∀ n_v8 : Nat, Γ[v8]? = some (1, n_v8) → fX4_takeFrame_139 Γ k84 v1 v4 v6 v7 v8 v9 h = some (r, h') → AW l mX4_takeFrame (some (.int r), Γ, h') 0 0 139 [none, some (.ref v1), none, none, some (.int v4), none, some (.int v6), some (.int v7), some (.ref v8), some (.int v9), none] [] Γ h := by
  intro n_v1 k_v1 n_v8 k_v8 hf
  unfold fX4_takeFrame_139 at hf
  refine a_iinc (v := v9 + nI 1) (L' := [none, some (.ref v1), none, none, some (.int v4), none, some (.int v6), some (.int v7), some (.ref v8), some (.int (v9 + nI 1)), none]) dX4_takeFrame_139 rfl rfl rfl (Nat.le_of_ble_eq_true rfl) (fun _ _ hv => by cases hv; rfl) rfl ?_
  refine a_goto (t := 84) dX4_takeFrame_142 rfl ?_
  exact AW.weak (hk84 v1 v4 v6 v7 v8 (v9 + nI 1) h _ k_v1 _ k_v8 hf) ⟨rfl, ⟨rfl, ⟨rfl, ⟨rfl, ⟨rfl, ⟨rfl, trivial⟩⟩⟩⟩⟩⟩
set_option maxRecDepth 100000 in
set_option maxHeartbeats 4000000 in
theorem wX4_takeFrame_84 (l : Launch) {Γ : Gm} {r : Int32} {h' : AH} : ∀ (z : Nat) (v1 : Nat) (v4 : Int32) (v6 : Int32) (v7 : Int32) (v8 : Nat) (v9 : Int32) (h : AH), ∀ n_v1 : Nat, Γ[v1]? = some (0, n_v1) → ∀ n_v8 : Nat, Γ[v8]? = some (1, n_v8) → fX4_takeFrame_84 Γ z v1 v4 v6 v7 v8 v9 h = some (r, h') → AW l mX4_takeFrame (some (.int r), Γ, h') 0 0 84 [none, some (.ref v1), none, none, some (.int v4), none, some (.int v6), some (.int v7), some (.ref v8), some (.int v9), none] [] Γ h := by
  intro z
  induction z with
  | zero => intro v1 v4 v6 v7 v8 v9 h n_v1 k_v1 n_v8 k_v8 hf; cases hf
  | succ z ih =>
    intro v1 v4 v6 v7 v8 v9 h n_v1 k_v1 n_v8 k_v8 hf
    unfold fX4_takeFrame_84 at hf
    refine a_aload dX4_takeFrame_84 rfl rfl ?_
    refine a_ifnullR dX4_takeFrame_86 rfl ?_
    refine a_iload dX4_takeFrame_89 rfl rfl ?_
    refine a_iload dX4_takeFrame_91 rfl rfl ?_
    refine a_iload dX4_takeFrame_93 rfl rfl ?_
    refine a_iadd dX4_takeFrame_95 rfl ?_
    refine a_icmp_ge (t := 145) dX4_takeFrame_96 rfl rfl hf (fun _ hf => ?_) (fun _ hf => ?_)
    · exact AW.weak (wX4_takeFrame_145 l v4 v6 v7 h hf) ⟨rfl, ⟨rfl, ⟨rfl, trivial⟩⟩⟩
    refine a_aload_n dX4_takeFrame_99 rfl rfl ?_
    refine a_iload dX4_takeFrame_100 rfl rfl ?_
    refine a_iconst (v := nI 2) dX4_takeFrame_102 rfl (by decide) ?_
    refine a_iload dX4_takeFrame_103 rfl rfl ?_
    refine a_imul dX4_takeFrame_105 rfl ?_
    refine a_iadd dX4_takeFrame_106 rfl ?_
    refine a_iconst (v := nI 2) dX4_takeFrame_107 rfl (by decide) ?_
    obtain ⟨r108, h108, hc108, hf⟩ := am_bind_some hf
    refine a_callV (As := [.int (v7 + ((nI 2) * v9)), .int (nI 2)]) (r1 := (some (.int r108), Γ, h108)) (sX0_number l k_v1 hc108) ccX0_number tw_604 tw_552 tw_553 (ci := 0) rfl (by decide) ⟨Nat.le_of_ble_eq_true rfl, Nat.le_of_ble_eq_true rfl, Nat.le_of_ble_eq_true rfl, Nat.le_of_ble_eq_true rfl⟩ dX4_takeFrame_108 rfl k_v1 rfl (Nat.le_of_ble_eq_true rfl) rfl rfl (fun hr108 => ?_)
    refine a_istore (L' := [none, some (.ref v1), none, none, some (.int v4), none, some (.int v6), some (.int v7), some (.ref v8), some (.int v9), some (.int r108)]) dX4_takeFrame_111 rfl (Nat.le_of_ble_eq_true rfl) (fun _ _ hv => by cases hv; rfl) rfl ?_
    refine a_iload dX4_takeFrame_113 rfl rfl ?_
    refine a_iload dX4_takeFrame_115 rfl rfl ?_
    refine a_icmp_ge (t := 132) dX4_takeFrame_117 rfl rfl hf (fun _ hf => ?_) (fun _ hf => ?_)
    · refine a_aload dX4_takeFrame_132 rfl rfl ?_
      refine a_iload dX4_takeFrame_134 rfl rfl ?_
      obtain ⟨r136, h136, hc136, hf⟩ := am_bind_some hf
      refine a_callV (As := [.int r108]) (r1 := (none, Γ, h136)) (sX1_stackWord l k_v8 hc136) ccX1_stackWord tw_617 tw_437 tw_438 (ci := 1) rfl (by decide) ⟨Nat.le_of_ble_eq_true rfl, Nat.le_of_ble_eq_true rfl, Nat.le_of_ble_eq_true rfl, Nat.le_of_ble_eq_true rfl⟩ dX4_takeFrame_136 rfl k_v8 rfl (Nat.le_of_ble_eq_true rfl) rfl rfl (fun hr136 => ?_)
      exact AW.weak (wX4_takeFrame_139 l ih v1 v4 v6 v7 v8 v9 h136 _ k_v1 _ k_v8 hf) ⟨rfl, ⟨rfl, ⟨rfl, ⟨rfl, ⟨rfl, ⟨rfl, trivial⟩⟩⟩⟩⟩⟩
    refine a_aload dX4_takeFrame_120 rfl rfl ?_
    refine a_iload dX4_takeFrame_122 rfl rfl ?_
    refine a_iload dX4_takeFrame_124 rfl rfl ?_
    obtain ⟨r126, h126, hc126, hf⟩ := am_bind_some hf
    refine a_callV (As := [.int v9, .int r108]) (r1 := (none, Γ, h126)) (sX1_setWord l k_v8 hc126) ccX1_setWord tw_616 tw_429 tw_430 (ci := 1) rfl (by decide) ⟨Nat.le_of_ble_eq_true rfl, Nat.le_of_ble_eq_true rfl, Nat.le_of_ble_eq_true rfl, Nat.le_of_ble_eq_true rfl⟩ dX4_takeFrame_126 rfl k_v8 rfl (Nat.le_of_ble_eq_true rfl) rfl rfl (fun hr126 => ?_)
    refine a_goto (t := 139) dX4_takeFrame_129 rfl ?_
    exact AW.weak (wX4_takeFrame_139 l ih v1 v4 v6 v7 v8 v9 h126 _ k_v1 _ k_v8 hf) ⟨rfl, ⟨rfl, ⟨rfl, ⟨rfl, ⟨rfl, ⟨rfl, trivial⟩⟩⟩⟩⟩⟩
set_option maxRecDepth 100000 in
set_option maxHeartbeats 4000000 in
theorem wX4_takeFrame_32 (l : Launch) {Γ : Gm} {r : Int32} {h' : AH} (v0 : Nat) (v1 : Nat) (v2 : Int32) (v4 : Int32) (s0 : Int32) (h : AH) : ∀ n_v0 : Nat, Γ[v0]? = some (4, n_v0) → ∀ n_v1 : Nat, Γ[v1]? = some (0, n_v1) → fX4_takeFrame_32 Γ v0 v1 v2 v4 s0 h = some (r, h') → AW l mX4_takeFrame (some (.int r), Γ, h') 0 0 32 [some (.ref v0), some (.ref v1), some (.int v2), none, some (.int v4), none, none, none, none, none, none] [.int s0] Γ h := by
  intro n_v0 k_v0 n_v1 k_v1 hf
  unfold fX4_takeFrame_32 at hf
  refine a_istore (L' := [some (.ref v0), some (.ref v1), some (.int v2), none, some (.int v4), some (.int s0), none, none, none, none, none]) dX4_takeFrame_32 rfl (Nat.le_of_ble_eq_true rfl) (fun _ _ hv => by cases hv; rfl) rfl ?_
  refine a_aload_n dX4_takeFrame_34 rfl rfl ?_
  refine a_iload_n dX4_takeFrame_35 rfl rfl ?_
  refine a_bipush (v := nI 6) dX4_takeFrame_36 rfl (by decide) ?_
  refine a_iadd dX4_takeFrame_38 rfl ?_
  refine a_iconst (v := nI 2) dX4_takeFrame_39 rfl (by decide) ?_
  obtain ⟨r40, h40, hc40, hf⟩ := am_bind_some hf
  refine a_callV (As := [.int (v2 + (nI 6)), .int (nI 2)]) (r1 := (some (.int r40), Γ, h40)) (sX0_number l k_v1 hc40) ccX0_number tw_604 tw_552 tw_553 (ci := 0) rfl (by decide) ⟨Nat.le_of_ble_eq_true rfl, Nat.le_of_ble_eq_true rfl, Nat.le_of_ble_eq_true rfl, Nat.le_of_ble_eq_true rfl⟩ dX4_takeFrame_40 rfl k_v1 rfl (Nat.le_of_ble_eq_true rfl) rfl rfl (fun hr40 => ?_)
  refine a_istore (L' := [some (.ref v0), some (.ref v1), some (.int v2), none, some (.int v4), some (.int s0), some (.int r40), none, none, none, none]) dX4_takeFrame_43 rfl (Nat.le_of_ble_eq_true rfl) (fun _ _ hv => by cases hv; rfl) rfl ?_
  refine a_aload_n dX4_takeFrame_45 rfl rfl ?_
  refine a_aload_n dX4_takeFrame_46 rfl rfl ?_
  refine a_iload_n dX4_takeFrame_47 rfl rfl ?_
  refine a_iconst (v := nI 3) dX4_takeFrame_48 rfl (by decide) ?_
  obtain ⟨r49, h49, hc49, hf⟩ := am_bind_some hf
  refine a_callV (As := [.int v2, .int (nI 3)]) (r1 := (some (.int r49), Γ, h49)) (sX0_number l k_v1 hc49) ccX0_number tw_604 tw_552 tw_553 (ci := 0) rfl (by decide) ⟨Nat.le_of_ble_eq_true rfl, Nat.le_of_ble_eq_true rfl, Nat.le_of_ble_eq_true rfl, Nat.le_of_ble_eq_true rfl⟩ dX4_takeFrame_49 rfl k_v1 rfl (Nat.le_of_ble_eq_true rfl) rfl rfl (fun hr49 => ?_)
  refine a_iload dX4_takeFrame_52 rfl rfl ?_
  refine a_aload_n dX4_takeFrame_54 rfl rfl ?_
  refine a_iload_n dX4_takeFrame_55 rfl rfl ?_
  refine a_iconst (v := nI 5) dX4_takeFrame_56 rfl (by decide) ?_
  refine a_iadd dX4_takeFrame_57 rfl ?_
  obtain ⟨r58, h58, hc58, hf⟩ := am_bind_some hf
  refine a_callV (As := [.int (v2 + (nI 5))]) (r1 := (some (.int r58), Γ, h58)) (sX0_at l k_v1 hc58) ccX0_at tw_584 tw_309 tw_310 (ci := 0) rfl (by decide) ⟨Nat.le_of_ble_eq_true rfl, Nat.le_of_ble_eq_true rfl, Nat.le_of_ble_eq_true rfl, Nat.le_of_ble_eq_true rfl⟩ dX4_takeFrame_58 rfl k_v1 rfl (Nat.le_of_ble_eq_true rfl) rfl rfl (fun hr58 => ?_)
  obtain ⟨r61, h61, hc61, hf⟩ := am_bind_some hf
  refine a_callS (As := [.int r58]) (r1 := (some (.int r61), Γ, h61)) (sJ6_bitCount_0f7a4 l hc61) ccJ6_bitCount_0f7a4 tw_609 tw_610 ⟨Nat.le_of_ble_eq_true rfl, Nat.le_of_ble_eq_true rfl, Nat.le_of_ble_eq_true rfl, Nat.le_of_ble_eq_true rfl⟩ dX4_takeFrame_61 rfl rfl (Nat.le_of_ble_eq_true rfl) rfl rfl (fun hr61 => ?_)
  refine a_iload dX4_takeFrame_64 rfl rfl ?_
  obtain ⟨r66, h66, hc66, hf⟩ := am_bind_some hf
  refine a_callV (As := [.int r49, .int s0, .int r61, .int v4]) (r1 := (none, Γ, h66)) (sX4_addFrame l k_v0 hc66) ccX4_addFrame tw_361 tw_362 tw_363 (ci := 4) rfl (by decide) ⟨Nat.le_of_ble_eq_true rfl, Nat.le_of_ble_eq_true rfl, Nat.le_of_ble_eq_true rfl, Nat.le_of_ble_eq_true rfl⟩ dX4_takeFrame_66 rfl k_v0 rfl (Nat.le_of_ble_eq_true rfl) rfl rfl (fun hr66 => ?_)
  refine a_iload_n dX4_takeFrame_69 rfl rfl ?_
  refine a_bipush (v := nI 8) dX4_takeFrame_70 rfl (by decide) ?_
  refine a_iadd dX4_takeFrame_72 rfl ?_
  refine a_nmI hf (fun x73 hf => ?_)
  refine a_istore (L' := [some (.ref v0), some (.ref v1), some (.int v2), none, some (.int v4), some (.int s0), some (.int r40), some (.int x73), none, none, none]) dX4_takeFrame_73 rfl (Nat.le_of_ble_eq_true rfl) (fun _ _ hv => by cases hv; rfl) rfl ?_
  refine a_aload_n dX4_takeFrame_75 rfl rfl ?_
  obtain ⟨r76, h76, hc76, hf⟩ := am_bind_some hf
  refine a_callV (As := []) (r1 := (some (am_o r76), Γ, h76)) (sX4_newest l k_v0 hc76) ccX4_newest tw_615 tw_412 tw_413 (ci := 4) rfl (by decide) ⟨Nat.le_of_ble_eq_true rfl, Nat.le_of_ble_eq_true rfl, Nat.le_of_ble_eq_true rfl, Nat.le_of_ble_eq_true rfl⟩ dX4_takeFrame_76 rfl k_v0 rfl (Nat.le_of_ble_eq_true rfl) rfl rfl (fun hr76 => ?_)
  cases r76 with
  | none =>
    refine AW.null ?_
    cases hf
  | some b76 =>
    obtain ⟨n_b76, k_b76⟩ := hr76.1 b76 rfl (by decide)
    refine AW.refo ?_
    refine a_astore (L' := [some (.ref v0), some (.ref v1), some (.int v2), none, some (.int v4), some (.int s0), some (.int r40), some (.int x73), some (.ref b76), none, none]) dX4_takeFrame_79 rfl (Nat.le_of_ble_eq_true rfl) (fun _ _ hv => by cases hv; rfl) rfl ?_
    refine a_iconst (v := nI 0) dX4_takeFrame_81 rfl (by decide) ?_
    refine a_istore (L' := [some (.ref v0), some (.ref v1), some (.int v2), none, some (.int v4), some (.int s0), some (.int r40), some (.int x73), some (.ref b76), some (.int (nI 0)), none]) dX4_takeFrame_82 rfl (Nat.le_of_ble_eq_true rfl) (fun _ _ hv => by cases hv; rfl) rfl ?_
    exact AW.weak (wX4_takeFrame_84 l am_fuel v1 v4 r40 x73 b76 (nI 0) h76 _ k_v1 _ k_b76 hf) ⟨rfl, ⟨rfl, ⟨rfl, ⟨rfl, ⟨rfl, ⟨rfl, trivial⟩⟩⟩⟩⟩⟩
set_option maxRecDepth 100000 in
set_option maxHeartbeats 4000000 in
theorem sX4_takeFrame (l : Launch) {Γ : Gm} {h h' : AH} {v0 : Nat} {v1 : Nat} {v2 : Int32} {r : Int32} {n_v0 : Nat} (k_v0 : Γ[v0]? = some (4, n_v0)) {n_v1 : Nat} (k_v1 : Γ[v1]? = some (0, n_v1)) (hf : fX4_takeFrame Γ v0 v1 v2 h = some (r, h')) : AR l yX4_takeFrame mX4_takeFrame [.ref v0, .ref v1, .int v2] Γ h (some (.int r), Γ, h') := by
  refine AR.of [some (.ref v0), some (.ref v1), some (.int v2), none, none, none, none, none, none, none, none] (by decide +kernel) rfl (fun z => by cases z) (Nat.le_of_ble_eq_true rfl) ⟨rfl, ⟨rfl, ⟨rfl, trivial⟩⟩⟩ ?_
  unfold fX4_takeFrame at hf
  refine a_aload_n dX4_takeFrame_0 rfl rfl ?_
  refine a_iload_n dX4_takeFrame_1 rfl rfl ?_
  refine a_iconst (v := nI 3) dX4_takeFrame_2 rfl (by decide) ?_
  refine a_iadd dX4_takeFrame_3 rfl ?_
  obtain ⟨r4, h4, hc4, hf⟩ := am_bind_some hf
  refine a_callV (As := [.int (v2 + (nI 3))]) (r1 := (some (.int r4), Γ, h4)) (sX0_at l k_v1 hc4) ccX0_at tw_584 tw_309 tw_310 (ci := 0) rfl (by decide) ⟨Nat.le_of_ble_eq_true rfl, Nat.le_of_ble_eq_true rfl, Nat.le_of_ble_eq_true rfl, Nat.le_of_ble_eq_true rfl⟩ dX4_takeFrame_4 rfl k_v1 rfl (Nat.le_of_ble_eq_true rfl) rfl rfl (fun hr4 => ?_)
  refine a_istore_n (L' := [some (.ref v0), some (.ref v1), some (.int v2), some (.int r4), none, none, none, none, none, none, none]) dX4_takeFrame_7 rfl (Nat.le_of_ble_eq_true rfl) (fun _ _ hv => by cases hv; rfl) rfl ?_
  refine a_iload_n dX4_takeFrame_8 rfl rfl ?_
  refine a_bipush (v := nI 15) dX4_takeFrame_9 rfl (by decide) ?_
  refine a_iand dX4_takeFrame_11 rfl ?_
  refine a_nmI hf (fun x12 hf => ?_)
  refine a_istore (L' := [some (.ref v0), some (.ref v1), some (.int v2), some (.int r4), some (.int x12), none, none, none, none, none, none]) dX4_takeFrame_12 rfl (Nat.le_of_ble_eq_true rfl) (fun _ _ hv => by cases hv; rfl) rfl ?_
  refine a_iload_n dX4_takeFrame_14 rfl rfl ?_
  refine a_bipush (v := nI 16) dX4_takeFrame_15 rfl (by decide) ?_
  refine a_icmp_lt (t := 25) dX4_takeFrame_17 rfl rfl hf (fun _ hf => ?_) (fun _ hf => ?_)
  · refine a_aload_n dX4_takeFrame_25 rfl rfl ?_
    refine a_iload_n dX4_takeFrame_26 rfl rfl ?_
    refine a_iconst (v := nI 4) dX4_takeFrame_27 rfl (by decide) ?_
    refine a_iadd dX4_takeFrame_28 rfl ?_
    obtain ⟨r29, h29, hc29, hf⟩ := am_bind_some hf
    refine a_callV (As := [.int (v2 + (nI 4))]) (r1 := (some (.int r29), Γ, h29)) (sX0_at l k_v1 hc29) ccX0_at tw_584 tw_309 tw_310 (ci := 0) rfl (by decide) ⟨Nat.le_of_ble_eq_true rfl, Nat.le_of_ble_eq_true rfl, Nat.le_of_ble_eq_true rfl, Nat.le_of_ble_eq_true rfl⟩ dX4_takeFrame_29 rfl k_v1 rfl (Nat.le_of_ble_eq_true rfl) rfl rfl (fun hr29 => ?_)
    exact AW.weak (wX4_takeFrame_32 l v0 v1 v2 x12 r29 h29 _ k_v0 _ k_v1 hf) ⟨rfl, ⟨rfl, ⟨rfl, ⟨rfl, trivial⟩⟩⟩⟩
  refine a_bipush (v := (-2 : Int32)) dX4_takeFrame_20 rfl (by decide) ?_
  refine a_goto (t := 32) dX4_takeFrame_22 rfl ?_
  exact AW.weak (wX4_takeFrame_32 l v0 v1 v2 x12 ((-2 : Int32)) h4 _ k_v0 _ k_v1 hf) ⟨rfl, ⟨rfl, ⟨rfl, ⟨rfl, trivial⟩⟩⟩⟩
