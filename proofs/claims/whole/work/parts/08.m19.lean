set_option maxRecDepth 100000 in
set_option maxHeartbeats 4000000 in
theorem wX9_restore_96 (l : Launch) {Γ : Gm} {r : Int32} {h' : AH} : ∀ (z : Nat) (v0 : Nat) (v2 : Int32) (h : AH), ∀ n_v0 : Nat, Γ[v0]? = some (9, n_v0) → fX9_restore_96 Γ z v0 v2 h = some (r, h') → AW l mX9_restore (some (.int r), Γ, h') 0 0 96 [some (.ref v0), none, some (.int v2)] [] Γ h := by
  intro z
  induction z with
  | zero => intro v0 v2 h n_v0 k_v0 hf; cases hf
  | succ z ih =>
    intro v0 v2 h n_v0 k_v0 hf
    unfold fX9_restore_96 at hf
    refine a_iload_n dX9_restore_96 rfl rfl ?_
    refine a_sipush (v := nI 202) dX9_restore_97 rfl (by decide) ?_
    refine a_aload_n dX9_restore_100 rfl rfl ?_
    refine a_getI fl_RX9_88 dX9_restore_101 rfl k_v0 rfl ?_
    refine a_imul dX9_restore_104 rfl ?_
    refine a_icmp_ge (t := 126) dX9_restore_105 rfl rfl hf (fun _ hf => ?_) (fun _ hf => ?_)
    · refine a_iconst (v := nI 1) dX9_restore_126 rfl (by decide) ?_
      cases hf
      exact a_iret dX9_restore_127 rfl rfl rfl (by decide)
    refine a_aload_n dX9_restore_108 rfl rfl ?_
    refine a_getR fl_RX9_47 dX9_restore_109 rfl k_v0 rfl (by decide) hf (fun b109 n_b109 _ k_b109 hf => ?_)
    refine a_iload_n dX9_restore_112 rfl rfl ?_
    refine a_aload_n dX9_restore_113 rfl rfl ?_
    refine a_getR fl_RX9_50 dX9_restore_114 rfl k_v0 rfl (by decide) hf (fun b114 n_b114 _ k_b114 hf => ?_)
    refine a_iload_n dX9_restore_117 rfl rfl ?_
    refine a_iald dX9_restore_118 rfl k_b114 hf (fun hf => ?_)
    refine a_iast dX9_restore_119 rfl k_b109 hf (fun h119 hf => ?_)
    refine a_iinc (v := v2 + nI 1) (L' := [some (.ref v0), none, some (.int (v2 + nI 1))]) dX9_restore_120 rfl rfl rfl (Nat.le_of_ble_eq_true rfl) (fun _ _ hv => by cases hv) rfl ?_
    refine a_goto (t := 96) dX9_restore_123 rfl ?_
    exact AW.weak (ih v0 (v2 + nI 1) h119 _ k_v0 hf) ⟨rfl, ⟨rfl, trivial⟩⟩
set_option maxRecDepth 100000 in
set_option maxHeartbeats 4000000 in
theorem wX9_restore_56 (l : Launch) {Γ : Gm} {r : Int32} {h' : AH} : ∀ (z : Nat) (v0 : Nat) (v1 : Int32) (v2 : Int32) (h : AH), ∀ n_v0 : Nat, Γ[v0]? = some (9, n_v0) → fX9_restore_56 Γ z v0 v1 v2 h = some (r, h') → AW l mX9_restore (some (.int r), Γ, h') 0 0 56 [some (.ref v0), some (.int v1), some (.int v2)] [] Γ h := by
  intro z
  induction z with
  | zero => intro v0 v1 v2 h n_v0 k_v0 hf; cases hf
  | succ z ih =>
    intro v0 v1 v2 h n_v0 k_v0 hf
    unfold fX9_restore_56 at hf
    refine a_iload_n dX9_restore_56 rfl rfl ?_
    refine a_sipush (v := nI 2202) dX9_restore_57 rfl (by decide) ?_
    refine a_icmp_ge (t := 81) dX9_restore_60 rfl rfl hf (fun _ hf => ?_) (fun _ hf => ?_)
    · refine a_aload_n dX9_restore_81 rfl rfl ?_
      refine a_iload_n dX9_restore_82 rfl rfl ?_
      obtain ⟨r83, h83, hc83, hf⟩ := am_bind_some hf
      refine a_callV (As := [.int v1]) (r1 := (none, Γ, h83)) (sX9_stay l k_v0 hc83) ccX9_stay tw_960 tw_962 tp_30 (ci := 9) rfl (by decide) ⟨Nat.le_of_ble_eq_true rfl, Nat.le_of_ble_eq_true rfl, Nat.le_of_ble_eq_true rfl, Nat.le_of_ble_eq_true rfl⟩ dX9_restore_83 rfl k_v0 rfl (Nat.le_of_ble_eq_true rfl) rfl rfl (fun hr83 => ?_)
      refine a_aload_n dX9_restore_86 rfl rfl ?_
      refine a_aload_n dX9_restore_87 rfl rfl ?_
      refine a_getI fl_RX9_152 dX9_restore_88 rfl k_v0 rfl ?_
      refine a_putI fp_RX9_88 dX9_restore_91 rfl k_v0 rfl hf (fun h91 hf => ?_)
      refine a_iconst (v := nI 0) dX9_restore_94 rfl (by decide) ?_
      refine a_istore_n (L' := [some (.ref v0), some (.int v1), some (.int (nI 0))]) dX9_restore_95 rfl (Nat.le_of_ble_eq_true rfl) (fun _ _ hv => by cases hv; rfl) rfl ?_
      exact AW.weak (wX9_restore_96 l am_fuel v0 (nI 0) h91 _ k_v0 hf) ⟨rfl, ⟨rfl, trivial⟩⟩
    refine a_aload_n dX9_restore_63 rfl rfl ?_
    refine a_getR fl_RX9_32 dX9_restore_64 rfl k_v0 rfl (by decide) hf (fun b64 n_b64 _ k_b64 hf => ?_)
    refine a_iload_n dX9_restore_67 rfl rfl ?_
    refine a_aload_n dX9_restore_68 rfl rfl ?_
    refine a_getR fl_RX9_35 dX9_restore_69 rfl k_v0 rfl (by decide) hf (fun b69 n_b69 _ k_b69 hf => ?_)
    refine a_iload_n dX9_restore_72 rfl rfl ?_
    refine a_iald dX9_restore_73 rfl k_b69 hf (fun hf => ?_)
    refine a_iast dX9_restore_74 rfl k_b64 hf (fun h74 hf => ?_)
    refine a_iinc (v := v2 + nI 1) (L' := [some (.ref v0), some (.int v1), some (.int (v2 + nI 1))]) dX9_restore_75 rfl rfl rfl (Nat.le_of_ble_eq_true rfl) (fun _ _ hv => by cases hv; rfl) rfl ?_
    refine a_goto (t := 56) dX9_restore_78 rfl ?_
    exact AW.weak (ih v0 v1 (v2 + nI 1) h74 _ k_v0 hf) ⟨rfl, ⟨rfl, ⟨rfl, trivial⟩⟩⟩
set_option maxRecDepth 100000 in
set_option maxHeartbeats 4000000 in
theorem sX9_restore (l : Launch) {Γ : Gm} {h h' : AH} {v0 : Nat} {r : Int32} {n_v0 : Nat} (k_v0 : Γ[v0]? = some (9, n_v0)) (hf : fX9_restore Γ v0 h = some (r, h')) : AR l yX9_restore mX9_restore [.ref v0] Γ h (some (.int r), Γ, h') := by
  refine AR.of [some (.ref v0), none, none] (by decide +kernel) rfl (fun z => by cases z) (Nat.le_of_ble_eq_true rfl) ⟨rfl, trivial⟩ ?_
  unfold fX9_restore at hf
  refine a_aload_n dX9_restore_0 rfl rfl ?_
  refine a_aload_n dX9_restore_1 rfl rfl ?_
  refine a_getI fl_RX9_68 dX9_restore_2 rfl k_v0 rfl ?_
  refine a_putI fp_RX9_139 dX9_restore_5 rfl k_v0 rfl hf (fun h5 hf => ?_)
  refine a_aload_n dX9_restore_8 rfl rfl ?_
  refine a_iconst (v := nI 0) dX9_restore_9 rfl (by decide) ?_
  refine a_putI fp_RX9_68 dX9_restore_10 rfl k_v0 rfl hf (fun h10 hf => ?_)
  refine a_aload_n dX9_restore_13 rfl rfl ?_
  refine a_getI fl_RX9_82 dX9_restore_14 rfl k_v0 rfl ?_
  refine a_if_ne (t := 23) dX9_restore_17 rfl rfl hf (fun _ hf => ?_) (fun _ hf => ?_)
  · refine a_bipush (v := (-4 : Int32)) dX9_restore_20 rfl (by decide) ?_
    cases hf
    exact a_iret dX9_restore_22 rfl rfl rfl (by decide)
  refine a_aload_n dX9_restore_23 rfl rfl ?_
  refine a_iconst (v := nI 0) dX9_restore_24 rfl (by decide) ?_
  refine a_putI fp_RX9_136 dX9_restore_25 rfl k_v0 rfl hf (fun h25 hf => ?_)
  refine a_aload_n dX9_restore_28 rfl rfl ?_
  refine a_bipush (v := (-2 : Int32)) dX9_restore_29 rfl (by decide) ?_
  refine a_putI fp_RX9_53 dX9_restore_31 rfl k_v0 rfl hf (fun h31 hf => ?_)
  refine a_aload_n dX9_restore_34 rfl rfl ?_
  obtain ⟨r35, h35, hc35, hf⟩ := am_bind_some hf
  refine a_callV (As := []) (r1 := (some (.int r35), Γ, h35)) (sX9_readFile l k_v0 hc35) ccX9_readFile tw_924 tw_926 tp_22 (ci := 9) rfl (by decide) ⟨Nat.le_of_ble_eq_true rfl, Nat.le_of_ble_eq_true rfl, Nat.le_of_ble_eq_true rfl, Nat.le_of_ble_eq_true rfl⟩ dX9_restore_35 rfl k_v0 rfl (Nat.le_of_ble_eq_true rfl) rfl rfl (fun hr35 => ?_)
  refine a_if_ne (t := 49) dX9_restore_38 rfl rfl hf (fun _ hf => ?_) (fun _ hf => ?_)
  · refine a_bipush (v := (-10 : Int32)) dX9_restore_41 rfl (by decide) ?_
    refine a_aload_n dX9_restore_43 rfl rfl ?_
    refine a_getI fl_RX9_136 dX9_restore_44 rfl k_v0 rfl ?_
    refine a_isub dX9_restore_47 rfl ?_
    obtain ⟨rfl, rfl⟩ := Prod.mk.inj (Option.some.inj hf)
    exact a_iret dX9_restore_48 rfl rfl rfl (by decide)
  refine a_aload_n dX9_restore_49 rfl rfl ?_
  obtain ⟨r50, h50, hc50, hf⟩ := am_bind_some hf
  refine a_callV (As := []) (r1 := (some (.int r50), Γ, h50)) (sX9_bits l k_v0 hc50) ccX9_bits tw_956 tw_958 tp_29 (ci := 9) rfl (by decide) ⟨Nat.le_of_ble_eq_true rfl, Nat.le_of_ble_eq_true rfl, Nat.le_of_ble_eq_true rfl, Nat.le_of_ble_eq_true rfl⟩ dX9_restore_50 rfl k_v0 rfl (Nat.le_of_ble_eq_true rfl) rfl rfl (fun hr50 => ?_)
  refine a_istore_n (L' := [some (.ref v0), some (.int r50), none]) dX9_restore_53 rfl (Nat.le_of_ble_eq_true rfl) (fun _ _ hv => by cases hv; rfl) rfl ?_
  refine a_iconst (v := nI 0) dX9_restore_54 rfl (by decide) ?_
  refine a_istore_n (L' := [some (.ref v0), some (.int r50), some (.int (nI 0))]) dX9_restore_55 rfl (Nat.le_of_ble_eq_true rfl) (fun _ _ hv => by cases hv; rfl) rfl ?_
  exact AW.weak (wX9_restore_56 l am_fuel v0 r50 (nI 0) h50 _ k_v0 hf) ⟨rfl, ⟨rfl, ⟨rfl, trivial⟩⟩⟩
set_option maxRecDepth 100000 in
set_option maxHeartbeats 4000000 in
theorem sX9_why (l : Launch) {Γ : Gm} {h h' : AH} {v0 : Nat} {v1 : Int32} {r : Int32} {n_v0 : Nat} (k_v0 : Γ[v0]? = some (9, n_v0)) (hf : fX9_why Γ v0 v1 h = some (r, h')) : AR l yX9_why mX9_why [.ref v0, .int v1] Γ h (some (.int r), Γ, h') := by
  refine AR.of [some (.ref v0), some (.int v1)] (by decide +kernel) rfl (fun z => by cases z) (Nat.le_of_ble_eq_true rfl) ⟨rfl, ⟨rfl, trivial⟩⟩ ?_
  unfold fX9_why at hf
  refine a_iload_n dX9_why_0 rfl rfl ?_
  refine a_if_ne (t := 11) dX9_why_1 rfl rfl hf (fun _ hf => ?_) (fun _ hf => ?_)
  · refine a_aload_n dX9_why_4 rfl rfl ?_
    refine a_getI fl_RX9_136 dX9_why_5 rfl k_v0 rfl ?_
    refine a_goto (t := 24) dX9_why_8 rfl ?_
    cases hf
    exact a_iret dX9_why_24 rfl rfl rfl (by decide)
  refine a_iload_n dX9_why_11 rfl rfl ?_
  refine a_iconst (v := nI 1) dX9_why_12 rfl (by decide) ?_
  refine a_icmp_ne (t := 23) dX9_why_13 rfl rfl hf (fun _ hf => ?_) (fun _ hf => ?_)
  · refine a_aload_n dX9_why_16 rfl rfl ?_
    refine a_getI fl_RX9_53 dX9_why_17 rfl k_v0 rfl ?_
    refine a_goto (t := 24) dX9_why_20 rfl ?_
    cases hf
    exact a_iret dX9_why_24 rfl rfl rfl (by decide)
  refine a_iconst (v := (-1 : Int32)) dX9_why_23 rfl (by decide) ?_
  cases hf
  exact a_iret dX9_why_24 rfl rfl rfl (by decide)
set_option maxRecDepth 100000 in
set_option maxHeartbeats 4000000 in
theorem sX9_chunk (l : Launch) {Γ : Gm} {h h' : AH} {v0 : Nat} {v1 : Int32} {v2 : Int32} {r : Int32} {n_v0 : Nat} (k_v0 : Γ[v0]? = some (9, n_v0)) (hf : fX9_chunk Γ v0 v1 v2 h = some (r, h')) : AR l yX9_chunk mX9_chunk [.ref v0, .int v1, .int v2] Γ h (some (.int r), Γ, h') := by
  refine AR.of [some (.ref v0), some (.int v1), some (.int v2)] (by decide +kernel) rfl (fun z => by cases z) (Nat.le_of_ble_eq_true rfl) ⟨rfl, ⟨rfl, ⟨rfl, trivial⟩⟩⟩ ?_
  unfold fX9_chunk at hf
  refine a_iload_n dX9_chunk_0 rfl rfl ?_
  refine a_iconst (v := nI 0) dX9_chunk_1 rfl (by decide) ?_
  refine a_iconst (v := nI 2) dX9_chunk_2 rfl (by decide) ?_
  obtain ⟨r3, h3, hc3, hf⟩ := am_bind_some hf
  refine a_callS (As := [.int v2, .int (nI 0), .int (nI 2)]) (r1 := (some (.int r3), Γ, h3)) (sX9_outside l hc3) ccX9_outside tw_819 tw_820 ⟨Nat.le_of_ble_eq_true rfl, Nat.le_of_ble_eq_true rfl, Nat.le_of_ble_eq_true rfl, Nat.le_of_ble_eq_true rfl⟩ dX9_chunk_3 rfl rfl (Nat.le_of_ble_eq_true rfl) rfl rfl (fun hr3 => ?_)
  refine a_if_eq (t := 11) dX9_chunk_6 rfl rfl hf (fun _ hf => ?_) (fun _ hf => ?_)
  · refine a_iload_n dX9_chunk_11 rfl rfl ?_
    refine a_iconst (v := nI 0) dX9_chunk_12 rfl (by decide) ?_
    refine a_aload_n dX9_chunk_13 rfl rfl ?_
    refine a_getI fl_RX9_117 dX9_chunk_14 rfl k_v0 rfl ?_
    refine a_iconst (v := nI 1) dX9_chunk_17 rfl (by decide) ?_
    refine a_isub dX9_chunk_18 rfl ?_
    obtain ⟨r19, h19, hc19, hf⟩ := am_bind_some hf
    refine a_callS (As := [.int v1, .int (nI 0), .int ((h3.1 v0 25) - (nI 1))]) (r1 := (some (.int r19), Γ, h19)) (sX9_outside l hc19) ccX9_outside tw_819 tw_820 ⟨Nat.le_of_ble_eq_true rfl, Nat.le_of_ble_eq_true rfl, Nat.le_of_ble_eq_true rfl, Nat.le_of_ble_eq_true rfl⟩ dX9_chunk_19 rfl rfl (Nat.le_of_ble_eq_true rfl) rfl rfl (fun hr19 => ?_)
    refine a_if_eq (t := 28) dX9_chunk_22 rfl rfl hf (fun _ hf => ?_) (fun _ hf => ?_)
    · refine a_iload_n dX9_chunk_28 rfl rfl ?_
      refine a_if_ne (t := 41) dX9_chunk_29 rfl rfl hf (fun _ hf => ?_) (fun _ hf => ?_)
      · refine a_aload_n dX9_chunk_32 rfl rfl ?_
        refine a_getR fl_RX9_56 dX9_chunk_33 rfl k_v0 rfl (by decide) hf (fun b33 n_b33 _ k_b33 hf => ?_)
        refine a_iload_n dX9_chunk_36 rfl rfl ?_
        refine a_iald dX9_chunk_37 rfl k_b33 hf (fun hf => ?_)
        refine a_goto (t := 61) dX9_chunk_38 rfl ?_
        cases hf
        exact a_iret dX9_chunk_61 rfl rfl rfl (by decide)
      refine a_iload_n dX9_chunk_41 rfl rfl ?_
      refine a_iconst (v := nI 1) dX9_chunk_42 rfl (by decide) ?_
      refine a_icmp_ne (t := 55) dX9_chunk_43 rfl rfl hf (fun _ hf => ?_) (fun _ hf => ?_)
      · refine a_aload_n dX9_chunk_46 rfl rfl ?_
        refine a_getR fl_RX9_59 dX9_chunk_47 rfl k_v0 rfl (by decide) hf (fun b47 n_b47 _ k_b47 hf => ?_)
        refine a_iload_n dX9_chunk_50 rfl rfl ?_
        refine a_iald dX9_chunk_51 rfl k_b47 hf (fun hf => ?_)
        refine a_goto (t := 61) dX9_chunk_52 rfl ?_
        cases hf
        exact a_iret dX9_chunk_61 rfl rfl rfl (by decide)
      refine a_aload_n dX9_chunk_55 rfl rfl ?_
      refine a_getR fl_RX9_62 dX9_chunk_56 rfl k_v0 rfl (by decide) hf (fun b56 n_b56 _ k_b56 hf => ?_)
      refine a_iload_n dX9_chunk_59 rfl rfl ?_
      refine a_iald dX9_chunk_60 rfl k_b56 hf (fun hf => ?_)
      cases hf
      exact a_iret dX9_chunk_61 rfl rfl rfl (by decide)
    refine a_bipush (v := (-2 : Int32)) dX9_chunk_25 rfl (by decide) ?_
    cases hf
    exact a_iret dX9_chunk_27 rfl rfl rfl (by decide)
  refine a_iconst (v := (-1 : Int32)) dX9_chunk_9 rfl (by decide) ?_
  cases hf
  exact a_iret dX9_chunk_10 rfl rfl rfl (by decide)
set_option maxRecDepth 100000 in
set_option maxHeartbeats 4000000 in
theorem wX9_write_40 (l : Launch) {Γ : Gm} {r : Int32} {h' : AH} : ∀ (z : Nat) (v0 : Nat) (v2 : Int32) (h : AH), ∀ n_v0 : Nat, Γ[v0]? = some (9, n_v0) → fX9_write_40 Γ z v0 v2 h = some (r, h') → AW l mX9_write (some (.int r), Γ, h') 0 0 40 [some (.ref v0), none, some (.int v2)] [] Γ h := by
  intro z
  induction z with
  | zero => intro v0 v2 h n_v0 k_v0 hf; cases hf
  | succ z ih =>
    intro v0 v2 h n_v0 k_v0 hf
    unfold fX9_write_40 at hf
    refine a_iload_n dX9_write_40 rfl rfl ?_
    refine a_aload_n dX9_write_41 rfl rfl ?_
    refine a_getI fl_RX9_79 dX9_write_42 rfl k_v0 rfl ?_
    refine a_icmp_ge (t := 66) dX9_write_45 rfl rfl hf (fun _ hf => ?_) (fun _ hf => ?_)
    · refine a_aload_n dX9_write_66 rfl rfl ?_
      refine a_aload_n dX9_write_67 rfl rfl ?_
      refine a_getI fl_RX9_79 dX9_write_68 rfl k_v0 rfl ?_
      refine a_putI fp_RX9_19 dX9_write_71 rfl k_v0 rfl hf (fun h71 hf => ?_)
      refine a_iconst (v := nI 1) dX9_write_74 rfl (by decide) ?_
      cases hf
      exact a_iret dX9_write_75 rfl rfl rfl (by decide)
    refine a_aload_n dX9_write_48 rfl rfl ?_
    refine a_getR fl_RX9_16 dX9_write_49 rfl k_v0 rfl (by decide) hf (fun b49 n_b49 _ k_b49 hf => ?_)
    refine a_iload_n dX9_write_52 rfl rfl ?_
    refine a_aload_n dX9_write_53 rfl rfl ?_
    refine a_getR fl_RX9_13 dX9_write_54 rfl k_v0 rfl (by decide) hf (fun b54 n_b54 _ k_b54 hf => ?_)
    refine a_iload_n dX9_write_57 rfl rfl ?_
    refine a_iald dX9_write_58 rfl k_b54 hf (fun hf => ?_)
    refine a_iast dX9_write_59 rfl k_b49 hf (fun h59 hf => ?_)
    refine a_iinc (v := v2 + nI 1) (L' := [some (.ref v0), none, some (.int (v2 + nI 1))]) dX9_write_60 rfl rfl rfl (Nat.le_of_ble_eq_true rfl) (fun _ _ hv => by cases hv) rfl ?_
    refine a_goto (t := 40) dX9_write_63 rfl ?_
    exact AW.weak (ih v0 (v2 + nI 1) h59 _ k_v0 hf) ⟨rfl, ⟨rfl, trivial⟩⟩
set_option maxRecDepth 100000 in
set_option maxHeartbeats 4000000 in
theorem wX9_write_25 (l : Launch) {Γ : Gm} {r : Int32} {h' : AH} (v0 : Nat) (s0 : Int32) (h : AH) : ∀ n_v0 : Nat, Γ[v0]? = some (9, n_v0) → fX9_write_25 Γ v0 s0 h = some (r, h') → AW l mX9_write (some (.int r), Γ, h') 0 0 25 [some (.ref v0), none, none] [.int s0] Γ h := by
  intro n_v0 k_v0 hf
  unfold fX9_write_25 at hf
  refine a_istore_n (L' := [some (.ref v0), some (.int s0), none]) dX9_write_25 rfl (Nat.le_of_ble_eq_true rfl) (fun _ _ hv => by cases hv; rfl) rfl ?_
  refine a_aload_n dX9_write_26 rfl rfl ?_
  refine a_bipush (v := (-2 : Int32)) dX9_write_27 rfl (by decide) ?_
  refine a_putI fp_RX9_23 dX9_write_29 rfl k_v0 rfl hf (fun h29 hf => ?_)
  refine a_iload_n dX9_write_32 rfl rfl ?_
  refine a_if_eq (t := 38) dX9_write_33 rfl rfl hf (fun _ hf => ?_) (fun _ hf => ?_)
  · refine a_iconst (v := nI 0) dX9_write_38 rfl (by decide) ?_
    refine a_istore_n (L' := [some (.ref v0), some (.int s0), some (.int (nI 0))]) dX9_write_39 rfl (Nat.le_of_ble_eq_true rfl) (fun _ _ hv => by cases hv; rfl) rfl ?_
    exact AW.weak (wX9_write_40 l am_fuel v0 (nI 0) h29 _ k_v0 hf) ⟨rfl, ⟨rfl, trivial⟩⟩
  refine a_iconst (v := nI 0) dX9_write_36 rfl (by decide) ?_
  cases hf
  exact a_iret dX9_write_37 rfl rfl rfl (by decide)
set_option maxRecDepth 100000 in
set_option maxHeartbeats 4000000 in
theorem wX9_write_24 (l : Launch) {Γ : Gm} {r : Int32} {h' : AH} (v0 : Nat) (h : AH) : ∀ n_v0 : Nat, Γ[v0]? = some (9, n_v0) → fX9_write_24 Γ v0 h = some (r, h') → AW l mX9_write (some (.int r), Γ, h') 0 0 24 [some (.ref v0), none, none] [] Γ h := by
  intro n_v0 k_v0 hf
  unfold fX9_write_24 at hf
  refine a_iconst (v := nI 0) dX9_write_24 rfl (by decide) ?_
  exact AW.weak (wX9_write_25 l v0 (nI 0) h _ k_v0 hf) ⟨rfl, trivial⟩
set_option maxRecDepth 100000 in
set_option maxHeartbeats 4000000 in
theorem sX9_write (l : Launch) {Γ : Gm} {h h' : AH} {v0 : Nat} {r : Int32} {n_v0 : Nat} (k_v0 : Γ[v0]? = some (9, n_v0)) (hf : fX9_write Γ v0 h = some (r, h')) : AR l yX9_write mX9_write [.ref v0] Γ h (some (.int r), Γ, h') := by
  refine AR.of [some (.ref v0), none, none] (by decide +kernel) rfl (fun z => by cases z) (Nat.le_of_ble_eq_true rfl) ⟨rfl, trivial⟩ ?_
  unfold fX9_write at hf
  refine a_aload_n dX9_write_0 rfl rfl ?_
  refine a_getI fl_RX9_23 dX9_write_1 rfl k_v0 rfl ?_
  refine a_bipush (v := (-2 : Int32)) dX9_write_4 rfl (by decide) ?_
  refine a_icmp_eq (t := 24) dX9_write_6 rfl rfl hf (fun _ hf => ?_) (fun _ hf => ?_)
  · exact AW.weak (wX9_write_24 l v0 h _ k_v0 hf) ⟨rfl, trivial⟩
  refine a_aload_n dX9_write_9 rfl rfl ?_
  refine a_getI fl_RX9_79 dX9_write_10 rfl k_v0 rfl ?_
  refine a_aload_n dX9_write_13 rfl rfl ?_
  refine a_getI fl_RX9_23 dX9_write_14 rfl k_v0 rfl ?_
  refine a_icmp_le (t := 24) dX9_write_17 rfl rfl hf (fun _ hf => ?_) (fun _ hf => ?_)
  · exact AW.weak (wX9_write_24 l v0 h _ k_v0 hf) ⟨rfl, trivial⟩
  refine a_iconst (v := nI 1) dX9_write_20 rfl (by decide) ?_
  refine a_goto (t := 25) dX9_write_21 rfl ?_
  exact AW.weak (wX9_write_25 l v0 (nI 1) h _ k_v0 hf) ⟨rfl, trivial⟩
set_option maxRecDepth 100000 in
set_option maxHeartbeats 4000000 in
theorem sX9_cut (l : Launch) {Γ : Gm} {h h' : AH} {v0 : Nat} {v1 : Int32} {r : Int32} {n_v0 : Nat} (k_v0 : Γ[v0]? = some (9, n_v0)) (hf : fX9_cut Γ v0 v1 h = some (r, h')) : AR l yX9_cut mX9_cut [.ref v0, .int v1] Γ h (some (.int r), Γ, h') := by
  refine AR.of [some (.ref v0), some (.int v1)] (by decide +kernel) rfl (fun z => by cases z) (Nat.le_of_ble_eq_true rfl) ⟨rfl, ⟨rfl, trivial⟩⟩ ?_
  unfold fX9_cut at hf
  refine a_iload_n dX9_cut_0 rfl rfl ?_
  refine a_if_ge (t := 12) dX9_cut_1 rfl rfl hf (fun _ hf => ?_) (fun _ hf => ?_)
  · refine a_aload_n dX9_cut_12 rfl rfl ?_
    refine a_iload_n dX9_cut_13 rfl rfl ?_
    refine a_putI fp_RX9_23 dX9_cut_14 rfl k_v0 rfl hf (fun h14 hf => ?_)
    refine a_iconst (v := nI 1) dX9_cut_17 rfl (by decide) ?_
    cases hf
    exact a_iret dX9_cut_18 rfl rfl rfl (by decide)
  refine a_iload_n dX9_cut_4 rfl rfl ?_
  refine a_bipush (v := (-2 : Int32)) dX9_cut_5 rfl (by decide) ?_
  refine a_icmp_eq (t := 12) dX9_cut_7 rfl rfl hf (fun _ hf => ?_) (fun _ hf => ?_)
  · refine a_aload_n dX9_cut_12 rfl rfl ?_
    refine a_iload_n dX9_cut_13 rfl rfl ?_
    refine a_putI fp_RX9_23 dX9_cut_14 rfl k_v0 rfl hf (fun h14 hf => ?_)
    refine a_iconst (v := nI 1) dX9_cut_17 rfl (by decide) ?_
    cases hf
    exact a_iret dX9_cut_18 rfl rfl rfl (by decide)
  refine a_iconst (v := (-1 : Int32)) dX9_cut_10 rfl (by decide) ?_
  cases hf
  exact a_iret dX9_cut_11 rfl rfl rfl (by decide)
set_option maxRecDepth 100000 in
set_option maxHeartbeats 4000000 in
theorem wX9_load_27 (l : Launch) {Γ : Gm} {r : Int32} {h' : AH} : ∀ (z : Nat) (v0 : Nat) (v1 : Int32) (h : AH), ∀ n_v0 : Nat, Γ[v0]? = some (9, n_v0) → fX9_load_27 Γ z v0 v1 h = some (r, h') → AW l mX9_load (some (.int r), Γ, h') 0 0 27 [some (.ref v0), some (.int v1)] [] Γ h := by
  intro z
  induction z with
  | zero => intro v0 v1 h n_v0 k_v0 hf; cases hf
  | succ z ih =>
    intro v0 v1 h n_v0 k_v0 hf
    unfold fX9_load_27 at hf
    refine a_iload_n dX9_load_27 rfl rfl ?_
    refine a_aload_n dX9_load_28 rfl rfl ?_
    refine a_getI fl_RX9_19 dX9_load_29 rfl k_v0 rfl ?_
    refine a_icmp_ge (t := 53) dX9_load_32 rfl rfl hf (fun _ hf => ?_) (fun _ hf => ?_)
    · refine a_aload_n dX9_load_53 rfl rfl ?_
      refine a_aload_n dX9_load_54 rfl rfl ?_
      refine a_getI fl_RX9_19 dX9_load_55 rfl k_v0 rfl ?_
      refine a_putI fp_RX9_68 dX9_load_58 rfl k_v0 rfl hf (fun h58 hf => ?_)
      refine a_aload_n dX9_load_61 rfl rfl ?_
      refine a_getI fl_RX9_68 dX9_load_62 rfl k_v0 rfl ?_
      cases hf
      exact a_iret dX9_load_65 rfl rfl rfl (by decide)
    refine a_aload_n dX9_load_35 rfl rfl ?_
    refine a_getR fl_RX9_9 dX9_load_36 rfl k_v0 rfl (by decide) hf (fun b36 n_b36 _ k_b36 hf => ?_)
    refine a_iload_n dX9_load_39 rfl rfl ?_
    refine a_aload_n dX9_load_40 rfl rfl ?_
    refine a_getR fl_RX9_16 dX9_load_41 rfl k_v0 rfl (by decide) hf (fun b41 n_b41 _ k_b41 hf => ?_)
    refine a_iload_n dX9_load_44 rfl rfl ?_
    refine a_iald dX9_load_45 rfl k_b41 hf (fun hf => ?_)
    refine a_iast dX9_load_46 rfl k_b36 hf (fun h46 hf => ?_)
    refine a_iinc (v := v1 + nI 1) (L' := [some (.ref v0), some (.int (v1 + nI 1))]) dX9_load_47 rfl rfl rfl (Nat.le_of_ble_eq_true rfl) (fun _ _ hv => by cases hv; rfl) rfl ?_
    refine a_goto (t := 27) dX9_load_50 rfl ?_
    exact AW.weak (ih v0 (v1 + nI 1) h46 _ k_v0 hf) ⟨rfl, ⟨rfl, trivial⟩⟩
set_option maxRecDepth 100000 in
set_option maxHeartbeats 4000000 in
theorem sX9_load (l : Launch) {Γ : Gm} {h h' : AH} {v0 : Nat} {r : Int32} {n_v0 : Nat} (k_v0 : Γ[v0]? = some (9, n_v0)) (hf : fX9_load Γ v0 h = some (r, h')) : AR l yX9_load mX9_load [.ref v0] Γ h (some (.int r), Γ, h') := by
  refine AR.of [some (.ref v0), none] (by decide +kernel) rfl (fun z => by cases z) (Nat.le_of_ble_eq_true rfl) ⟨rfl, trivial⟩ ?_
  unfold fX9_load at hf
  refine a_aload_n dX9_load_0 rfl rfl ?_
  refine a_getI fl_RX9_19 dX9_load_1 rfl k_v0 rfl ?_
  refine a_bipush (v := (-2 : Int32)) dX9_load_4 rfl (by decide) ?_
  refine a_icmp_ne (t := 12) dX9_load_6 rfl rfl hf (fun _ hf => ?_) (fun _ hf => ?_)
  · refine a_bipush (v := (-2 : Int32)) dX9_load_9 rfl (by decide) ?_
    cases hf
    exact a_iret dX9_load_11 rfl rfl rfl (by decide)
  refine a_aload_n dX9_load_12 rfl rfl ?_
  refine a_getI fl_RX9_19 dX9_load_13 rfl k_v0 rfl ?_
  refine a_sipush (v := nI 2000) dX9_load_16 rfl (by decide) ?_
  refine a_icmp_le (t := 25) dX9_load_19 rfl rfl hf (fun _ hf => ?_) (fun _ hf => ?_)
  · refine a_iconst (v := nI 0) dX9_load_25 rfl (by decide) ?_
    refine a_istore_n (L' := [some (.ref v0), some (.int (nI 0))]) dX9_load_26 rfl (Nat.le_of_ble_eq_true rfl) (fun _ _ hv => by cases hv; rfl) rfl ?_
    exact AW.weak (wX9_load_27 l am_fuel v0 (nI 0) h _ k_v0 hf) ⟨rfl, ⟨rfl, trivial⟩⟩
  refine a_bipush (v := (-3 : Int32)) dX9_load_22 rfl (by decide) ?_
  cases hf
  exact a_iret dX9_load_24 rfl rfl rfl (by decide)
set_option maxRecDepth 100000 in
set_option maxHeartbeats 4000000 in
theorem wX9_sum_4 (l : Launch) {Γ : Gm} {r : Int32} {h' : AH} : ∀ (z : Nat) (v0 : Nat) (v1 : Int32) (v2 : Int32) (h : AH), ∀ n_v0 : Nat, Γ[v0]? = some (9, n_v0) → fX9_sum_4 Γ z v0 v1 v2 h = some (r, h') → AW l mX9_sum (some (.int r), Γ, h') 0 0 4 [some (.ref v0), some (.int v1), some (.int v2)] [] Γ h := by
  intro z
  induction z with
  | zero => intro v0 v1 v2 h n_v0 k_v0 hf; cases hf
  | succ z ih =>
    intro v0 v1 v2 h n_v0 k_v0 hf
    unfold fX9_sum_4 at hf
    refine a_iload_n dX9_sum_4 rfl rfl ?_
    refine a_aload_n dX9_sum_5 rfl rfl ?_
    refine a_getI fl_RX9_91 dX9_sum_6 rfl k_v0 rfl ?_
    refine a_icmp_ge (t := 27) dX9_sum_9 rfl rfl hf (fun _ hf => ?_) (fun _ hf => ?_)
    · refine a_iload_n dX9_sum_27 rfl rfl ?_
      cases hf
      exact a_iret dX9_sum_28 rfl rfl rfl (by decide)
    refine a_iload_n dX9_sum_12 rfl rfl ?_
    refine a_aload_n dX9_sum_13 rfl rfl ?_
    refine a_getR fl_RX9_41 dX9_sum_14 rfl k_v0 rfl (by decide) hf (fun b14 n_b14 _ k_b14 hf => ?_)
    refine a_iload_n dX9_sum_17 rfl rfl ?_
    refine a_iald dX9_sum_18 rfl k_b14 hf (fun hf => ?_)
    refine a_iadd dX9_sum_19 rfl ?_
    refine a_nmI hf (fun x20 hf => ?_)
    refine a_istore_n (L' := [some (.ref v0), some (.int x20), some (.int v2)]) dX9_sum_20 rfl (Nat.le_of_ble_eq_true rfl) (fun _ _ hv => by cases hv; rfl) rfl ?_
    refine a_iinc (v := v2 + nI 1) (L' := [some (.ref v0), some (.int x20), some (.int (v2 + nI 1))]) dX9_sum_21 rfl rfl rfl (Nat.le_of_ble_eq_true rfl) (fun _ _ hv => by cases hv; rfl) rfl ?_
    refine a_goto (t := 4) dX9_sum_24 rfl ?_
    exact AW.weak (ih v0 x20 (v2 + nI 1) h _ k_v0 hf) ⟨rfl, ⟨rfl, ⟨rfl, trivial⟩⟩⟩
set_option maxRecDepth 100000 in
set_option maxHeartbeats 4000000 in
theorem sX9_sum (l : Launch) {Γ : Gm} {h h' : AH} {v0 : Nat} {r : Int32} {n_v0 : Nat} (k_v0 : Γ[v0]? = some (9, n_v0)) (hf : fX9_sum Γ v0 h = some (r, h')) : AR l yX9_sum mX9_sum [.ref v0] Γ h (some (.int r), Γ, h') := by
  refine AR.of [some (.ref v0), none, none] (by decide +kernel) rfl (fun z => by cases z) (Nat.le_of_ble_eq_true rfl) ⟨rfl, trivial⟩ ?_
  unfold fX9_sum at hf
  refine a_iconst (v := nI 0) dX9_sum_0 rfl (by decide) ?_
  refine a_istore_n (L' := [some (.ref v0), some (.int (nI 0)), none]) dX9_sum_1 rfl (Nat.le_of_ble_eq_true rfl) (fun _ _ hv => by cases hv; rfl) rfl ?_
  refine a_iconst (v := nI 0) dX9_sum_2 rfl (by decide) ?_
  refine a_istore_n (L' := [some (.ref v0), some (.int (nI 0)), some (.int (nI 0))]) dX9_sum_3 rfl (Nat.le_of_ble_eq_true rfl) (fun _ _ hv => by cases hv; rfl) rfl ?_
  exact AW.weak (wX9_sum_4 l am_fuel v0 (nI 0) (nI 0) h _ k_v0 hf) ⟨rfl, ⟨rfl, ⟨rfl, trivial⟩⟩⟩
