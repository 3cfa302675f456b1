set_option maxRecDepth 100000 in
set_option maxHeartbeats 4000000 in
theorem wX9_frame_58 (l : Launch) {Γ : Gm} {r : Int32} {h' : AH} (v0 : Nat) (v2 : Int32) (v3 : Int32) (h : AH) : ∀ n_v0 : Nat, Γ[v0]? = some (9, n_v0) → fX9_frame_58 Γ v0 v2 v3 h = some (r, h') → AW l mX9_frame (some (.int r), Γ, h') 0 0 58 [some (.ref v0), none, some (.int v2), some (.int v3)] [] Γ h := by
  intro n_v0 k_v0 hf
  unfold fX9_frame_58 at hf
  refine a_iload_n dX9_frame_58 rfl rfl ?_
  refine a_bipush (v := (10 : Int32)) dX9_frame_59 rfl (by decide) ?_
  refine a_icmp_ge (t := 66) dX9_frame_61 rfl rfl hf (fun _ hf => ?_) (fun _ hf => ?_)
  · refine a_iload_n dX9_frame_66 rfl rfl ?_
    refine a_bipush (v := (10 : Int32)) dX9_frame_67 rfl (by decide) ?_
    refine a_isub dX9_frame_69 rfl ?_
    refine a_aload_n dX9_frame_70 rfl rfl ?_
    refine a_getR fl_RX9_32 dX9_frame_71 rfl k_v0 rfl (by decide) hf (fun b71 n_b71 _ k_b71 hf => ?_)
    refine a_iload_n dX9_frame_74 rfl rfl ?_
    refine a_iconst (v := (3 : Int32)) dX9_frame_75 rfl (by decide) ?_
    refine a_iadd dX9_frame_76 rfl ?_
    refine a_iald dX9_frame_77 rfl k_b71 hf (fun hf => ?_)
    refine a_aload_n dX9_frame_78 rfl rfl ?_
    refine a_getR fl_RX9_32 dX9_frame_79 rfl k_v0 rfl (by decide) hf (fun b79 n_b79 _ k_b79 hf => ?_)
    refine a_iload_n dX9_frame_82 rfl rfl ?_
    refine a_iconst (v := (4 : Int32)) dX9_frame_83 rfl (by decide) ?_
    refine a_iadd dX9_frame_84 rfl ?_
    refine a_iald dX9_frame_85 rfl k_b79 hf (fun hf => ?_)
    refine a_iadd dX9_frame_86 rfl ?_
    refine a_icmp_ge (t := 106) dX9_frame_87 rfl rfl hf (fun _ hf => ?_) (fun _ hf => ?_)
    · refine a_bipush (v := (-2 : Int32)) dX9_frame_106 rfl (by decide) ?_
      cases hf
      exact a_iret dX9_frame_108 rfl rfl rfl (by decide)
    refine a_aload_n dX9_frame_90 rfl rfl ?_
    refine a_getR fl_RX9_32 dX9_frame_91 rfl k_v0 rfl (by decide) hf (fun b91 n_b91 _ k_b91 hf => ?_)
    refine a_iload_n dX9_frame_94 rfl rfl ?_
    refine a_iconst (v := (5 : Int32)) dX9_frame_95 rfl (by decide) ?_
    refine a_iadd dX9_frame_96 rfl ?_
    refine a_iload_n dX9_frame_97 rfl rfl ?_
    refine a_iadd dX9_frame_98 rfl ?_
    refine a_bipush (v := (10 : Int32)) dX9_frame_99 rfl (by decide) ?_
    refine a_isub dX9_frame_101 rfl ?_
    refine a_iald dX9_frame_102 rfl k_b91 hf (fun hf => ?_)
    refine a_goto (t := 108) dX9_frame_103 rfl ?_
    cases hf
    exact a_iret dX9_frame_108 rfl rfl rfl (by decide)
  refine a_iconst (v := (-1 : Int32)) dX9_frame_64 rfl (by decide) ?_
  cases hf
  exact a_iret dX9_frame_65 rfl rfl rfl (by decide)
set_option maxRecDepth 100000 in
set_option maxHeartbeats 4000000 in
theorem sX9_frame (l : Launch) {Γ : Gm} {h h' : AH} {v0 : Nat} {v1 : Int32} {v2 : Int32} {r : Int32} {n_v0 : Nat} (k_v0 : Γ[v0]? = some (9, n_v0)) (hf : fX9_frame Γ v0 v1 v2 h = some (r, h')) : AR l yX9_frame mX9_frame [.ref v0, .int v1, .int v2] Γ h (some (.int r), Γ, h') := by
  refine AR.of [some (.ref v0), some (.int v1), some (.int v2), none] (by decide +kernel) rfl (fun z => by cases z) (Nat.le_of_ble_eq_true rfl) ⟨rfl, ⟨rfl, ⟨rfl, trivial⟩⟩⟩ ?_
  unfold fX9_frame at hf
  refine a_aload_n dX9_frame_0 rfl rfl ?_
  refine a_getI fl_RX9_82 dX9_frame_1 rfl k_v0 rfl ?_
  refine a_if_ne (t := 10) dX9_frame_4 rfl rfl hf (fun _ hf => ?_) (fun _ hf => ?_)
  · refine a_bipush (v := (-4 : Int32)) dX9_frame_7 rfl (by decide) ?_
    cases hf
    exact a_iret dX9_frame_9 rfl rfl rfl (by decide)
  refine a_iload_n dX9_frame_10 rfl rfl ?_
  refine a_iconst (v := (0 : Int32)) dX9_frame_11 rfl (by decide) ?_
  refine a_aload_n dX9_frame_12 rfl rfl ?_
  refine a_getR fl_RX9_32 dX9_frame_13 rfl k_v0 rfl (by decide) hf (fun b13 n_b13 _ k_b13 hf => ?_)
  refine a_sipush (v := (1001 : Int32)) dX9_frame_16 rfl (by decide) ?_
  refine a_iald dX9_frame_19 rfl k_b13 hf (fun hf => ?_)
  refine a_iconst (v := (1 : Int32)) dX9_frame_20 rfl (by decide) ?_
  refine a_isub dX9_frame_21 rfl ?_
  obtain ⟨r22, h22, hc22, hf⟩ := am_bind_some hf
  refine a_callS (As := [.int v1, .int ((0 : Int32)), .int ((h.1 b13 ((1001 : Int32)).toNatClampNeg) - ((1 : Int32)))]) (r1 := (some (.int r22), Γ, h22)) (sX9_outside l hc22) ccX9_outside tw_819 tw_820 ⟨Nat.le_of_ble_eq_true rfl, Nat.le_of_ble_eq_true rfl, Nat.le_of_ble_eq_true rfl, Nat.le_of_ble_eq_true rfl⟩ dX9_frame_22 rfl rfl (Nat.le_of_ble_eq_true rfl) rfl rfl (fun hr22 => ?_)
  refine a_if_eq (t := 31) dX9_frame_25 rfl rfl hf (fun _ hf => ?_) (fun _ hf => ?_)
  · refine a_sipush (v := (1002 : Int32)) dX9_frame_31 rfl (by decide) ?_
    refine a_iload_n dX9_frame_34 rfl rfl ?_
    refine a_bipush (v := (60 : Int32)) dX9_frame_35 rfl (by decide) ?_
    refine a_imul dX9_frame_37 rfl ?_
    refine a_iadd dX9_frame_38 rfl ?_
    refine a_nmI hf (fun x39 hf => ?_)
    refine a_istore_n (L' := [some (.ref v0), some (.int v1), some (.int v2), some (.int x39)]) dX9_frame_39 rfl (Nat.le_of_ble_eq_true rfl) (fun _ _ hv => by cases hv; rfl) rfl ?_
    refine a_iload_n dX9_frame_40 rfl rfl ?_
    refine a_if_lt (t := 58) dX9_frame_41 rfl rfl hf (fun _ hf => ?_) (fun _ hf => ?_)
    · exact AW.weak (wX9_frame_58 l v0 v2 x39 h22 _ k_v0 hf) ⟨rfl, ⟨rfl, ⟨rfl, trivial⟩⟩⟩
    refine a_iload_n dX9_frame_44 rfl rfl ?_
    refine a_iconst (v := (4 : Int32)) dX9_frame_45 rfl (by decide) ?_
    refine a_icmp_gt (t := 58) dX9_frame_46 rfl rfl hf (fun _ hf => ?_) (fun _ hf => ?_)
    · exact AW.weak (wX9_frame_58 l v0 v2 x39 h22 _ k_v0 hf) ⟨rfl, ⟨rfl, ⟨rfl, trivial⟩⟩⟩
    refine a_aload_n dX9_frame_49 rfl rfl ?_
    refine a_getR fl_RX9_32 dX9_frame_50 rfl k_v0 rfl (by decide) hf (fun b50 n_b50 _ k_b50 hf => ?_)
    refine a_iload_n dX9_frame_53 rfl rfl ?_
    refine a_iload_n dX9_frame_54 rfl rfl ?_
    refine a_iadd dX9_frame_55 rfl ?_
    refine a_iald dX9_frame_56 rfl k_b50 hf (fun hf => ?_)
    cases hf
    exact a_iret dX9_frame_57 rfl rfl rfl (by decide)
  refine a_bipush (v := (-2 : Int32)) dX9_frame_28 rfl (by decide) ?_
  cases hf
  exact a_iret dX9_frame_30 rfl rfl rfl (by decide)
set_option maxRecDepth 100000 in
set_option maxHeartbeats 4000000 in
theorem wX9_number_4 (l : Launch) {Γ : Gm} {r : Unit} {h' : AH} : ∀ (z : Nat) (v0 : Nat) (v1 : Int32) (v3 : Int32) (h : AH), ∀ n_v0 : Nat, Γ[v0]? = some (9, n_v0) → fX9_number_4 Γ z v0 v1 v3 h = some (r, h') → AW l mX9_number (none, Γ, h') 0 0 4 [some (.ref v0), some (.int v1), none, some (.int v3)] [] Γ h := by
  intro z
  induction z with
  | zero => intro v0 v1 v3 h n_v0 k_v0 hf; cases hf
  | succ z ih =>
    intro v0 v1 v3 h n_v0 k_v0 hf
    unfold fX9_number_4 at hf
    refine a_iload_n dX9_number_4 rfl rfl ?_
    refine a_if_lt (t := 43) dX9_number_5 rfl rfl hf (fun _ hf => ?_) (fun _ hf => ?_)
    · cases hf
      exact a_ret dX9_number_43 rfl rfl rfl
    refine a_aload_n dX9_number_8 rfl rfl ?_
    refine a_getR fl_RX9_65 dX9_number_9 rfl k_v0 rfl (by decide) hf (fun b9 n_b9 _ k_b9 hf => ?_)
    refine a_aload_n dX9_number_12 rfl rfl ?_
    refine a_getI fl_RX9_100 dX9_number_13 rfl k_v0 rfl ?_
    refine a_iload_n dX9_number_16 rfl rfl ?_
    refine a_bipush (v := (8 : Int32)) dX9_number_17 rfl (by decide) ?_
    refine a_iload_n dX9_number_19 rfl rfl ?_
    refine a_imul dX9_number_20 rfl ?_
    refine a_ishr dX9_number_21 rfl ?_
    refine a_sipush (v := (255 : Int32)) dX9_number_22 rfl (by decide) ?_
    refine a_iand dX9_number_25 rfl ?_
    refine a_iast dX9_number_26 rfl k_b9 hf (fun h26 hf => ?_)
    refine a_aload_n dX9_number_27 rfl rfl ?_
    refine a_dup dX9_number_28 rfl rfl ?_
    refine a_getI fl_RX9_100 dX9_number_29 rfl k_v0 rfl ?_
    refine a_iconst (v := (1 : Int32)) dX9_number_32 rfl (by decide) ?_
    refine a_iadd dX9_number_33 rfl ?_
    refine a_putI fp_RX9_100 dX9_number_34 rfl k_v0 rfl hf (fun h34 hf => ?_)
    refine a_iinc (v := v3 + (-1 : Int32)) (L' := [some (.ref v0), some (.int v1), none, some (.int (v3 + (-1 : Int32)))]) dX9_number_37 rfl rfl rfl (Nat.le_of_ble_eq_true rfl) (fun _ _ hv => by cases hv) rfl ?_
    refine a_goto (t := 4) dX9_number_40 rfl ?_
    exact AW.weak (ih v0 v1 (v3 + (-1 : Int32)) h34 _ k_v0 hf) ⟨rfl, ⟨rfl, ⟨rfl, trivial⟩⟩⟩
set_option maxRecDepth 100000 in
set_option maxHeartbeats 4000000 in
theorem sX9_number (l : Launch) {Γ : Gm} {h h' : AH} {v0 : Nat} {v1 : Int32} {v2 : Int32} {r : Unit} {n_v0 : Nat} (k_v0 : Γ[v0]? = some (9, n_v0)) (hf : fX9_number Γ v0 v1 v2 h = some (r, h')) : AR l yX9_number mX9_number [.ref v0, .int v1, .int v2] Γ h (none, Γ, h') := by
  refine AR.of [some (.ref v0), some (.int v1), some (.int v2), none] (by decide +kernel) rfl (fun z => by cases z) (Nat.le_of_ble_eq_true rfl) ⟨rfl, ⟨rfl, ⟨rfl, trivial⟩⟩⟩ ?_
  unfold fX9_number at hf
  refine a_iload_n dX9_number_0 rfl rfl ?_
  refine a_iconst (v := (1 : Int32)) dX9_number_1 rfl (by decide) ?_
  refine a_isub dX9_number_2 rfl ?_
  refine a_nmI hf (fun x3 hf => ?_)
  refine a_istore_n (L' := [some (.ref v0), some (.int v1), some (.int v2), some (.int x3)]) dX9_number_3 rfl (Nat.le_of_ble_eq_true rfl) (fun _ _ hv => by cases hv; rfl) rfl ?_
  exact AW.weak (wX9_number_4 l am_fuel v0 v1 x3 h _ k_v0 hf) ⟨rfl, ⟨rfl, ⟨rfl, trivial⟩⟩⟩
set_option maxRecDepth 100000 in
set_option maxHeartbeats 4000000 in
theorem wX9_makeB_85 (l : Launch) {Γ : Gm} {r : Unit} {h' : AH} {k4 : Nat → Nat → Int32 → Int32 → AH → Option (Unit × AH)} (hk4 : ∀ v0 v1 v2 v3 (h : AH), ∀ n_v0 : Nat, Γ[v0]? = some (9, n_v0) → ∀ n_v1 : Nat, Γ[v1]? = some (10, n_v1) → k4 v0 v1 v2 v3 h = some (r, h') → AW l mX9_makeB (none, Γ, h') 0 0 4 [some (.ref v0), some (.ref v1), some (.int v2), some (.int v3), none, none] [] Γ h) (v0 : Nat) (v1 : Nat) (v2 : Int32) (v3 : Int32) (h : AH) : ∀ n_v0 : Nat, Γ[v0]? = some (9, n_v0) → ∀ n_v1 : Nat, Γ[v1]? = some (10, n_v1) → fX9_makeB_85 Γ k4 v0 v1 v2 v3 h = some (r, h') → AW l mX9_makeB (none, Γ, h') 0 0 85 [some (.ref v0), some (.ref v1), some (.int v2), some (.int (v3 + (1 : Int32))), none, none] [] Γ h := by
  intro n_v0 k_v0 n_v1 k_v1 hf
  unfold fX9_makeB_85 at hf
  refine a_iinc (v := v3 + (1 : Int32)) (L' := [some (.ref v0), some (.ref v1), some (.int v2), some (.int (v3 + (1 : Int32))), none, none]) dX9_makeB_85 rfl rfl rfl (Nat.le_of_ble_eq_true rfl) (fun _ _ hv => by cases hv; rfl) rfl ?_
  refine a_goto (t := 4) dX9_makeB_88 rfl ?_
  exact AW.weak (hk4 v0 v1 v2 (v3 + (1 : Int32)) h _ k_v0 _ k_v1 hf) ⟨rfl, ⟨rfl, ⟨rfl, ⟨rfl, trivial⟩⟩⟩⟩
set_option maxRecDepth 100000 in
set_option maxHeartbeats 4000000 in
theorem wX9_makeB_53 (l : Launch) {Γ : Gm} {r : Unit} {h' : AH} {k4 : Nat → Nat → Int32 → Int32 → AH → Option (Unit × AH)} {k35 : Nat → Nat → Int32 → Int32 → Int32 → AH → Option (Unit × AH)} (hk4 : ∀ v0 v1 v2 v3 (h : AH), ∀ n_v0 : Nat, Γ[v0]? = some (9, n_v0) → ∀ n_v1 : Nat, Γ[v1]? = some (10, n_v1) → k4 v0 v1 v2 v3 h = some (r, h') → AW l mX9_makeB (none, Γ, h') 0 0 4 [some (.ref v0), some (.ref v1), some (.int v2), some (.int v3), none, none] [] Γ h) (hk35 : ∀ v0 v1 v2 v3 v4 (h : AH), ∀ n_v0 : Nat, Γ[v0]? = some (9, n_v0) → ∀ n_v1 : Nat, Γ[v1]? = some (10, n_v1) → k35 v0 v1 v2 v3 v4 h = some (r, h') → AW l mX9_makeB (none, Γ, h') 0 0 35 [some (.ref v0), some (.ref v1), some (.int v2), some (.int v3), some (.int v4), none] [] Γ h) (v0 : Nat) (v1 : Nat) (v2 : Int32) (v3 : Int32) (v4 : Int32) (s0 : Int32) (h : AH) : ∀ n_v0 : Nat, Γ[v0]? = some (9, n_v0) → ∀ n_v1 : Nat, Γ[v1]? = some (10, n_v1) → fX9_makeB_53 Γ k4 k35 v0 v1 v2 v3 v4 s0 h = some (r, h') → AW l mX9_makeB (none, Γ, h') 0 0 53 [some (.ref v0), some (.ref v1), some (.int x74), some (.int v3), some (.int v4), some (.int s0)] [] Γ h := by
  intro n_v0 k_v0 n_v1 k_v1 hf
  unfold fX9_makeB_53 at hf
  refine a_istore (L' := [some (.ref v0), some (.ref v1), some (.int v2), some (.int v3), some (.int v4), some (.int s0)]) dX9_makeB_53 rfl (Nat.le_of_ble_eq_true rfl) (fun _ _ hv => by cases hv; rfl) rfl ?_
  refine a_aload_n dX9_makeB_55 rfl rfl ?_
  refine a_iconst (v := (0 : Int32)) dX9_makeB_56 rfl (by decide) ?_
  refine a_iconst (v := (1 : Int32)) dX9_makeB_57 rfl (by decide) ?_
  obtain ⟨r58, h58, hc58, hf⟩ := am_bind_some hf
  refine a_callV (As := [.int ((0 : Int32)), .int ((1 : Int32))]) (r1 := (none, Γ, h58)) (sX9_number l k_v0 hc58) ccX9_number tw_884 tw_886 tp_16 (ci := 9) rfl (by decide) ⟨Nat.le_of_ble_eq_true rfl, Nat.le_of_ble_eq_true rfl, Nat.le_of_ble_eq_true rfl, Nat.le_of_ble_eq_true rfl⟩ dX9_makeB_58 rfl k_v0 rfl (Nat.le_of_ble_eq_true rfl) rfl rfl (fun hr58 => ?_)
  refine a_aload_n dX9_makeB_61 rfl rfl ?_
  refine a_iload dX9_makeB_62 rfl rfl ?_
  refine a_iconst (v := (1 : Int32)) dX9_makeB_64 rfl (by decide) ?_
  refine a_isub dX9_makeB_65 rfl ?_
  refine a_iconst (v := (1 : Int32)) dX9_makeB_66 rfl (by decide) ?_
  obtain ⟨r67, h67, hc67, hf⟩ := am_bind_some hf
  refine a_callV (As := [.int (s0 - ((1 : Int32))), .int ((1 : Int32))]) (r1 := (none, Γ, h67)) (sX9_number l k_v0 hc67) ccX9_number tw_884 tw_886 tp_16 (ci := 9) rfl (by decide) ⟨Nat.le_of_ble_eq_true rfl, Nat.le_of_ble_eq_true rfl, Nat.le_of_ble_eq_true rfl, Nat.le_of_ble_eq_true rfl⟩ dX9_makeB_67 rfl k_v0 rfl (Nat.le_of_ble_eq_true rfl) rfl rfl (fun hr67 => ?_)
  refine a_iload_n dX9_makeB_70 rfl rfl ?_
  refine a_iload dX9_makeB_71 rfl rfl ?_
  refine a_isub dX9_makeB_73 rfl ?_
  refine a_nmI hf (fun x74 hf => ?_)
  refine a_istore_n (L' := [some (.ref v0), some (.ref v1), some (.int x74), some (.int v3), some (.int v4), some (.int s0)]) dX9_makeB_74 rfl (Nat.le_of_ble_eq_true rfl) (fun _ _ hv => by cases hv; rfl) rfl ?_
  refine a_goto (t := 35) dX9_makeB_75 rfl ?_
  exact AW.weak (hk35 v0 v1 x74 v3 v4 h67 _ k_v0 _ k_v1 hf) ⟨rfl, ⟨rfl, ⟨rfl, ⟨rfl, ⟨rfl, trivial⟩⟩⟩⟩⟩
set_option maxRecDepth 100000 in
set_option maxHeartbeats 4000000 in
theorem wX9_makeB_35 (l : Launch) {Γ : Gm} {r : Unit} {h' : AH} {k4 : Nat → Nat → Int32 → Int32 → AH → Option (Unit × AH)} (hk4 : ∀ v0 v1 v2 v3 (h : AH), ∀ n_v0 : Nat, Γ[v0]? = some (9, n_v0) → ∀ n_v1 : Nat, Γ[v1]? = some (10, n_v1) → k4 v0 v1 v2 v3 h = some (r, h') → AW l mX9_makeB (none, Γ, h') 0 0 4 [some (.ref v0), some (.ref v1), some (.int v2), some (.int v3), none, none] [] Γ h) : ∀ (z : Nat) (v0 : Nat) (v1 : Nat) (v2 : Int32) (v3 : Int32) (v4 : Int32) (h : AH), ∀ n_v0 : Nat, Γ[v0]? = some (9, n_v0) → ∀ n_v1 : Nat, Γ[v1]? = some (10, n_v1) → fX9_makeB_35 Γ k4 z v0 v1 v2 v3 v4 h = some (r, h') → AW l mX9_makeB (none, Γ, h') 0 0 35 [some (.ref v0), some (.ref v1), some (.int v2), some (.int v3), some (.int v4), none] [] Γ h := by
  intro z
  induction z with
  | zero => intro v0 v1 v2 v3 v4 h n_v0 k_v0 n_v1 k_v1 hf; cases hf
  | succ z ih =>
    intro v0 v1 v2 v3 v4 h n_v0 k_v0 n_v1 k_v1 hf
    unfold fX9_makeB_35 at hf
    refine a_iload_n dX9_makeB_35 rfl rfl ?_
    refine a_if_le (t := 78) dX9_makeB_36 rfl rfl hf (fun _ hf => ?_) (fun _ hf => ?_)
    · refine a_aload_n dX9_makeB_78 rfl rfl ?_
      refine a_iload dX9_makeB_79 rfl rfl ?_
      refine a_iconst (v := (1 : Int32)) dX9_makeB_81 rfl (by decide) ?_
      obtain ⟨r82, h82, hc82, hf⟩ := am_bind_some hf
      refine a_callV (As := [.int v4, .int ((1 : Int32))]) (r1 := (none, Γ, h82)) (sX9_number l k_v0 hc82) ccX9_number tw_884 tw_886 tp_16 (ci := 9) rfl (by decide) ⟨Nat.le_of_ble_eq_true rfl, Nat.le_of_ble_eq_true rfl, Nat.le_of_ble_eq_true rfl, Nat.le_of_ble_eq_true rfl⟩ dX9_makeB_82 rfl k_v0 rfl (Nat.le_of_ble_eq_true rfl) rfl rfl (fun hr82 => ?_)
      exact AW.weak (wX9_makeB_85 l hk4 v0 v1 v2 v3 h82 _ k_v0 _ k_v1 hf) ⟨rfl, ⟨rfl, ⟨rfl, ⟨rfl, trivial⟩⟩⟩⟩
    refine a_iload_n dX9_makeB_39 rfl rfl ?_
    refine a_sipush (v := (256 : Int32)) dX9_makeB_40 rfl (by decide) ?_
    refine a_icmp_le (t := 52) dX9_makeB_43 rfl rfl hf (fun _ hf => ?_) (fun _ hf => ?_)
    · refine a_iload_n dX9_makeB_52 rfl rfl ?_
      exact AW.weak (wX9_makeB_53 l hk4 ih v0 v1 v2 v3 v4 v2 h _ k_v0 _ k_v1 hf) ⟨rfl, ⟨rfl, ⟨rfl, ⟨rfl, ⟨rfl, trivial⟩⟩⟩⟩⟩
    refine a_sipush (v := (256 : Int32)) dX9_makeB_46 rfl (by decide) ?_
    refine a_goto (t := 53) dX9_makeB_49 rfl ?_
    exact AW.weak (wX9_makeB_53 l hk4 ih v0 v1 v2 v3 v4 ((256 : Int32)) h _ k_v0 _ k_v1 hf) ⟨rfl, ⟨rfl, ⟨rfl, ⟨rfl, ⟨rfl, trivial⟩⟩⟩⟩⟩
set_option maxRecDepth 100000 in
set_option maxHeartbeats 4000000 in
theorem wX9_makeB_4 (l : Launch) {Γ : Gm} {r : Unit} {h' : AH} : ∀ (z : Nat) (v0 : Nat) (v1 : Nat) (v2 : Int32) (v3 : Int32) (h : AH), ∀ n_v0 : Nat, Γ[v0]? = some (9, n_v0) → ∀ n_v1 : Nat, Γ[v1]? = some (10, n_v1) → fX9_makeB_4 Γ z v0 v1 v2 v3 h = some (r, h') → AW l mX9_makeB (none, Γ, h') 0 0 4 [some (.ref v0), some (.ref v1), some (.int v2), some (.int v3), none, none] [] Γ h := by
  intro z
  induction z with
  | zero => intro v0 v1 v2 v3 h n_v0 k_v0 n_v1 k_v1 hf; cases hf
  | succ z ih =>
    intro v0 v1 v2 v3 h n_v0 k_v0 n_v1 k_v1 hf
    unfold fX9_makeB_4 at hf
    refine a_iload_n dX9_makeB_4 rfl rfl ?_
    refine a_aload_n dX9_makeB_5 rfl rfl ?_
    refine a_getI fl_RX9_82 dX9_makeB_6 rfl k_v0 rfl ?_
    refine a_icmp_ge (t := 91) dX9_makeB_9 rfl rfl hf (fun _ hf => ?_) (fun _ hf => ?_)
    · cases hf
      exact a_ret dX9_makeB_91 rfl rfl rfl
    refine a_aload_n dX9_makeB_12 rfl rfl ?_
    refine a_iload_n dX9_makeB_13 rfl rfl ?_
    refine a_iald dX9_makeB_14 rfl k_v1 hf (fun hf => ?_)
    refine a_aload_n dX9_makeB_15 rfl rfl ?_
    refine a_getR fl_RX9_29 dX9_makeB_16 rfl k_v0 rfl (by decide) hf (fun b16 n_b16 _ k_b16 hf => ?_)
    refine a_iload_n dX9_makeB_19 rfl rfl ?_
    refine a_iald dX9_makeB_20 rfl k_b16 hf (fun hf => ?_)
    refine a_ixor dX9_makeB_21 rfl ?_
    refine a_nmI hf (fun x22 hf => ?_)
    refine a_istore (L' := [some (.ref v0), some (.ref v1), some (.int v2), some (.int v3), some (.int x22), none]) dX9_makeB_22 rfl (Nat.le_of_ble_eq_true rfl) (fun _ _ hv => by cases hv; rfl) rfl ?_
    refine a_iload dX9_makeB_24 rfl rfl ?_
    refine a_if_ne (t := 35) dX9_makeB_26 rfl rfl hf (fun _ hf => ?_) (fun _ hf => ?_)
    · refine a_iinc (v := v2 + (1 : Int32)) (L' := [some (.ref v0), some (.ref v1), some (.int (v2 + (1 : Int32))), some (.int v3), some (.int x22), none]) dX9_makeB_29 rfl rfl rfl (Nat.le_of_ble_eq_true rfl) (fun _ _ hv => by cases hv; rfl) rfl ?_
      refine a_goto (t := 85) dX9_makeB_32 rfl ?_
      exact AW.weak (wX9_makeB_85 l ih v0 v1 (v2 + (1 : Int32)) v3 h _ k_v0 _ k_v1 hf) ⟨rfl, ⟨rfl, ⟨rfl, ⟨rfl, trivial⟩⟩⟩⟩
    exact AW.weak (wX9_makeB_35 l ih am_fuel v0 v1 v2 v3 x22 h _ k_v0 _ k_v1 hf) ⟨rfl, ⟨rfl, ⟨rfl, ⟨rfl, ⟨rfl, trivial⟩⟩⟩⟩⟩
set_option maxRecDepth 100000 in
set_option maxHeartbeats 4000000 in
theorem sX9_makeB (l : Launch) {Γ : Gm} {h h' : AH} {v0 : Nat} {v1 : Nat} {r : Unit} {n_v0 : Nat} (k_v0 : Γ[v0]? = some (9, n_v0)) {n_v1 : Nat} (k_v1 : Γ[v1]? = some (10, n_v1)) (hf : fX9_makeB Γ v0 v1 h = some (r, h')) : AR l yX9_makeB mX9_makeB [.ref v0, .ref v1] Γ h (none, Γ, h') := by
  refine AR.of [some (.ref v0), some (.ref v1), none, none, none, none] (by decide +kernel) rfl (fun z => by cases z) (Nat.le_of_ble_eq_true rfl) ⟨rfl, ⟨rfl, trivial⟩⟩ ?_
  unfold fX9_makeB at hf
  refine a_iconst (v := (0 : Int32)) dX9_makeB_0 rfl (by decide) ?_
  refine a_istore_n (L' := [some (.ref v0), some (.ref v1), some (.int ((0 : Int32))), none, none, none]) dX9_makeB_1 rfl (Nat.le_of_ble_eq_true rfl) (fun _ _ hv => by cases hv; rfl) rfl ?_
  refine a_iconst (v := (0 : Int32)) dX9_makeB_2 rfl (by decide) ?_
  refine a_istore_n (L' := [some (.ref v0), some (.ref v1), some (.int ((0 : Int32))), some (.int ((0 : Int32))), none, none]) dX9_makeB_3 rfl (Nat.le_of_ble_eq_true rfl) (fun _ _ hv => by cases hv; rfl) rfl ?_
  exact AW.weak (wX9_makeB_4 l am_fuel v0 v1 ((0 : Int32)) ((0 : Int32)) h _ k_v0 _ k_v1 hf) ⟨rfl, ⟨rfl, ⟨rfl, ⟨rfl, trivial⟩⟩⟩⟩
set_option maxRecDepth 100000 in
set_option maxHeartbeats 4000000 in
theorem wX9_makeD_113 (l : Launch) {Γ : Gm} {r : Unit} {h' : AH} {k2 : Nat → Nat → Int32 → AH → Option (Unit × AH)} (hk2 : ∀ v0 v1 v2 (h : AH), ∀ n_v0 : Nat, Γ[v0]? = some (9, n_v0) → ∀ n_v1 : Nat, Γ[v1]? = some (10, n_v1) → k2 v0 v1 v2 h = some (r, h') → AW l mX9_makeD (none, Γ, h') 0 0 2 [some (.ref v0), some (.ref v1), some (.int v2), none, none, none] [] Γ h) : ∀ (z : Nat) (v0 : Nat) (v1 : Nat) (v2 : Int32) (v3 : Int32) (v5 : Int32) (h : AH), ∀ n_v0 : Nat, Γ[v0]? = some (9, n_v0) → ∀ n_v1 : Nat, Γ[v1]? = some (10, n_v1) → fX9_makeD_113 Γ k2 z v0 v1 v2 v3 v5 h = some (r, h') → AW l mX9_makeD (none, Γ, h') 0 0 113 [some (.ref v0), some (.ref v1), some (.int v2), some (.int v3), none, some (.int v5)] [] Γ h := by
  intro z
  induction z with
  | zero => intro v0 v1 v2 v3 v5 h n_v0 k_v0 n_v1 k_v1 hf; cases hf
  | succ z ih =>
    intro v0 v1 v2 v3 v5 h n_v0 k_v0 n_v1 k_v1 hf
    unfold fX9_makeD_113 at hf
    refine a_iload dX9_makeD_113 rfl rfl ?_
    refine a_aload_n dX9_makeD_115 rfl rfl ?_
    refine a_iload_n dX9_makeD_116 rfl rfl ?_
    refine a_iconst (v := (3 : Int32)) dX9_makeD_117 rfl (by decide) ?_
    refine a_iadd dX9_makeD_118 rfl ?_
    refine a_iald dX9_makeD_119 rfl k_v1 hf (fun hf => ?_)
    refine a_aload_n dX9_makeD_120 rfl rfl ?_
    refine a_iload_n dX9_makeD_121 rfl rfl ?_
    refine a_iconst (v := (4 : Int32)) dX9_makeD_122 rfl (by decide) ?_
    refine a_iadd dX9_makeD_123 rfl ?_
    refine a_iald dX9_makeD_124 rfl k_v1 hf (fun hf => ?_)
    refine a_iadd dX9_makeD_125 rfl ?_
    refine a_icmp_ge (t := 148) dX9_makeD_126 rfl rfl hf (fun _ hf => ?_) (fun _ hf => ?_)
    · refine a_iinc (v := v2 + (1 : Int32)) (L' := [some (.ref v0), some (.ref v1), some (.int (v2 + (1 : Int32))), some (.int v3), none, some (.int v5)]) dX9_makeD_148 rfl rfl rfl (Nat.le_of_ble_eq_true rfl) (fun _ _ hv => by cases hv; rfl) rfl ?_
      refine a_goto (t := 2) dX9_makeD_151 rfl ?_
      exact AW.weak (hk2 v0 v1 (v2 + (1 : Int32)) h _ k_v0 _ k_v1 hf) ⟨rfl, ⟨rfl, ⟨rfl, trivial⟩⟩⟩
    refine a_aload_n dX9_makeD_129 rfl rfl ?_
    refine a_aload_n dX9_makeD_130 rfl rfl ?_
    refine a_iload_n dX9_makeD_131 rfl rfl ?_
    refine a_iconst (v := (5 : Int32)) dX9_makeD_132 rfl (by decide) ?_
    refine a_iadd dX9_makeD_133 rfl ?_
    refine a_iload dX9_makeD_134 rfl rfl ?_
    refine a_iadd dX9_makeD_136 rfl ?_
    refine a_iald dX9_makeD_137 rfl k_v1 hf (fun hf => ?_)
    refine a_iconst (v := (2 : Int32)) dX9_makeD_138 rfl (by decide) ?_
    obtain ⟨r139, h139, hc139, hf⟩ := am_bind_some hf
    refine a_callV (As := [.int (h.1 v1 ((v3 + ((5 : Int32))) + v5).toNatClampNeg), .int ((2 : Int32))]) (r1 := (none, Γ, h139)) (sX9_number l k_v0 hc139) ccX9_number tw_884 tw_886 tp_16 (ci := 9) rfl (by decide) ⟨Nat.le_of_ble_eq_true rfl, Nat.le_of_ble_eq_true rfl, Nat.le_of_ble_eq_true rfl, Nat.le_of_ble_eq_true rfl⟩ dX9_makeD_139 rfl k_v0 rfl (Nat.le_of_ble_eq_true rfl) rfl rfl (fun hr139 => ?_)
    refine a_iinc (v := v5 + (1 : Int32)) (L' := [some (.ref v0), some (.ref v1), some (.int v2), some (.int v3), none, some (.int (v5 + (1 : Int32)))]) dX9_makeD_142 rfl rfl rfl (Nat.le_of_ble_eq_true rfl) (fun _ _ hv => by cases hv) rfl ?_
    refine a_goto (t := 113) dX9_makeD_145 rfl ?_
    exact AW.weak (ih v0 v1 v2 v3 (v5 + (1 : Int32)) h139 _ k_v0 _ k_v1 hf) ⟨rfl, ⟨rfl, ⟨rfl, ⟨rfl, ⟨rfl, trivial⟩⟩⟩⟩⟩
set_option maxRecDepth 100000 in
set_option maxHeartbeats 4000000 in
theorem wX9_makeD_82 (l : Launch) {Γ : Gm} {r : Unit} {h' : AH} {k2 : Nat → Nat → Int32 → AH → Option (Unit × AH)} (hk2 : ∀ v0 v1 v2 (h : AH), ∀ n_v0 : Nat, Γ[v0]? = some (9, n_v0) → ∀ n_v1 : Nat, Γ[v1]? = some (10, n_v1) → k2 v0 v1 v2 h = some (r, h') → AW l mX9_makeD (none, Γ, h') 0 0 2 [some (.ref v0), some (.ref v1), some (.int v2), none, none, none] [] Γ h) (v0 : Nat) (v1 : Nat) (v2 : Int32) (v3 : Int32) (s0 : Nat) (s1 : Int32) (h : AH) : ∀ n_v0 : Nat, Γ[v0]? = some (9, n_v0) → ∀ n_v1 : Nat, Γ[v1]? = some (10, n_v1) → ∀ n_s0 : Nat, Γ[s0]? = some (9, n_s0) → fX9_makeD_82 Γ k2 v0 v1 v2 v3 s0 s1 h = some (r, h') → AW l mX9_makeD (none, Γ, h') 0 0 82 [some (.ref v0), some (.ref v1), some (.int v2), some (.int v3), none, some (.int ((0 : Int32)))] [] Γ h := by
  intro n_v0 k_v0 n_v1 k_v1 n_s0 k_s0 hf
  unfold fX9_makeD_82 at hf
  refine a_iconst (v := (1 : Int32)) dX9_makeD_82 rfl (by decide) ?_
  obtain ⟨r83, h83, hc83, hf⟩ := am_bind_some hf
  refine a_callV (As := [.int s1, .int ((1 : Int32))]) (r1 := (none, Γ, h83)) (sX9_number l k_s0 hc83) ccX9_number tw_884 tw_886 tp_16 (ci := 9) rfl (by decide) ⟨Nat.le_of_ble_eq_true rfl, Nat.le_of_ble_eq_true rfl, Nat.le_of_ble_eq_true rfl, Nat.le_of_ble_eq_true rfl⟩ dX9_makeD_83 rfl k_s0 rfl (Nat.le_of_ble_eq_true rfl) rfl rfl (fun hr83 => ?_)
  refine a_aload_n dX9_makeD_86 rfl rfl ?_
  refine a_iconst (v := (1 : Int32)) dX9_makeD_87 rfl (by decide) ?_
  refine a_aload_n dX9_makeD_88 rfl rfl ?_
  refine a_iload_n dX9_makeD_89 rfl rfl ?_
  refine a_iconst (v := (2 : Int32)) dX9_makeD_90 rfl (by decide) ?_
  refine a_iadd dX9_makeD_91 rfl ?_
  refine a_iald dX9_makeD_92 rfl k_v1 hf (fun hf => ?_)
  refine a_ishl dX9_makeD_93 rfl ?_
  refine a_iconst (v := (1 : Int32)) dX9_makeD_94 rfl (by decide) ?_
  refine a_isub dX9_makeD_95 rfl ?_
  refine a_iconst (v := (1 : Int32)) dX9_makeD_96 rfl (by decide) ?_
  obtain ⟨r97, h97, hc97, hf⟩ := am_bind_some hf
  refine a_callV (As := [.int ((am_shl ((1 : Int32)) (h83.1 v1 (v3 + ((2 : Int32))).toNatClampNeg)) - ((1 : Int32))), .int ((1 : Int32))]) (r1 := (none, Γ, h97)) (sX9_number l k_v0 hc97) ccX9_number tw_884 tw_886 tp_16 (ci := 9) rfl (by decide) ⟨Nat.le_of_ble_eq_true rfl, Nat.le_of_ble_eq_true rfl, Nat.le_of_ble_eq_true rfl, Nat.le_of_ble_eq_true rfl⟩ dX9_makeD_97 rfl k_v0 rfl (Nat.le_of_ble_eq_true rfl) rfl rfl (fun hr97 => ?_)
  refine a_aload_n dX9_makeD_100 rfl rfl ?_
  refine a_aload_n dX9_makeD_101 rfl rfl ?_
  refine a_iload_n dX9_makeD_102 rfl rfl ?_
  refine a_iconst (v := (4 : Int32)) dX9_makeD_103 rfl (by decide) ?_
  refine a_iadd dX9_makeD_104 rfl ?_
  refine a_iald dX9_makeD_105 rfl k_v1 hf (fun hf => ?_)
  refine a_iconst (v := (2 : Int32)) dX9_makeD_106 rfl (by decide) ?_
  obtain ⟨r107, h107, hc107, hf⟩ := am_bind_some hf
  refine a_callV (As := [.int (h97.1 v1 (v3 + ((4 : Int32))).toNatClampNeg), .int ((2 : Int32))]) (r1 := (none, Γ, h107)) (sX9_number l k_v0 hc107) ccX9_number tw_884 tw_886 tp_16 (ci := 9) rfl (by decide) ⟨Nat.le_of_ble_eq_true rfl, Nat.le_of_ble_eq_true rfl, Nat.le_of_ble_eq_true rfl, Nat.le_of_ble_eq_true rfl⟩ dX9_makeD_107 rfl k_v0 rfl (Nat.le_of_ble_eq_true rfl) rfl rfl (fun hr107 => ?_)
  refine a_iconst (v := (0 : Int32)) dX9_makeD_110 rfl (by decide) ?_
  refine a_istore (L' := [some (.ref v0), some (.ref v1), some (.int v2), some (.int v3), none, some (.int ((0 : Int32)))]) dX9_makeD_111 rfl (Nat.le_of_ble_eq_true rfl) (fun _ _ hv => by cases hv) rfl ?_
  exact AW.weak (wX9_makeD_113 l hk2 am_fuel v0 v1 v2 v3 ((0 : Int32)) h107 _ k_v0 _ k_v1 hf) ⟨rfl, ⟨rfl, ⟨rfl, ⟨rfl, ⟨rfl, trivial⟩⟩⟩⟩⟩
set_option maxRecDepth 100000 in
set_option maxHeartbeats 4000000 in
theorem wX9_makeD_62 (l : Launch) {Γ : Gm} {r : Unit} {h' : AH} {k2 : Nat → Nat → Int32 → AH → Option (Unit × AH)} (hk2 : ∀ v0 v1 v2 (h : AH), ∀ n_v0 : Nat, Γ[v0]? = some (9, n_v0) → ∀ n_v1 : Nat, Γ[v1]? = some (10, n_v1) → k2 v0 v1 v2 h = some (r, h') → AW l mX9_makeD (none, Γ, h') 0 0 2 [some (.ref v0), some (.ref v1), some (.int v2), none, none, none] [] Γ h) (v0 : Nat) (v1 : Nat) (v2 : Int32) (v3 : Int32) (v4 : Int32) (s0 : Nat) (s1 : Int32) (s2 : Int32) (h : AH) : ∀ n_v0 : Nat, Γ[v0]? = some (9, n_v0) → ∀ n_v1 : Nat, Γ[v1]? = some (10, n_v1) → ∀ n_s0 : Nat, Γ[s0]? = some (9, n_s0) → fX9_makeD_62 Γ k2 v0 v1 v2 v3 v4 s0 s1 s2 h = some (r, h') → AW l mX9_makeD (none, Γ, h') 0 0 62 [some (.ref v0), some (.ref v1), some (.int v2), some (.int v3), some (.int v4), none] [.ref v0] Γ h := by
  intro n_v0 k_v0 n_v1 k_v1 n_s0 k_s0 hf
  unfold fX9_makeD_62 at hf
  refine a_iadd dX9_makeD_62 rfl ?_
  refine a_iconst (v := (1 : Int32)) dX9_makeD_63 rfl (by decide) ?_
  obtain ⟨r64, h64, hc64, hf⟩ := am_bind_some hf
  refine a_callV (As := [.int (s1 + s2), .int ((1 : Int32))]) (r1 := (none, Γ, h64)) (sX9_number l k_s0 hc64) ccX9_number tw_884 tw_886 tp_16 (ci := 9) rfl (by decide) ⟨Nat.le_of_ble_eq_true rfl, Nat.le_of_ble_eq_true rfl, Nat.le_of_ble_eq_true rfl, Nat.le_of_ble_eq_true rfl⟩ dX9_makeD_64 rfl k_s0 rfl (Nat.le_of_ble_eq_true rfl) rfl rfl (fun hr64 => ?_)
  refine a_aload_n dX9_makeD_67 rfl rfl ?_
  refine a_iload dX9_makeD_68 rfl rfl ?_
  refine a_if_eq (t := 77) dX9_makeD_70 rfl rfl hf (fun _ hf => ?_) (fun _ hf => ?_)
  · refine a_aload_n dX9_makeD_77 rfl rfl ?_
    refine a_iload_n dX9_makeD_78 rfl rfl ?_
    refine a_iconst (v := (1 : Int32)) dX9_makeD_79 rfl (by decide) ?_
    refine a_iadd dX9_makeD_80 rfl ?_
    refine a_iald dX9_makeD_81 rfl k_v1 hf (fun hf => ?_)
    exact AW.weak (wX9_makeD_82 l hk2 v0 v1 v2 v3 v0 (h64.1 v1 (v3 + ((1 : Int32))).toNatClampNeg) h64 _ k_v0 _ k_v1 _ k_v0 hf) ⟨rfl, ⟨rfl, ⟨rfl, ⟨rfl, trivial⟩⟩⟩⟩
  refine a_iconst (v := (0 : Int32)) dX9_makeD_73 rfl (by decide) ?_
  refine a_goto (t := 82) dX9_makeD_74 rfl ?_
  exact AW.weak (wX9_makeD_82 l hk2 v0 v1 v2 v3 v0 ((0 : Int32)) h64 _ k_v0 _ k_v1 _ k_v0 hf) ⟨rfl, ⟨rfl, ⟨rfl, ⟨rfl, trivial⟩⟩⟩⟩
set_option maxRecDepth 100000 in
set_option maxHeartbeats 4000000 in
theorem wX9_makeD_35 (l : Launch) {Γ : Gm} {r : Unit} {h' : AH} {k2 : Nat → Nat → Int32 → AH → Option (Unit × AH)} (hk2 : ∀ v0 v1 v2 (h : AH), ∀ n_v0 : Nat, Γ[v0]? = some (9, n_v0) → ∀ n_v1 : Nat, Γ[v1]? = some (10, n_v1) → k2 v0 v1 v2 h = some (r, h') → AW l mX9_makeD (none, Γ, h') 0 0 2 [some (.ref v0), some (.ref v1), some (.int v2), none, none, none] [] Γ h) (v0 : Nat) (v1 : Nat) (v2 : Int32) (v3 : Int32) (s0 : Int32) (h : AH) : ∀ n_v0 : Nat, Γ[v0]? = some (9, n_v0) → ∀ n_v1 : Nat, Γ[v1]? = some (10, n_v1) → fX9_makeD_35 Γ k2 v0 v1 v2 v3 s0 h = some (r, h') → AW l mX9_makeD (none, Γ, h') 0 0 35 [some (.ref v0), some (.ref v1), some (.int v2), some (.int v3), some (.int s0), none] [.int (h42.1 v1 (v3 + ((3 : Int32))).toNatClampNeg), .ref v0] Γ h := by
  intro n_v0 k_v0 n_v1 k_v1 hf
  unfold fX9_makeD_35 at hf
  refine a_istore (L' := [some (.ref v0), some (.ref v1), some (.int v2), some (.int v3), some (.int s0), none]) dX9_makeD_35 rfl (Nat.le_of_ble_eq_true rfl) (fun _ _ hv => by cases hv; rfl) rfl ?_
  refine a_aload_n dX9_makeD_37 rfl rfl ?_
  refine a_aload_n dX9_makeD_38 rfl rfl ?_
  refine a_iload_n dX9_makeD_39 rfl rfl ?_
  refine a_iald dX9_makeD_40 rfl k_v1 hf (fun hf => ?_)
  refine a_iconst (v := (3 : Int32)) dX9_makeD_41 rfl (by decide) ?_
  obtain ⟨r42, h42, hc42, hf⟩ := am_bind_some hf
  refine a_callV (As := [.int (h.1 v1 v3.toNatClampNeg), .int ((3 : Int32))]) (r1 := (none, Γ, h42)) (sX9_number l k_v0 hc42) ccX9_number tw_884 tw_886 tp_16 (ci := 9) rfl (by decide) ⟨Nat.le_of_ble_eq_true rfl, Nat.le_of_ble_eq_true rfl, Nat.le_of_ble_eq_true rfl, Nat.le_of_ble_eq_true rfl⟩ dX9_makeD_42 rfl k_v0 rfl (Nat.le_of_ble_eq_true rfl) rfl rfl (fun hr42 => ?_)
  refine a_aload_n dX9_makeD_45 rfl rfl ?_
  refine a_aload_n dX9_makeD_46 rfl rfl ?_
  refine a_iload_n dX9_makeD_47 rfl rfl ?_
  refine a_iconst (v := (3 : Int32)) dX9_makeD_48 rfl (by decide) ?_
  refine a_iadd dX9_makeD_49 rfl ?_
  refine a_iald dX9_makeD_50 rfl k_v1 hf (fun hf => ?_)
  refine a_iload dX9_makeD_51 rfl rfl ?_
  refine a_if_eq (t := 61) dX9_makeD_53 rfl rfl hf (fun _ hf => ?_) (fun _ hf => ?_)
  · refine a_iconst (v := (0 : Int32)) dX9_makeD_61 rfl (by decide) ?_
    exact AW.weak (wX9_makeD_62 l hk2 v0 v1 v2 v3 s0 v0 (h42.1 v1 (v3 + ((3 : Int32))).toNatClampNeg) ((0 : Int32)) h42 _ k_v0 _ k_v1 _ k_v0 hf) ⟨rfl, ⟨rfl, ⟨rfl, ⟨rfl, ⟨rfl, trivial⟩⟩⟩⟩⟩
  refine a_bipush (v := (16 : Int32)) dX9_makeD_56 rfl (by decide) ?_
  refine a_goto (t := 62) dX9_makeD_58 rfl ?_
  exact AW.weak (wX9_makeD_62 l hk2 v0 v1 v2 v3 s0 v0 (h42.1 v1 (v3 + ((3 : Int32))).toNatClampNeg) ((16 : Int32)) h42 _ k_v0 _ k_v1 _ k_v0 hf) ⟨rfl, ⟨rfl, ⟨rfl, ⟨rfl, ⟨rfl, trivial⟩⟩⟩⟩⟩
set_option maxRecDepth 100000 in
set_option maxHeartbeats 4000000 in
theorem wX9_makeD_2 (l : Launch) {Γ : Gm} {r : Unit} {h' : AH} : ∀ (z : Nat) (v0 : Nat) (v1 : Nat) (v2 : Int32) (h : AH), ∀ n_v0 : Nat, Γ[v0]? = some (9, n_v0) → ∀ n_v1 : Nat, Γ[v1]? = some (10, n_v1) → fX9_makeD_2 Γ z v0 v1 v2 h = some (r, h') → AW l mX9_makeD (none, Γ, h') 0 0 2 [some (.ref v0), some (.ref v1), some (.int v2), none, none, none] [] Γ h := by
  intro z
  induction z with
  | zero => intro v0 v1 v2 h n_v0 k_v0 n_v1 k_v1 hf; cases hf
  | succ z ih =>
    intro v0 v1 v2 h n_v0 k_v0 n_v1 k_v1 hf
    unfold fX9_makeD_2 at hf
    refine a_iload_n dX9_makeD_2 rfl rfl ?_
    refine a_aload_n dX9_makeD_3 rfl rfl ?_
    refine a_sipush (v := (1001 : Int32)) dX9_makeD_4 rfl (by decide) ?_
    refine a_iald dX9_makeD_7 rfl k_v1 hf (fun hf => ?_)
    refine a_icmp_ge (t := 154) dX9_makeD_8 rfl rfl hf (fun _ hf => ?_) (fun _ hf => ?_)
    · cases hf
      exact a_ret dX9_makeD_154 rfl rfl rfl
    refine a_sipush (v := (1002 : Int32)) dX9_makeD_11 rfl (by decide) ?_
    refine a_iload_n dX9_makeD_14 rfl rfl ?_
    refine a_bipush (v := (60 : Int32)) dX9_makeD_15 rfl (by decide) ?_
    refine a_imul dX9_makeD_17 rfl ?_
    refine a_iadd dX9_makeD_18 rfl ?_
    refine a_nmI hf (fun x19 hf => ?_)
    refine a_istore_n (L' := [some (.ref v0), some (.ref v1), some (.int v2), some (.int x19), none, none]) dX9_makeD_19 rfl (Nat.le_of_ble_eq_true rfl) (fun _ _ hv => by cases hv; rfl) rfl ?_
    refine a_aload_n dX9_makeD_20 rfl rfl ?_
    refine a_iload_n dX9_makeD_21 rfl rfl ?_
    refine a_iconst (v := (1 : Int32)) dX9_makeD_22 rfl (by decide) ?_
    refine a_iadd dX9_makeD_23 rfl ?_
    refine a_iald dX9_makeD_24 rfl k_v1 hf (fun hf => ?_)
    refine a_bipush (v := (-2 : Int32)) dX9_makeD_25 rfl (by decide) ?_
    refine a_icmp_ne (t := 34) dX9_makeD_27 rfl rfl hf (fun _ hf => ?_) (fun _ hf => ?_)
    · refine a_iconst (v := (1 : Int32)) dX9_makeD_30 rfl (by decide) ?_
      refine a_goto (t := 35) dX9_makeD_31 rfl ?_
      exact AW.weak (wX9_makeD_35 l ih v0 v1 v2 x19 ((1 : Int32)) h _ k_v0 _ k_v1 hf) ⟨rfl, ⟨rfl, ⟨rfl, ⟨rfl, trivial⟩⟩⟩⟩
    refine a_iconst (v := (0 : Int32)) dX9_makeD_34 rfl (by decide) ?_
    exact AW.weak (wX9_makeD_35 l ih v0 v1 v2 x19 ((0 : Int32)) h _ k_v0 _ k_v1 hf) ⟨rfl, ⟨rfl, ⟨rfl, ⟨rfl, trivial⟩⟩⟩⟩
set_option maxRecDepth 100000 in
set_option maxHeartbeats 4000000 in
theorem sX9_makeD (l : Launch) {Γ : Gm} {h h' : AH} {v0 : Nat} {v1 : Nat} {r : Unit} {n_v0 : Nat} (k_v0 : Γ[v0]? = some (9, n_v0)) {n_v1 : Nat} (k_v1 : Γ[v1]? = some (10, n_v1)) (hf : fX9_makeD Γ v0 v1 h = some (r, h')) : AR l yX9_makeD mX9_makeD [.ref v0, .ref v1] Γ h (none, Γ, h') := by
  refine AR.of [some (.ref v0), some (.ref v1), none, none, none, none] (by decide +kernel) rfl (fun z => by cases z) (Nat.le_of_ble_eq_true rfl) ⟨rfl, ⟨rfl, trivial⟩⟩ ?_
  unfold fX9_makeD at hf
  refine a_iconst (v := (0 : Int32)) dX9_makeD_0 rfl (by decide) ?_
  refine a_istore_n (L' := [some (.ref v0), some (.ref v1), some (.int ((0 : Int32))), none, none, none]) dX9_makeD_1 rfl (Nat.le_of_ble_eq_true rfl) (fun _ _ hv => by cases hv; rfl) rfl ?_
  exact AW.weak (wX9_makeD_2 l am_fuel v0 v1 ((0 : Int32)) h _ k_v0 _ k_v1 hf) ⟨rfl, ⟨rfl, ⟨rfl, trivial⟩⟩⟩
set_option maxRecDepth 100000 in
set_option maxHeartbeats 4000000 in
theorem sX9_weightOf (l : Launch) {Γ : Gm} {h h' : AH} {v0 : Nat} {v1 : Nat} {r : Int32} {n_v0 : Nat} (k_v0 : Γ[v0]? = some (9, n_v0)) {n_v1 : Nat} (k_v1 : Γ[v1]? = some (10, n_v1)) (hf : fX9_weightOf Γ v0 v1 h = some (r, h')) : AR l yX9_weightOf mX9_weightOf [.ref v0, .ref v1] Γ h (some (.int r), Γ, h') := by
  refine AR.of [some (.ref v0), some (.ref v1)] (by decide +kernel) rfl (fun z => by cases z) (Nat.le_of_ble_eq_true rfl) ⟨rfl, ⟨rfl, trivial⟩⟩ ?_
  unfold fX9_weightOf at hf
  refine a_aload_n dX9_weightOf_0 rfl rfl ?_
  refine a_iconst (v := (0 : Int32)) dX9_weightOf_1 rfl (by decide) ?_
  refine a_putI fp_RX9_100 dX9_weightOf_2 rfl k_v0 rfl hf (fun h2 hf => ?_)
  refine a_aload_n dX9_weightOf_5 rfl rfl ?_
  refine a_aload_n dX9_weightOf_6 rfl rfl ?_
  obtain ⟨r7, h7, hc7, hf⟩ := am_bind_some hf
  refine a_callV (As := [.ref v1]) (r1 := (none, Γ, h7)) (sX9_makeB l k_v0 k_v1 hc7) ccX9_makeB tw_915 tw_917 tp_21 (ci := 9) rfl (by decide) ⟨Nat.le_of_ble_eq_true rfl, Nat.le_of_ble_eq_true rfl, Nat.le_of_ble_eq_true rfl, Nat.le_of_ble_eq_true rfl⟩ dX9_weightOf_7 rfl k_v0 rfl (Nat.le_of_ble_eq_true rfl) rfl rfl (fun hr7 => ?_)
  refine a_aload_n dX9_weightOf_10 rfl rfl ?_
  refine a_aload_n dX9_weightOf_11 rfl rfl ?_
  obtain ⟨r12, h12, hc12, hf⟩ := am_bind_some hf
  refine a_callV (As := [.ref v1]) (r1 := (none, Γ, h12)) (sX9_makeD l k_v0 k_v1 hc12) ccX9_makeD tw_888 tw_890 tp_17 (ci := 9) rfl (by decide) ⟨Nat.le_of_ble_eq_true rfl, Nat.le_of_ble_eq_true rfl, Nat.le_of_ble_eq_true rfl, Nat.le_of_ble_eq_true rfl⟩ dX9_weightOf_12 rfl k_v0 rfl (Nat.le_of_ble_eq_true rfl) rfl rfl (fun hr12 => ?_)
  refine a_aload_n dX9_weightOf_15 rfl rfl ?_
  refine a_getI fl_RX9_100 dX9_weightOf_16 rfl k_v0 rfl ?_
  cases hf
  exact a_iret dX9_weightOf_19 rfl rfl rfl (by decide)
