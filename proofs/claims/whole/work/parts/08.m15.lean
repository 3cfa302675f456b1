set_option maxRecDepth 100000 in
set_option maxHeartbeats 4000000 in
theorem wX9_print_68 (l : Launch) {Γ : Gm} {r : Int64} {h' : AH} : ∀ (z : Nat) (v0 : Nat) (v1 : Int64) (v3 : Int32) (h : AH), ∀ n_v0 : Nat, Γ[v0]? = some (9, n_v0) → fX9_print_68 Γ z v0 v1 v3 h = some (r, h') → AW l mX9_print (some (.long r), Γ, h') 0 0 68 [some (.ref v0), some (.long v1), none, some (.int v3)] [] Γ h := by
  intro z
  induction z with
  | zero => intro v0 v1 v3 h n_v0 k_v0 hf; cases hf
  | succ z ih =>
    intro v0 v1 v3 h n_v0 k_v0 hf
    unfold fX9_print_68 at hf
    refine a_iload_n dX9_print_68 rfl rfl ?_
    refine a_aload_n dX9_print_69 rfl rfl ?_
    refine a_getI fl_RX9_100 dX9_print_70 rfl k_v0 rfl ?_
    refine a_icmp_ge (t := 96) dX9_print_73 rfl rfl hf (fun _ hf => ?_) (fun _ hf => ?_)
    · refine a_lload_n dX9_print_96 rfl rfl ?_
      cases hf
      exact a_lret dX9_print_97 rfl rfl rfl
    refine a_lload_n dX9_print_76 rfl rfl ?_
    refine a_aload_n dX9_print_77 rfl rfl ?_
    refine a_getR fl_RX9_65 dX9_print_78 rfl k_v0 rfl (by decide) hf (fun b78 n_b78 _ k_b78 hf => ?_)
    refine a_iload_n dX9_print_81 rfl rfl ?_
    refine a_iald dX9_print_82 rfl k_b78 hf (fun hf => ?_)
    refine a_i2l dX9_print_83 rfl ?_
    refine a_lxor dX9_print_84 rfl ?_
    refine a_ldc2 (v := (1099511628211 : Int64)) dX9_print_85 rfl tw_893 ?_
    refine a_lmul dX9_print_88 rfl ?_
    refine a_nmL hf (fun x89 hf => ?_)
    refine a_lstore_n (L' := [some (.ref v0), some (.long x89), none, some (.int v3)]) dX9_print_89 rfl (Nat.le_of_ble_eq_true rfl) (fun _ _ hv => by cases hv; rfl) rfl ?_
    refine a_iinc (v := v3 + (1 : Int32)) (L' := [some (.ref v0), some (.long x89), none, some (.int (v3 + (1 : Int32)))]) dX9_print_90 rfl rfl rfl (Nat.le_of_ble_eq_true rfl) (fun _ _ hv => by cases hv) rfl ?_
    refine a_goto (t := 68) dX9_print_93 rfl ?_
    exact AW.weak (ih v0 x89 (v3 + (1 : Int32)) h _ k_v0 hf) ⟨rfl, ⟨rfl, ⟨rfl, trivial⟩⟩⟩
set_option maxRecDepth 100000 in
set_option maxHeartbeats 4000000 in
theorem wX9_print_16 (l : Launch) {Γ : Gm} {r : Int64} {h' : AH} : ∀ (z : Nat) (v0 : Nat) (v1 : Int32) (h : AH), ∀ n_v0 : Nat, Γ[v0]? = some (9, n_v0) → fX9_print_16 Γ z v0 v1 h = some (r, h') → AW l mX9_print (some (.long r), Γ, h') 0 0 16 [some (.ref v0), some (.int v1), none, none] [] Γ h := by
  intro z
  induction z with
  | zero => intro v0 v1 h n_v0 k_v0 hf; cases hf
  | succ z ih =>
    intro v0 v1 h n_v0 k_v0 hf
    unfold fX9_print_16 at hf
    refine a_iload_n dX9_print_16 rfl rfl ?_
    refine a_aload_n dX9_print_17 rfl rfl ?_
    refine a_getI fl_RX9_82 dX9_print_18 rfl k_v0 rfl ?_
    refine a_icmp_ge (t := 41) dX9_print_21 rfl rfl hf (fun _ hf => ?_) (fun _ hf => ?_)
    · refine a_aload_n dX9_print_41 rfl rfl ?_
      refine a_aload_n dX9_print_42 rfl rfl ?_
      refine a_getR fl_RX9_32 dX9_print_43 rfl k_v0 rfl (by decide) hf (fun b43 n_b43 _ k_b43 hf => ?_)
      refine a_sipush (v := (1000 : Int32)) dX9_print_46 rfl (by decide) ?_
      refine a_iald dX9_print_49 rfl k_b43 hf (fun hf => ?_)
      refine a_iconst (v := (3 : Int32)) dX9_print_50 rfl (by decide) ?_
      obtain ⟨r51, h51, hc51, hf⟩ := am_bind_some hf
      refine a_callV (As := [.int (h.1 b43 ((1000 : Int32)).toNatClampNeg), .int ((3 : Int32))]) (r1 := (none, Γ, h51)) (sX9_number l k_v0 hc51) ccX9_number tw_884 tw_886 tp_16 (ci := 9) rfl (by decide) ⟨Nat.le_of_ble_eq_true rfl, Nat.le_of_ble_eq_true rfl, Nat.le_of_ble_eq_true rfl, Nat.le_of_ble_eq_true rfl⟩ dX9_print_51 rfl k_v0 rfl (Nat.le_of_ble_eq_true rfl) rfl rfl (fun hr51 => ?_)
      refine a_aload_n dX9_print_54 rfl rfl ?_
      refine a_aload_n dX9_print_55 rfl rfl ?_
      refine a_getR fl_RX9_32 dX9_print_56 rfl k_v0 rfl (by decide) hf (fun b56 n_b56 _ k_b56 hf => ?_)
      obtain ⟨r59, h59, hc59, hf⟩ := am_bind_some hf
      refine a_callV (As := [.ref b56]) (r1 := (none, Γ, h59)) (sX9_makeD l k_v0 k_b56 hc59) ccX9_makeD tw_888 tw_890 tp_17 (ci := 9) rfl (by decide) ⟨Nat.le_of_ble_eq_true rfl, Nat.le_of_ble_eq_true rfl, Nat.le_of_ble_eq_true rfl, Nat.le_of_ble_eq_true rfl⟩ dX9_print_59 rfl k_v0 rfl (Nat.le_of_ble_eq_true rfl) rfl rfl (fun hr59 => ?_)
      refine a_ldc2 (v := (-3750763034362895579 : Int64)) dX9_print_62 rfl tw_892 ?_
      refine a_lstore_n (L' := [some (.ref v0), some (.long ((-3750763034362895579 : Int64))), none, none]) dX9_print_65 rfl (Nat.le_of_ble_eq_true rfl) (fun _ _ hv => by cases hv; rfl) rfl ?_
      refine a_iconst (v := (0 : Int32)) dX9_print_66 rfl (by decide) ?_
      refine a_istore_n (L' := [some (.ref v0), some (.long ((-3750763034362895579 : Int64))), none, some (.int ((0 : Int32)))]) dX9_print_67 rfl (Nat.le_of_ble_eq_true rfl) (fun _ _ hv => by cases hv) rfl ?_
      exact AW.weak (wX9_print_68 l am_fuel v0 ((-3750763034362895579 : Int64)) ((0 : Int32)) h59 _ k_v0 hf) ⟨rfl, ⟨rfl, ⟨rfl, trivial⟩⟩⟩
    refine a_aload_n dX9_print_24 rfl rfl ?_
    refine a_aload_n dX9_print_25 rfl rfl ?_
    refine a_getR fl_RX9_32 dX9_print_26 rfl k_v0 rfl (by decide) hf (fun b26 n_b26 _ k_b26 hf => ?_)
    refine a_iload_n dX9_print_29 rfl rfl ?_
    refine a_iald dX9_print_30 rfl k_b26 hf (fun hf => ?_)
    refine a_iconst (v := (1 : Int32)) dX9_print_31 rfl (by decide) ?_
    obtain ⟨r32, h32, hc32, hf⟩ := am_bind_some hf
    refine a_callV (As := [.int (h.1 b26 v1.toNatClampNeg), .int ((1 : Int32))]) (r1 := (none, Γ, h32)) (sX9_number l k_v0 hc32) ccX9_number tw_884 tw_886 tp_16 (ci := 9) rfl (by decide) ⟨Nat.le_of_ble_eq_true rfl, Nat.le_of_ble_eq_true rfl, Nat.le_of_ble_eq_true rfl, Nat.le_of_ble_eq_true rfl⟩ dX9_print_32 rfl k_v0 rfl (Nat.le_of_ble_eq_true rfl) rfl rfl (fun hr32 => ?_)
    refine a_iinc (v := v1 + (1 : Int32)) (L' := [some (.ref v0), some (.int (v1 + (1 : Int32))), none, none]) dX9_print_35 rfl rfl rfl (Nat.le_of_ble_eq_true rfl) (fun _ _ hv => by cases hv; rfl) rfl ?_
    refine a_goto (t := 16) dX9_print_38 rfl ?_
    exact AW.weak (ih v0 (v1 + (1 : Int32)) h32 _ k_v0 hf) ⟨rfl, ⟨rfl, trivial⟩⟩
set_option maxRecDepth 100000 in
set_option maxHeartbeats 4000000 in
theorem sX9_print (l : Launch) {Γ : Gm} {h h' : AH} {v0 : Nat} {r : Int64} {n_v0 : Nat} (k_v0 : Γ[v0]? = some (9, n_v0)) (hf : fX9_print Γ v0 h = some (r, h')) : AR l yX9_print mX9_print [.ref v0] Γ h (some (.long r), Γ, h') := by
  refine AR.of [some (.ref v0), none, none, none] (by decide +kernel) rfl (fun z => by cases z) (Nat.le_of_ble_eq_true rfl) ⟨rfl, trivial⟩ ?_
  unfold fX9_print at hf
  refine a_aload_n dX9_print_0 rfl rfl ?_
  refine a_getI fl_RX9_82 dX9_print_1 rfl k_v0 rfl ?_
  refine a_if_ne (t := 9) dX9_print_4 rfl rfl hf (fun _ hf => ?_) (fun _ hf => ?_)
  · refine a_lconst (v := (0 : Int64)) dX9_print_7 rfl (by decide) ?_
    cases hf
    exact a_lret dX9_print_8 rfl rfl rfl
  refine a_aload_n dX9_print_9 rfl rfl ?_
  refine a_iconst (v := (0 : Int32)) dX9_print_10 rfl (by decide) ?_
  refine a_putI fp_RX9_100 dX9_print_11 rfl k_v0 rfl hf (fun h11 hf => ?_)
  refine a_iconst (v := (0 : Int32)) dX9_print_14 rfl (by decide) ?_
  refine a_istore_n (L' := [some (.ref v0), some (.int ((0 : Int32))), none, none]) dX9_print_15 rfl (Nat.le_of_ble_eq_true rfl) (fun _ _ hv => by cases hv; rfl) rfl ?_
  exact AW.weak (wX9_print_16 l am_fuel v0 ((0 : Int32)) h11 _ k_v0 hf) ⟨rfl, ⟨rfl, trivial⟩⟩
set_option maxRecDepth 100000 in
set_option maxHeartbeats 4000000 in
theorem sX9_open (l : Launch) {Γ : Gm} {h h' : AH} {v0 : Nat} {v1 : Int32} {r : Unit} {n_v0 : Nat} (k_v0 : Γ[v0]? = some (9, n_v0)) (hf : fX9_open Γ v0 v1 h = some (r, h')) : AR l yX9_open mX9_open [.ref v0, .int v1] Γ h (none, Γ, h') := by
  refine AR.of [some (.ref v0), some (.int v1)] (by decide +kernel) rfl (fun z => by cases z) (Nat.le_of_ble_eq_true rfl) ⟨rfl, ⟨rfl, trivial⟩⟩ ?_
  unfold fX9_open at hf
  refine a_aload_n dX9_open_0 rfl rfl ?_
  refine a_iload_n dX9_open_1 rfl rfl ?_
  refine a_iconst (v := (4 : Int32)) dX9_open_2 rfl (by decide) ?_
  obtain ⟨r3, h3, hc3, hf⟩ := am_bind_some hf
  refine a_callV (As := [.int v1, .int ((4 : Int32))]) (r1 := (none, Γ, h3)) (sX9_number l k_v0 hc3) ccX9_number tw_884 tw_886 tp_16 (ci := 9) rfl (by decide) ⟨Nat.le_of_ble_eq_true rfl, Nat.le_of_ble_eq_true rfl, Nat.le_of_ble_eq_true rfl, Nat.le_of_ble_eq_true rfl⟩ dX9_open_3 rfl k_v0 rfl (Nat.le_of_ble_eq_true rfl) rfl rfl (fun hr3 => ?_)
  refine a_aload_n dX9_open_6 rfl rfl ?_
  refine a_iconst (v := (0 : Int32)) dX9_open_7 rfl (by decide) ?_
  refine a_iconst (v := (4 : Int32)) dX9_open_8 rfl (by decide) ?_
  obtain ⟨r9, h9, hc9, hf⟩ := am_bind_some hf
  refine a_callV (As := [.int ((0 : Int32)), .int ((4 : Int32))]) (r1 := (none, Γ, h9)) (sX9_number l k_v0 hc9) ccX9_number tw_884 tw_886 tp_16 (ci := 9) rfl (by decide) ⟨Nat.le_of_ble_eq_true rfl, Nat.le_of_ble_eq_true rfl, Nat.le_of_ble_eq_true rfl, Nat.le_of_ble_eq_true rfl⟩ dX9_open_9 rfl k_v0 rfl (Nat.le_of_ble_eq_true rfl) rfl rfl (fun hr9 => ?_)
  refine a_aload_n dX9_open_12 rfl rfl ?_
  refine a_getR fl_RX9_56 dX9_open_13 rfl k_v0 rfl (by decide) hf (fun b13 n_b13 _ k_b13 hf => ?_)
  refine a_aload_n dX9_open_16 rfl rfl ?_
  refine a_getI fl_RX9_117 dX9_open_17 rfl k_v0 rfl ?_
  refine a_iload_n dX9_open_20 rfl rfl ?_
  refine a_iast dX9_open_21 rfl k_b13 hf (fun h21 hf => ?_)
  refine a_aload_n dX9_open_22 rfl rfl ?_
  refine a_getR fl_RX9_59 dX9_open_23 rfl k_v0 rfl (by decide) hf (fun b23 n_b23 _ k_b23 hf => ?_)
  refine a_aload_n dX9_open_26 rfl rfl ?_
  refine a_getI fl_RX9_117 dX9_open_27 rfl k_v0 rfl ?_
  refine a_aload_n dX9_open_30 rfl rfl ?_
  refine a_getI fl_RX9_100 dX9_open_31 rfl k_v0 rfl ?_
  refine a_iast dX9_open_34 rfl k_b23 hf (fun h34 hf => ?_)
  cases hf
  exact a_ret dX9_open_35 rfl rfl rfl
set_option maxRecDepth 100000 in
set_option maxHeartbeats 4000000 in
theorem wX9_patch_2 (l : Launch) {Γ : Gm} {r : Unit} {h' : AH} : ∀ (z : Nat) (v0 : Nat) (v1 : Int32) (v2 : Int32) (v3 : Int32) (h : AH), ∀ n_v0 : Nat, Γ[v0]? = some (9, n_v0) → fX9_patch_2 Γ z v0 v1 v2 v3 h = some (r, h') → AW l mX9_patch (none, Γ, h') 0 0 2 [some (.ref v0), some (.int v1), some (.int v2), some (.int v3)] [] Γ h := by
  intro z
  induction z with
  | zero => intro v0 v1 v2 v3 h n_v0 k_v0 hf; cases hf
  | succ z ih =>
    intro v0 v1 v2 v3 h n_v0 k_v0 hf
    unfold fX9_patch_2 at hf
    refine a_iload_n dX9_patch_2 rfl rfl ?_
    refine a_iconst (v := (4 : Int32)) dX9_patch_3 rfl (by decide) ?_
    refine a_icmp_ge (t := 34) dX9_patch_4 rfl rfl hf (fun _ hf => ?_) (fun _ hf => ?_)
    · cases hf
      exact a_ret dX9_patch_34 rfl rfl rfl
    refine a_aload_n dX9_patch_7 rfl rfl ?_
    refine a_getR fl_RX9_65 dX9_patch_8 rfl k_v0 rfl (by decide) hf (fun b8 n_b8 _ k_b8 hf => ?_)
    refine a_iload_n dX9_patch_11 rfl rfl ?_
    refine a_iload_n dX9_patch_12 rfl rfl ?_
    refine a_iadd dX9_patch_13 rfl ?_
    refine a_iload_n dX9_patch_14 rfl rfl ?_
    refine a_bipush (v := (24 : Int32)) dX9_patch_15 rfl (by decide) ?_
    refine a_bipush (v := (8 : Int32)) dX9_patch_17 rfl (by decide) ?_
    refine a_iload_n dX9_patch_19 rfl rfl ?_
    refine a_imul dX9_patch_20 rfl ?_
    refine a_isub dX9_patch_21 rfl ?_
    refine a_ishr dX9_patch_22 rfl ?_
    refine a_sipush (v := (255 : Int32)) dX9_patch_23 rfl (by decide) ?_
    refine a_iand dX9_patch_26 rfl ?_
    refine a_iast dX9_patch_27 rfl k_b8 hf (fun h27 hf => ?_)
    refine a_iinc (v := v3 + (1 : Int32)) (L' := [some (.ref v0), some (.int v1), some (.int v2), some (.int (v3 + (1 : Int32)))]) dX9_patch_28 rfl rfl rfl (Nat.le_of_ble_eq_true rfl) (fun _ _ hv => by cases hv; rfl) rfl ?_
    refine a_goto (t := 2) dX9_patch_31 rfl ?_
    exact AW.weak (ih v0 v1 v2 (v3 + (1 : Int32)) h27 _ k_v0 hf) ⟨rfl, ⟨rfl, ⟨rfl, ⟨rfl, trivial⟩⟩⟩⟩
set_option maxRecDepth 100000 in
set_option maxHeartbeats 4000000 in
theorem sX9_patch (l : Launch) {Γ : Gm} {h h' : AH} {v0 : Nat} {v1 : Int32} {v2 : Int32} {r : Unit} {n_v0 : Nat} (k_v0 : Γ[v0]? = some (9, n_v0)) (hf : fX9_patch Γ v0 v1 v2 h = some (r, h')) : AR l yX9_patch mX9_patch [.ref v0, .int v1, .int v2] Γ h (none, Γ, h') := by
  refine AR.of [some (.ref v0), some (.int v1), some (.int v2), none] (by decide +kernel) rfl (fun z => by cases z) (Nat.le_of_ble_eq_true rfl) ⟨rfl, ⟨rfl, ⟨rfl, trivial⟩⟩⟩ ?_
  unfold fX9_patch at hf
  refine a_iconst (v := (0 : Int32)) dX9_patch_0 rfl (by decide) ?_
  refine a_istore_n (L' := [some (.ref v0), some (.int v1), some (.int v2), some (.int ((0 : Int32)))]) dX9_patch_1 rfl (Nat.le_of_ble_eq_true rfl) (fun _ _ hv => by cases hv; rfl) rfl ?_
  exact AW.weak (wX9_patch_2 l am_fuel v0 v1 v2 ((0 : Int32)) h _ k_v0 hf) ⟨rfl, ⟨rfl, ⟨rfl, ⟨rfl, trivial⟩⟩⟩⟩
set_option maxRecDepth 100000 in
set_option maxHeartbeats 4000000 in
theorem wX9_close_54 (l : Launch) {Γ : Gm} {r : Unit} {h' : AH} (v0 : Nat) (h : AH) : ∀ n_v0 : Nat, Γ[v0]? = some (9, n_v0) → fX9_close_54 Γ v0 h = some (r, h') → AW l mX9_close (none, Γ, h') 0 0 54 [some (.ref v0), none] [] Γ h := by
  intro n_v0 k_v0 hf
  unfold fX9_close_54 at hf
  refine a_aload_n dX9_close_54 rfl rfl ?_
  refine a_dup dX9_close_55 rfl rfl ?_
  refine a_getI fl_RX9_117 dX9_close_56 rfl k_v0 rfl ?_
  refine a_iconst (v := (1 : Int32)) dX9_close_59 rfl (by decide) ?_
  refine a_iadd dX9_close_60 rfl ?_
  refine a_putI fp_RX9_117 dX9_close_61 rfl k_v0 rfl hf (fun h61 hf => ?_)
  cases hf
  exact a_ret dX9_close_64 rfl rfl rfl
set_option maxRecDepth 100000 in
set_option maxHeartbeats 4000000 in
theorem sX9_close (l : Launch) {Γ : Gm} {h h' : AH} {v0 : Nat} {r : Unit} {n_v0 : Nat} (k_v0 : Γ[v0]? = some (9, n_v0)) (hf : fX9_close Γ v0 h = some (r, h')) : AR l yX9_close mX9_close [.ref v0] Γ h (none, Γ, h') := by
  refine AR.of [some (.ref v0), none] (by decide +kernel) rfl (fun z => by cases z) (Nat.le_of_ble_eq_true rfl) ⟨rfl, trivial⟩ ?_
  unfold fX9_close at hf
  refine a_aload_n dX9_close_0 rfl rfl ?_
  refine a_getI fl_RX9_100 dX9_close_1 rfl k_v0 rfl ?_
  refine a_aload_n dX9_close_4 rfl rfl ?_
  refine a_getR fl_RX9_59 dX9_close_5 rfl k_v0 rfl (by decide) hf (fun b5 n_b5 _ k_b5 hf => ?_)
  refine a_aload_n dX9_close_8 rfl rfl ?_
  refine a_getI fl_RX9_117 dX9_close_9 rfl k_v0 rfl ?_
  refine a_iald dX9_close_12 rfl k_b5 hf (fun hf => ?_)
  refine a_isub dX9_close_13 rfl ?_
  refine a_nmI hf (fun x14 hf => ?_)
  refine a_istore_n (L' := [some (.ref v0), some (.int x14)]) dX9_close_14 rfl (Nat.le_of_ble_eq_true rfl) (fun _ _ hv => by cases hv; rfl) rfl ?_
  refine a_aload_n dX9_close_15 rfl rfl ?_
  refine a_getR fl_RX9_62 dX9_close_16 rfl k_v0 rfl (by decide) hf (fun b16 n_b16 _ k_b16 hf => ?_)
  refine a_aload_n dX9_close_19 rfl rfl ?_
  refine a_getI fl_RX9_117 dX9_close_20 rfl k_v0 rfl ?_
  refine a_iload_n dX9_close_23 rfl rfl ?_
  refine a_iast dX9_close_24 rfl k_b16 hf (fun h24 hf => ?_)
  refine a_aload_n dX9_close_25 rfl rfl ?_
  refine a_aload_n dX9_close_26 rfl rfl ?_
  refine a_getR fl_RX9_59 dX9_close_27 rfl k_v0 rfl (by decide) hf (fun b27 n_b27 _ k_b27 hf => ?_)
  refine a_aload_n dX9_close_30 rfl rfl ?_
  refine a_getI fl_RX9_117 dX9_close_31 rfl k_v0 rfl ?_
  refine a_iald dX9_close_34 rfl k_b27 hf (fun hf => ?_)
  refine a_iconst (v := (4 : Int32)) dX9_close_35 rfl (by decide) ?_
  refine a_isub dX9_close_36 rfl ?_
  refine a_iload_n dX9_close_37 rfl rfl ?_
  obtain ⟨r38, h38, hc38, hf⟩ := am_bind_some hf
  refine a_callV (As := [.int ((h24.1 b27 (h24.1 v0 25).toNatClampNeg) - ((4 : Int32))), .int x14]) (r1 := (none, Γ, h38)) (sX9_patch l k_v0 hc38) ccX9_patch tw_909 tw_911 tp_20 (ci := 9) rfl (by decide) ⟨Nat.le_of_ble_eq_true rfl, Nat.le_of_ble_eq_true rfl, Nat.le_of_ble_eq_true rfl, Nat.le_of_ble_eq_true rfl⟩ dX9_close_38 rfl k_v0 rfl (Nat.le_of_ble_eq_true rfl) rfl rfl (fun hr38 => ?_)
  refine a_iload_n dX9_close_41 rfl rfl ?_
  refine a_iconst (v := (2 : Int32)) dX9_close_42 rfl (by decide) ?_
  refine a_irem dX9_close_43 rfl (by decide) ?_
  refine a_iconst (v := (1 : Int32)) dX9_close_44 rfl (by decide) ?_
  refine a_icmp_ne (t := 54) dX9_close_45 rfl rfl hf (fun _ hf => ?_) (fun _ hf => ?_)
  · refine a_aload_n dX9_close_48 rfl rfl ?_
    refine a_iconst (v := (0 : Int32)) dX9_close_49 rfl (by decide) ?_
    refine a_iconst (v := (1 : Int32)) dX9_close_50 rfl (by decide) ?_
    obtain ⟨r51, h51, hc51, hf⟩ := am_bind_some hf
    refine a_callV (As := [.int ((0 : Int32)), .int ((1 : Int32))]) (r1 := (none, Γ, h51)) (sX9_number l k_v0 hc51) ccX9_number tw_884 tw_886 tp_16 (ci := 9) rfl (by decide) ⟨Nat.le_of_ble_eq_true rfl, Nat.le_of_ble_eq_true rfl, Nat.le_of_ble_eq_true rfl, Nat.le_of_ble_eq_true rfl⟩ dX9_close_51 rfl k_v0 rfl (Nat.le_of_ble_eq_true rfl) rfl rfl (fun hr51 => ?_)
    exact AW.weak (wX9_close_54 l v0 h51 _ k_v0 hf) ⟨rfl, trivial⟩
  exact AW.weak (wX9_close_54 l v0 h38 _ k_v0 hf) ⟨rfl, trivial⟩
