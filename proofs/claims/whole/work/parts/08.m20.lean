set_option maxRecDepth 100000 in
set_option maxHeartbeats 4000000 in
theorem wX9_eldestGo_46 (l : Launch) {Γ : Gm} {r : Unit} {h' : AH} {k0 : Nat → AH → Option (Unit × AH)} {k22 : Nat → Int32 → AH → Option (Unit × AH)} (hk0 : ∀ v0 (h : AH), ∀ n_v0 : Nat, Γ[v0]? = some (9, n_v0) → k0 v0 h = some (r, h') → AW l mX9_eldestGo (none, Γ, h') 0 0 0 [some (.ref v0), none, none] [] Γ h) (hk22 : ∀ v0 v1 (h : AH), ∀ n_v0 : Nat, Γ[v0]? = some (9, n_v0) → k22 v0 v1 h = some (r, h') → AW l mX9_eldestGo (none, Γ, h') 0 0 22 [some (.ref v0), some (.int v1), none] [] Γ h) : ∀ (z : Nat) (v0 : Nat) (v1 : Int32) (v2 : Int32) (h : AH), ∀ n_v0 : Nat, Γ[v0]? = some (9, n_v0) → fX9_eldestGo_46 Γ k0 k22 z v0 v1 v2 h = some (r, h') → AW l mX9_eldestGo (none, Γ, h') 0 0 46 [some (.ref v0), some (.int v1), some (.int v2)] [] Γ h := by
  intro z
  induction z with
  | zero => intro v0 v1 v2 h n_v0 k_v0 hf; cases hf
  | succ z ih =>
    intro v0 v1 v2 h n_v0 k_v0 hf
    unfold fX9_eldestGo_46 at hf
    refine a_iload_n dX9_eldestGo_46 rfl rfl ?_
    refine a_sipush (v := nI 2202) dX9_eldestGo_47 rfl (by decide) ?_
    refine a_icmp_ge (t := 85) dX9_eldestGo_50 rfl rfl hf (fun _ hf => ?_) (fun _ hf => ?_)
    · refine a_iinc (v := v1 + nI 1) (L' := [some (.ref v0), some (.int (v1 + nI 1)), some (.int v2)]) dX9_eldestGo_85 rfl rfl rfl (Nat.le_of_ble_eq_true rfl) (fun _ _ hv => by cases hv; rfl) rfl ?_
      refine a_goto (t := 22) dX9_eldestGo_88 rfl ?_
      exact AW.weak (hk22 v0 (v1 + nI 1) h _ k_v0 hf) ⟨rfl, ⟨rfl, trivial⟩⟩
    refine a_aload_n dX9_eldestGo_53 rfl rfl ?_
    refine a_getR fl_RX9_38 dX9_eldestGo_54 rfl k_v0 rfl (by decide) hf (fun b54 n_b54 _ k_b54 hf => ?_)
    refine a_sipush (v := nI 2202) dX9_eldestGo_57 rfl (by decide) ?_
    refine a_iload_n dX9_eldestGo_60 rfl rfl ?_
    refine a_iconst (v := nI 1) dX9_eldestGo_61 rfl (by decide) ?_
    refine a_isub dX9_eldestGo_62 rfl ?_
    refine a_imul dX9_eldestGo_63 rfl ?_
    refine a_iload_n dX9_eldestGo_64 rfl rfl ?_
    refine a_iadd dX9_eldestGo_65 rfl ?_
    refine a_aload_n dX9_eldestGo_66 rfl rfl ?_
    refine a_getR fl_RX9_38 dX9_eldestGo_67 rfl k_v0 rfl (by decide) hf (fun b67 n_b67 _ k_b67 hf => ?_)
    refine a_sipush (v := nI 2202) dX9_eldestGo_70 rfl (by decide) ?_
    refine a_iload_n dX9_eldestGo_73 rfl rfl ?_
    refine a_imul dX9_eldestGo_74 rfl ?_
    refine a_iload_n dX9_eldestGo_75 rfl rfl ?_
    refine a_iadd dX9_eldestGo_76 rfl ?_
    refine a_iald dX9_eldestGo_77 rfl k_b67 hf (fun hf => ?_)
    refine a_iast dX9_eldestGo_78 rfl k_b54 hf (fun h78 hf => ?_)
    refine a_iinc (v := v2 + nI 1) (L' := [some (.ref v0), some (.int v1), some (.int (v2 + nI 1))]) dX9_eldestGo_79 rfl rfl rfl (Nat.le_of_ble_eq_true rfl) (fun _ _ hv => by cases hv; rfl) rfl ?_
    refine a_goto (t := 46) dX9_eldestGo_82 rfl ?_
    exact AW.weak (ih v0 v1 (v2 + nI 1) h78 _ k_v0 hf) ⟨rfl, ⟨rfl, ⟨rfl, trivial⟩⟩⟩
set_option maxRecDepth 100000 in
set_option maxHeartbeats 4000000 in
theorem wX9_eldestGo_22 (l : Launch) {Γ : Gm} {r : Unit} {h' : AH} {k0 : Nat → AH → Option (Unit × AH)} (hk0 : ∀ v0 (h : AH), ∀ n_v0 : Nat, Γ[v0]? = some (9, n_v0) → k0 v0 h = some (r, h') → AW l mX9_eldestGo (none, Γ, h') 0 0 0 [some (.ref v0), none, none] [] Γ h) : ∀ (z : Nat) (v0 : Nat) (v1 : Int32) (h : AH), ∀ n_v0 : Nat, Γ[v0]? = some (9, n_v0) → fX9_eldestGo_22 Γ k0 z v0 v1 h = some (r, h') → AW l mX9_eldestGo (none, Γ, h') 0 0 22 [some (.ref v0), some (.int v1), none] [] Γ h := by
  intro z
  induction z with
  | zero => intro v0 v1 h n_v0 k_v0 hf; cases hf
  | succ z ih =>
    intro v0 v1 h n_v0 k_v0 hf
    unfold fX9_eldestGo_22 at hf
    refine a_iload_n dX9_eldestGo_22 rfl rfl ?_
    refine a_aload_n dX9_eldestGo_23 rfl rfl ?_
    refine a_getI fl_RX9_91 dX9_eldestGo_24 rfl k_v0 rfl ?_
    refine a_icmp_ge (t := 91) dX9_eldestGo_27 rfl rfl hf (fun _ hf => ?_) (fun _ hf => ?_)
    · refine a_aload_n dX9_eldestGo_91 rfl rfl ?_
      refine a_dup dX9_eldestGo_92 rfl rfl ?_
      refine a_getI fl_RX9_91 dX9_eldestGo_93 rfl k_v0 rfl ?_
      refine a_iconst (v := nI 1) dX9_eldestGo_96 rfl (by decide) ?_
      refine a_isub dX9_eldestGo_97 rfl ?_
      refine a_putI fp_RX9_91 dX9_eldestGo_98 rfl k_v0 rfl hf (fun h98 hf => ?_)
      refine a_goto (t := 0) dX9_eldestGo_101 rfl ?_
      exact AW.weak (hk0 v0 h98 _ k_v0 hf) ⟨rfl, trivial⟩
    refine a_aload_n dX9_eldestGo_30 rfl rfl ?_
    refine a_getR fl_RX9_41 dX9_eldestGo_31 rfl k_v0 rfl (by decide) hf (fun b31 n_b31 _ k_b31 hf => ?_)
    refine a_iload_n dX9_eldestGo_34 rfl rfl ?_
    refine a_iconst (v := nI 1) dX9_eldestGo_35 rfl (by decide) ?_
    refine a_isub dX9_eldestGo_36 rfl ?_
    refine a_aload_n dX9_eldestGo_37 rfl rfl ?_
    refine a_getR fl_RX9_41 dX9_eldestGo_38 rfl k_v0 rfl (by decide) hf (fun b38 n_b38 _ k_b38 hf => ?_)
    refine a_iload_n dX9_eldestGo_41 rfl rfl ?_
    refine a_iald dX9_eldestGo_42 rfl k_b38 hf (fun hf => ?_)
    refine a_iast dX9_eldestGo_43 rfl k_b31 hf (fun h43 hf => ?_)
    refine a_iconst (v := nI 0) dX9_eldestGo_44 rfl (by decide) ?_
    refine a_istore_n (L' := [some (.ref v0), some (.int v1), some (.int (nI 0))]) dX9_eldestGo_45 rfl (Nat.le_of_ble_eq_true rfl) (fun _ _ hv => by cases hv; rfl) rfl ?_
    exact AW.weak (wX9_eldestGo_46 l hk0 ih am_fuel v0 v1 (nI 0) h43 _ k_v0 hf) ⟨rfl, ⟨rfl, ⟨rfl, trivial⟩⟩⟩
set_option maxRecDepth 100000 in
set_option maxHeartbeats 4000000 in
theorem wX9_eldestGo_20 (l : Launch) {Γ : Gm} {r : Unit} {h' : AH} {k0 : Nat → AH → Option (Unit × AH)} (hk0 : ∀ v0 (h : AH), ∀ n_v0 : Nat, Γ[v0]? = some (9, n_v0) → k0 v0 h = some (r, h') → AW l mX9_eldestGo (none, Γ, h') 0 0 0 [some (.ref v0), none, none] [] Γ h) (v0 : Nat) (h : AH) : ∀ n_v0 : Nat, Γ[v0]? = some (9, n_v0) → fX9_eldestGo_20 Γ k0 v0 h = some (r, h') → AW l mX9_eldestGo (none, Γ, h') 0 0 20 [some (.ref v0), none, none] [] Γ h := by
  intro n_v0 k_v0 hf
  unfold fX9_eldestGo_20 at hf
  refine a_iconst (v := nI 1) dX9_eldestGo_20 rfl (by decide) ?_
  refine a_istore_n (L' := [some (.ref v0), some (.int (nI 1)), none]) dX9_eldestGo_21 rfl (Nat.le_of_ble_eq_true rfl) (fun _ _ hv => by cases hv; rfl) rfl ?_
  exact AW.weak (wX9_eldestGo_22 l hk0 am_fuel v0 (nI 1) h _ k_v0 hf) ⟨rfl, ⟨rfl, trivial⟩⟩
set_option maxRecDepth 100000 in
set_option maxHeartbeats 4000000 in
theorem wX9_eldestGo_0 (l : Launch) {Γ : Gm} {r : Unit} {h' : AH} : ∀ (z : Nat) (v0 : Nat) (h : AH), ∀ n_v0 : Nat, Γ[v0]? = some (9, n_v0) → fX9_eldestGo_0 Γ z v0 h = some (r, h') → AW l mX9_eldestGo (none, Γ, h') 0 0 0 [some (.ref v0), none, none] [] Γ h := by
  intro z
  induction z with
  | zero => intro v0 h n_v0 k_v0 hf; cases hf
  | succ z ih =>
    intro v0 h n_v0 k_v0 hf
    unfold fX9_eldestGo_0 at hf
    refine a_aload_n dX9_eldestGo_0 rfl rfl ?_
    refine a_getI fl_RX9_91 dX9_eldestGo_1 rfl k_v0 rfl ?_
    refine a_bipush (v := nI 8) dX9_eldestGo_4 rfl (by decide) ?_
    refine a_icmp_gt (t := 20) dX9_eldestGo_6 rfl rfl hf (fun _ hf => ?_) (fun _ hf => ?_)
    · exact AW.weak (wX9_eldestGo_20 l ih v0 h _ k_v0 hf) ⟨rfl, trivial⟩
    refine a_aload_n dX9_eldestGo_9 rfl rfl ?_
    obtain ⟨r10, h10, hc10, hf⟩ := am_bind_some hf
    refine a_callV (As := []) (r1 := (some (.int r10), Γ, h10)) (sX9_sum l k_v0 hc10) ccX9_sum tw_996 tw_998 tp_33 (ci := 9) rfl (by decide) ⟨Nat.le_of_ble_eq_true rfl, Nat.le_of_ble_eq_true rfl, Nat.le_of_ble_eq_true rfl, Nat.le_of_ble_eq_true rfl⟩ dX9_eldestGo_10 rfl k_v0 rfl (Nat.le_of_ble_eq_true rfl) rfl rfl (fun hr10 => ?_)
    refine a_aload_n dX9_eldestGo_13 rfl rfl ?_
    refine a_getI fl_RX9_44 dX9_eldestGo_14 rfl k_v0 rfl ?_
    refine a_icmp_le (t := 104) dX9_eldestGo_17 rfl rfl hf (fun _ hf => ?_) (fun _ hf => ?_)
    · cases hf
      exact a_ret dX9_eldestGo_104 rfl rfl rfl
    exact AW.weak (wX9_eldestGo_20 l ih v0 h10 _ k_v0 hf) ⟨rfl, trivial⟩
set_option maxRecDepth 100000 in
set_option maxHeartbeats 4000000 in
theorem sX9_eldestGo (l : Launch) {Γ : Gm} {h h' : AH} {v0 : Nat} {r : Unit} {n_v0 : Nat} (k_v0 : Γ[v0]? = some (9, n_v0)) (hf : fX9_eldestGo Γ v0 h = some (r, h')) : AR l yX9_eldestGo mX9_eldestGo [.ref v0] Γ h (none, Γ, h') := by
  refine AR.of [some (.ref v0), none, none] (by decide +kernel) rfl (fun z => by cases z) (Nat.le_of_ble_eq_true rfl) ⟨rfl, trivial⟩ ?_
  unfold fX9_eldestGo at hf
  exact AW.weak (wX9_eldestGo_0 l am_fuel v0 h _ k_v0 hf) ⟨rfl, trivial⟩
set_option maxRecDepth 100000 in
set_option maxHeartbeats 4000000 in
theorem wX9_keep_42 (l : Launch) {Γ : Gm} {r : Int32} {h' : AH} : ∀ (z : Nat) (v0 : Nat) (v2 : Int32) (h : AH), ∀ n_v0 : Nat, Γ[v0]? = some (9, n_v0) → fX9_keep_42 Γ z v0 v2 h = some (r, h') → AW l mX9_keep (some (.int r), Γ, h') 0 0 42 [some (.ref v0), none, some (.int v2)] [] Γ h := by
  intro z
  induction z with
  | zero => intro v0 v2 h n_v0 k_v0 hf; cases hf
  | succ z ih =>
    intro v0 v2 h n_v0 k_v0 hf
    unfold fX9_keep_42 at hf
    refine a_iload_n dX9_keep_42 rfl rfl ?_
    refine a_sipush (v := nI 2202) dX9_keep_43 rfl (by decide) ?_
    refine a_icmp_ge (t := 76) dX9_keep_46 rfl rfl hf (fun _ hf => ?_) (fun _ hf => ?_)
    · refine a_aload_n dX9_keep_76 rfl rfl ?_
      refine a_dup dX9_keep_77 rfl rfl ?_
      refine a_getI fl_RX9_91 dX9_keep_78 rfl k_v0 rfl ?_
      refine a_iconst (v := nI 1) dX9_keep_81 rfl (by decide) ?_
      refine a_iadd dX9_keep_82 rfl ?_
      refine a_putI fp_RX9_91 dX9_keep_83 rfl k_v0 rfl hf (fun h83 hf => ?_)
      refine a_aload_n dX9_keep_86 rfl rfl ?_
      obtain ⟨r87, h87, hc87, hf⟩ := am_bind_some hf
      refine a_callV (As := []) (r1 := (none, Γ, h87)) (sX9_eldestGo l k_v0 hc87) ccX9_eldestGo tw_992 tw_994 tp_32 (ci := 9) rfl (by decide) ⟨Nat.le_of_ble_eq_true rfl, Nat.le_of_ble_eq_true rfl, Nat.le_of_ble_eq_true rfl, Nat.le_of_ble_eq_true rfl⟩ dX9_keep_87 rfl k_v0 rfl (Nat.le_of_ble_eq_true rfl) rfl rfl (fun hr87 => ?_)
      refine a_aload_n dX9_keep_90 rfl rfl ?_
      refine a_getI fl_RX9_91 dX9_keep_91 rfl k_v0 rfl ?_
      cases hf
      exact a_iret dX9_keep_94 rfl rfl rfl (by decide)
    refine a_aload_n dX9_keep_49 rfl rfl ?_
    refine a_getR fl_RX9_38 dX9_keep_50 rfl k_v0 rfl (by decide) hf (fun b50 n_b50 _ k_b50 hf => ?_)
    refine a_sipush (v := nI 2202) dX9_keep_53 rfl (by decide) ?_
    refine a_aload_n dX9_keep_56 rfl rfl ?_
    refine a_getI fl_RX9_91 dX9_keep_57 rfl k_v0 rfl ?_
    refine a_imul dX9_keep_60 rfl ?_
    refine a_iload_n dX9_keep_61 rfl rfl ?_
    refine a_iadd dX9_keep_62 rfl ?_
    refine a_aload_n dX9_keep_63 rfl rfl ?_
    refine a_getR fl_RX9_32 dX9_keep_64 rfl k_v0 rfl (by decide) hf (fun b64 n_b64 _ k_b64 hf => ?_)
    refine a_iload_n dX9_keep_67 rfl rfl ?_
    refine a_iald dX9_keep_68 rfl k_b64 hf (fun hf => ?_)
    refine a_iast dX9_keep_69 rfl k_b50 hf (fun h69 hf => ?_)
    refine a_iinc (v := v2 + nI 1) (L' := [some (.ref v0), none, some (.int (v2 + nI 1))]) dX9_keep_70 rfl rfl rfl (Nat.le_of_ble_eq_true rfl) (fun _ _ hv => by cases hv) rfl ?_
    refine a_goto (t := 42) dX9_keep_73 rfl ?_
    exact AW.weak (ih v0 (v2 + nI 1) h69 _ k_v0 hf) ⟨rfl, ⟨rfl, trivial⟩⟩
set_option maxRecDepth 100000 in
set_option maxHeartbeats 4000000 in
theorem sX9_keep (l : Launch) {Γ : Gm} {h h' : AH} {v0 : Nat} {r : Int32} {n_v0 : Nat} (k_v0 : Γ[v0]? = some (9, n_v0)) (hf : fX9_keep Γ v0 h = some (r, h')) : AR l yX9_keep mX9_keep [.ref v0] Γ h (some (.int r), Γ, h') := by
  refine AR.of [some (.ref v0), none, none] (by decide +kernel) rfl (fun z => by cases z) (Nat.le_of_ble_eq_true rfl) ⟨rfl, trivial⟩ ?_
  unfold fX9_keep at hf
  refine a_aload_n dX9_keep_0 rfl rfl ?_
  refine a_getI fl_RX9_82 dX9_keep_1 rfl k_v0 rfl ?_
  refine a_if_ne (t := 10) dX9_keep_4 rfl rfl hf (fun _ hf => ?_) (fun _ hf => ?_)
  · refine a_bipush (v := (-4 : Int32)) dX9_keep_7 rfl (by decide) ?_
    cases hf
    exact a_iret dX9_keep_9 rfl rfl rfl (by decide)
  refine a_aload_n dX9_keep_10 rfl rfl ?_
  refine a_aload_n dX9_keep_11 rfl rfl ?_
  refine a_getR fl_RX9_32 dX9_keep_12 rfl k_v0 rfl (by decide) hf (fun b12 n_b12 _ k_b12 hf => ?_)
  obtain ⟨r15, h15, hc15, hf⟩ := am_bind_some hf
  refine a_callV (As := [.ref b12]) (r1 := (some (.int r15), Γ, h15)) (sX9_weightOf l k_v0 k_b12 hc15) ccX9_weightOf tw_988 tw_990 tp_31 (ci := 9) rfl (by decide) ⟨Nat.le_of_ble_eq_true rfl, Nat.le_of_ble_eq_true rfl, Nat.le_of_ble_eq_true rfl, Nat.le_of_ble_eq_true rfl⟩ dX9_keep_15 rfl k_v0 rfl (Nat.le_of_ble_eq_true rfl) rfl rfl (fun hr15 => ?_)
  refine a_istore_n (L' := [some (.ref v0), some (.int r15), none]) dX9_keep_18 rfl (Nat.le_of_ble_eq_true rfl) (fun _ _ hv => by cases hv; rfl) rfl ?_
  refine a_iload_n dX9_keep_19 rfl rfl ?_
  refine a_aload_n dX9_keep_20 rfl rfl ?_
  refine a_getI fl_RX9_44 dX9_keep_21 rfl k_v0 rfl ?_
  refine a_icmp_le (t := 30) dX9_keep_24 rfl rfl hf (fun _ hf => ?_) (fun _ hf => ?_)
  · refine a_aload_n dX9_keep_30 rfl rfl ?_
    refine a_getR fl_RX9_41 dX9_keep_31 rfl k_v0 rfl (by decide) hf (fun b31 n_b31 _ k_b31 hf => ?_)
    refine a_aload_n dX9_keep_34 rfl rfl ?_
    refine a_getI fl_RX9_91 dX9_keep_35 rfl k_v0 rfl ?_
    refine a_iload_n dX9_keep_38 rfl rfl ?_
    refine a_iast dX9_keep_39 rfl k_b31 hf (fun h39 hf => ?_)
    refine a_iconst (v := nI 0) dX9_keep_40 rfl (by decide) ?_
    refine a_istore_n (L' := [some (.ref v0), some (.int r15), some (.int (nI 0))]) dX9_keep_41 rfl (Nat.le_of_ble_eq_true rfl) (fun _ _ hv => by cases hv; rfl) rfl ?_
    exact AW.weak (wX9_keep_42 l am_fuel v0 (nI 0) h39 _ k_v0 hf) ⟨rfl, ⟨rfl, trivial⟩⟩
  refine a_bipush (v := (-3 : Int32)) dX9_keep_27 rfl (by decide) ?_
  cases hf
  exact a_iret dX9_keep_29 rfl rfl rfl (by decide)
set_option maxRecDepth 100000 in
set_option maxHeartbeats 4000000 in
theorem wX9_undo_37 (l : Launch) {Γ : Gm} {r : Int32} {h' : AH} : ∀ (z : Nat) (v0 : Nat) (v1 : Int32) (v2 : Int32) (h : AH), ∀ n_v0 : Nat, Γ[v0]? = some (9, n_v0) → fX9_undo_37 Γ z v0 v1 v2 h = some (r, h') → AW l mX9_undo (some (.int r), Γ, h') 0 0 37 [some (.ref v0), some (.int v1), some (.int v2)] [] Γ h := by
  intro z
  induction z with
  | zero => intro v0 v1 v2 h n_v0 k_v0 hf; cases hf
  | succ z ih =>
    intro v0 v1 v2 h n_v0 k_v0 hf
    unfold fX9_undo_37 at hf
    refine a_iload_n dX9_undo_37 rfl rfl ?_
    refine a_sipush (v := nI 2202) dX9_undo_38 rfl (by decide) ?_
    refine a_icmp_ge (t := 71) dX9_undo_41 rfl rfl hf (fun _ hf => ?_) (fun _ hf => ?_)
    · refine a_aload_n dX9_undo_71 rfl rfl ?_
      refine a_iload_n dX9_undo_72 rfl rfl ?_
      obtain ⟨r73, h73, hc73, hf⟩ := am_bind_some hf
      refine a_callV (As := [.int v1]) (r1 := (none, Γ, h73)) (sX9_stay l k_v0 hc73) ccX9_stay tw_960 tw_962 tp_30 (ci := 9) rfl (by decide) ⟨Nat.le_of_ble_eq_true rfl, Nat.le_of_ble_eq_true rfl, Nat.le_of_ble_eq_true rfl, Nat.le_of_ble_eq_true rfl⟩ dX9_undo_73 rfl k_v0 rfl (Nat.le_of_ble_eq_true rfl) rfl rfl (fun hr73 => ?_)
      refine a_aload_n dX9_undo_76 rfl rfl ?_
      refine a_getI fl_RX9_91 dX9_undo_77 rfl k_v0 rfl ?_
      cases hf
      exact a_iret dX9_undo_80 rfl rfl rfl (by decide)
    refine a_aload_n dX9_undo_44 rfl rfl ?_
    refine a_getR fl_RX9_32 dX9_undo_45 rfl k_v0 rfl (by decide) hf (fun b45 n_b45 _ k_b45 hf => ?_)
    refine a_iload_n dX9_undo_48 rfl rfl ?_
    refine a_aload_n dX9_undo_49 rfl rfl ?_
    refine a_getR fl_RX9_38 dX9_undo_50 rfl k_v0 rfl (by decide) hf (fun b50 n_b50 _ k_b50 hf => ?_)
    refine a_sipush (v := nI 2202) dX9_undo_53 rfl (by decide) ?_
    refine a_aload_n dX9_undo_56 rfl rfl ?_
    refine a_getI fl_RX9_91 dX9_undo_57 rfl k_v0 rfl ?_
    refine a_imul dX9_undo_60 rfl ?_
    refine a_iload_n dX9_undo_61 rfl rfl ?_
    refine a_iadd dX9_undo_62 rfl ?_
    refine a_iald dX9_undo_63 rfl k_b50 hf (fun hf => ?_)
    refine a_iast dX9_undo_64 rfl k_b45 hf (fun h64 hf => ?_)
    refine a_iinc (v := v2 + nI 1) (L' := [some (.ref v0), some (.int v1), some (.int (v2 + nI 1))]) dX9_undo_65 rfl rfl rfl (Nat.le_of_ble_eq_true rfl) (fun _ _ hv => by cases hv; rfl) rfl ?_
    refine a_goto (t := 37) dX9_undo_68 rfl ?_
    exact AW.weak (ih v0 v1 (v2 + nI 1) h64 _ k_v0 hf) ⟨rfl, ⟨rfl, ⟨rfl, trivial⟩⟩⟩
set_option maxRecDepth 100000 in
set_option maxHeartbeats 4000000 in
theorem sX9_undo (l : Launch) {Γ : Gm} {h h' : AH} {v0 : Nat} {r : Int32} {n_v0 : Nat} (k_v0 : Γ[v0]? = some (9, n_v0)) (hf : fX9_undo Γ v0 h = some (r, h')) : AR l yX9_undo mX9_undo [.ref v0] Γ h (some (.int r), Γ, h') := by
  refine AR.of [some (.ref v0), none, none] (by decide +kernel) rfl (fun z => by cases z) (Nat.le_of_ble_eq_true rfl) ⟨rfl, trivial⟩ ?_
  unfold fX9_undo at hf
  refine a_aload_n dX9_undo_0 rfl rfl ?_
  refine a_getI fl_RX9_82 dX9_undo_1 rfl k_v0 rfl ?_
  refine a_if_ne (t := 10) dX9_undo_4 rfl rfl hf (fun _ hf => ?_) (fun _ hf => ?_)
  · refine a_bipush (v := (-4 : Int32)) dX9_undo_7 rfl (by decide) ?_
    cases hf
    exact a_iret dX9_undo_9 rfl rfl rfl (by decide)
  refine a_aload_n dX9_undo_10 rfl rfl ?_
  refine a_getI fl_RX9_91 dX9_undo_11 rfl k_v0 rfl ?_
  refine a_if_ne (t := 20) dX9_undo_14 rfl rfl hf (fun _ hf => ?_) (fun _ hf => ?_)
  · refine a_bipush (v := (-2 : Int32)) dX9_undo_17 rfl (by decide) ?_
    cases hf
    exact a_iret dX9_undo_19 rfl rfl rfl (by decide)
  refine a_aload_n dX9_undo_20 rfl rfl ?_
  refine a_dup dX9_undo_21 rfl rfl ?_
  refine a_getI fl_RX9_91 dX9_undo_22 rfl k_v0 rfl ?_
  refine a_iconst (v := nI 1) dX9_undo_25 rfl (by decide) ?_
  refine a_isub dX9_undo_26 rfl ?_
  refine a_putI fp_RX9_91 dX9_undo_27 rfl k_v0 rfl hf (fun h27 hf => ?_)
  refine a_aload_n dX9_undo_30 rfl rfl ?_
  obtain ⟨r31, h31, hc31, hf⟩ := am_bind_some hf
  refine a_callV (As := []) (r1 := (some (.int r31), Γ, h31)) (sX9_bits l k_v0 hc31) ccX9_bits tw_956 tw_958 tp_29 (ci := 9) rfl (by decide) ⟨Nat.le_of_ble_eq_true rfl, Nat.le_of_ble_eq_true rfl, Nat.le_of_ble_eq_true rfl, Nat.le_of_ble_eq_true rfl⟩ dX9_undo_31 rfl k_v0 rfl (Nat.le_of_ble_eq_true rfl) rfl rfl (fun hr31 => ?_)
  refine a_istore_n (L' := [some (.ref v0), some (.int r31), none]) dX9_undo_34 rfl (Nat.le_of_ble_eq_true rfl) (fun _ _ hv => by cases hv; rfl) rfl ?_
  refine a_iconst (v := nI 0) dX9_undo_35 rfl (by decide) ?_
  refine a_istore_n (L' := [some (.ref v0), some (.int r31), some (.int (nI 0))]) dX9_undo_36 rfl (Nat.le_of_ble_eq_true rfl) (fun _ _ hv => by cases hv; rfl) rfl ?_
  exact AW.weak (wX9_undo_37 l am_fuel v0 r31 (nI 0) h31 _ k_v0 hf) ⟨rfl, ⟨rfl, ⟨rfl, trivial⟩⟩⟩
set_option maxRecDepth 100000 in
set_option maxHeartbeats 4000000 in
theorem sX9_bound (l : Launch) {Γ : Gm} {h h' : AH} {v0 : Nat} {v1 : Int32} {r : Int32} {n_v0 : Nat} (k_v0 : Γ[v0]? = some (9, n_v0)) (hf : fX9_bound Γ v0 v1 h = some (r, h')) : AR l yX9_bound mX9_bound [.ref v0, .int v1] Γ h (some (.int r), Γ, h') := by
  refine AR.of [some (.ref v0), some (.int v1), none] (by decide +kernel) rfl (fun z => by cases z) (Nat.le_of_ble_eq_true rfl) ⟨rfl, ⟨rfl, trivial⟩⟩ ?_
  unfold fX9_bound at hf
  refine a_iload_n dX9_bound_0 rfl rfl ?_
  refine a_iconst (v := nI 0) dX9_bound_1 rfl (by decide) ?_
  refine a_sipush (v := nI 10000) dX9_bound_2 rfl (by decide) ?_
  obtain ⟨r5, h5, hc5, hf⟩ := am_bind_some hf
  refine a_callS (As := [.int v1, .int (nI 0), .int (nI 10000)]) (r1 := (some (.int r5), Γ, h5)) (sX9_outside l hc5) ccX9_outside tw_819 tw_820 ⟨Nat.le_of_ble_eq_true rfl, Nat.le_of_ble_eq_true rfl, Nat.le_of_ble_eq_true rfl, Nat.le_of_ble_eq_true rfl⟩ dX9_bound_5 rfl rfl (Nat.le_of_ble_eq_true rfl) rfl rfl (fun hr5 => ?_)
  refine a_if_eq (t := 13) dX9_bound_8 rfl rfl hf (fun _ hf => ?_) (fun _ hf => ?_)
  · refine a_aload_n dX9_bound_13 rfl rfl ?_
    refine a_getI fl_RX9_44 dX9_bound_14 rfl k_v0 rfl ?_
    refine a_nmI hf (fun x17 hf => ?_)
    refine a_istore_n (L' := [some (.ref v0), some (.int v1), some (.int x17)]) dX9_bound_17 rfl (Nat.le_of_ble_eq_true rfl) (fun _ _ hv => by cases hv; rfl) rfl ?_
    refine a_aload_n dX9_bound_18 rfl rfl ?_
    refine a_iload_n dX9_bound_19 rfl rfl ?_
    refine a_putI fp_RX9_44 dX9_bound_20 rfl k_v0 rfl hf (fun h20 hf => ?_)
    refine a_aload_n dX9_bound_23 rfl rfl ?_
    obtain ⟨r24, h24, hc24, hf⟩ := am_bind_some hf
    refine a_callV (As := []) (r1 := (none, Γ, h24)) (sX9_eldestGo l k_v0 hc24) ccX9_eldestGo tw_992 tw_994 tp_32 (ci := 9) rfl (by decide) ⟨Nat.le_of_ble_eq_true rfl, Nat.le_of_ble_eq_true rfl, Nat.le_of_ble_eq_true rfl, Nat.le_of_ble_eq_true rfl⟩ dX9_bound_24 rfl k_v0 rfl (Nat.le_of_ble_eq_true rfl) rfl rfl (fun hr24 => ?_)
    refine a_iload_n dX9_bound_27 rfl rfl ?_
    cases hf
    exact a_iret dX9_bound_28 rfl rfl rfl (by decide)
  refine a_iconst (v := (-1 : Int32)) dX9_bound_11 rfl (by decide) ?_
  cases hf
  exact a_iret dX9_bound_12 rfl rfl rfl (by decide)
set_option maxRecDepth 100000 in
set_option maxHeartbeats 4000000 in
theorem sX9_restart (l : Launch) {Γ : Gm} {h h' : AH} {v0 : Nat} {r : Int32} {n_v0 : Nat} (k_v0 : Γ[v0]? = some (9, n_v0)) (hf : fX9_restart Γ v0 h = some (r, h')) : AR l yX9_restart mX9_restart [.ref v0] Γ h (some (.int r), Γ, h') := by
  refine AR.of [some (.ref v0), none] (by decide +kernel) rfl (fun z => by cases z) (Nat.le_of_ble_eq_true rfl) ⟨rfl, trivial⟩ ?_
  unfold fX9_restart at hf
  refine a_aload_n dX9_restart_0 rfl rfl ?_
  refine a_getI fl_RX9_82 dX9_restart_1 rfl k_v0 rfl ?_
  refine a_if_ne (t := 10) dX9_restart_4 rfl rfl hf (fun _ hf => ?_) (fun _ hf => ?_)
  · refine a_bipush (v := (-4 : Int32)) dX9_restart_7 rfl (by decide) ?_
    cases hf
    exact a_iret dX9_restart_9 rfl rfl rfl (by decide)
  refine a_aload_n dX9_restart_10 rfl rfl ?_
  obtain ⟨r11, h11, hc11, hf⟩ := am_bind_some hf
  refine a_callV (As := []) (r1 := (some (.int r11), Γ, h11)) (sX9_bits l k_v0 hc11) ccX9_bits tw_956 tw_958 tp_29 (ci := 9) rfl (by decide) ⟨Nat.le_of_ble_eq_true rfl, Nat.le_of_ble_eq_true rfl, Nat.le_of_ble_eq_true rfl, Nat.le_of_ble_eq_true rfl⟩ dX9_restart_11 rfl k_v0 rfl (Nat.le_of_ble_eq_true rfl) rfl rfl (fun hr11 => ?_)
  refine a_istore_n (L' := [some (.ref v0), some (.int r11)]) dX9_restart_14 rfl (Nat.le_of_ble_eq_true rfl) (fun _ _ hv => by cases hv; rfl) rfl ?_
  refine a_aload_n dX9_restart_15 rfl rfl ?_
  obtain ⟨r16, h16, hc16, hf⟩ := am_bind_some hf
  refine a_callV (As := []) (r1 := (none, Γ, h16)) (sX9_begin l k_v0 hc16) ccX9_begin tw_834 tw_836 tp_14 (ci := 9) rfl (by decide) ⟨Nat.le_of_ble_eq_true rfl, Nat.le_of_ble_eq_true rfl, Nat.le_of_ble_eq_true rfl, Nat.le_of_ble_eq_true rfl⟩ dX9_restart_16 rfl k_v0 rfl (Nat.le_of_ble_eq_true rfl) rfl rfl (fun hr16 => ?_)
  refine a_aload_n dX9_restart_19 rfl rfl ?_
  refine a_iload_n dX9_restart_20 rfl rfl ?_
  obtain ⟨r21, h21, hc21, hf⟩ := am_bind_some hf
  refine a_callV (As := [.int r11]) (r1 := (none, Γ, h21)) (sX9_stay l k_v0 hc21) ccX9_stay tw_960 tw_962 tp_30 (ci := 9) rfl (by decide) ⟨Nat.le_of_ble_eq_true rfl, Nat.le_of_ble_eq_true rfl, Nat.le_of_ble_eq_true rfl, Nat.le_of_ble_eq_true rfl⟩ dX9_restart_21 rfl k_v0 rfl (Nat.le_of_ble_eq_true rfl) rfl rfl (fun hr21 => ?_)
  refine a_iconst (v := nI 1) dX9_restart_24 rfl (by decide) ?_
  cases hf
  exact a_iret dX9_restart_25 rfl rfl rfl (by decide)
set_option maxRecDepth 100000 in
set_option maxHeartbeats 4000000 in
theorem sX9_told (l : Launch) {Γ : Gm} {h h' : AH} {v0 : Nat} {v1 : Int32} {r : Int32} {n_v0 : Nat} (k_v0 : Γ[v0]? = some (9, n_v0)) (hf : fX9_told Γ v0 v1 h = some (r, h')) : AR l yX9_told mX9_told [.ref v0, .int v1] Γ h (some (.int r), Γ, h') := by
  refine AR.of [some (.ref v0), some (.int v1)] (by decide +kernel) rfl (fun z => by cases z) (Nat.le_of_ble_eq_true rfl) ⟨rfl, ⟨rfl, trivial⟩⟩ ?_
  unfold fX9_told at hf
  refine a_iload_n dX9_told_0 rfl rfl ?_
  refine am_if hf (fun hx hf => ?_) (fun hx0 hf => ?_)
  · refine a_tswIn (c := nI 0) (off := 55) (t := 56) dX9_told_1 hx (by decide) (by decide) (by decide) rfl ?_
    refine a_aload_n dX9_told_56 rfl rfl ?_
    refine a_getI fl_RX9_82 dX9_told_57 rfl k_v0 rfl ?_
    cases hf
    exact a_iret dX9_told_60 rfl rfl rfl (by decide)
  refine am_if hf (fun hx hf => ?_) (fun hx1 hf => ?_)
  · refine a_tswIn (c := nI 1) (off := 60) (t := 61) dX9_told_1 hx (by decide) (by decide) (by decide) rfl ?_
    refine a_aload_n dX9_told_61 rfl rfl ?_
    refine a_getI fl_RX9_82 dX9_told_62 rfl k_v0 rfl ?_
    refine a_if_ne (t := 72) dX9_told_65 rfl rfl hf (fun _ hf => ?_) (fun _ hf => ?_)
    · refine a_iconst (v := nI 0) dX9_told_68 rfl (by decide) ?_
      refine a_goto (t := 80) dX9_told_69 rfl ?_
      cases hf
      exact a_iret dX9_told_80 rfl rfl rfl (by decide)
    refine a_aload_n dX9_told_72 rfl rfl ?_
    refine a_getR fl_RX9_32 dX9_told_73 rfl k_v0 rfl (by decide) hf (fun b73 n_b73 _ k_b73 hf => ?_)
    refine a_sipush (v := nI 1000) dX9_told_76 rfl (by decide) ?_
    refine a_iald dX9_told_79 rfl k_b73 hf (fun hf => ?_)
    cases hf
    exact a_iret dX9_told_80 rfl rfl rfl (by decide)
  refine am_if hf (fun hx hf => ?_) (fun hx2 hf => ?_)
  · refine a_tswIn (c := nI 2) (off := 80) (t := 81) dX9_told_1 hx (by decide) (by decide) (by decide) rfl ?_
    refine a_aload_n dX9_told_81 rfl rfl ?_
    refine a_getI fl_RX9_82 dX9_told_82 rfl k_v0 rfl ?_
    refine a_if_ne (t := 92) dX9_told_85 rfl rfl hf (fun _ hf => ?_) (fun _ hf => ?_)
    · refine a_iconst (v := nI 0) dX9_told_88 rfl (by decide) ?_
      refine a_goto (t := 100) dX9_told_89 rfl ?_
      cases hf
      exact a_iret dX9_told_100 rfl rfl rfl (by decide)
    refine a_aload_n dX9_told_92 rfl rfl ?_
    refine a_getR fl_RX9_32 dX9_told_93 rfl k_v0 rfl (by decide) hf (fun b93 n_b93 _ k_b93 hf => ?_)
    refine a_sipush (v := nI 1001) dX9_told_96 rfl (by decide) ?_
    refine a_iald dX9_told_99 rfl k_b93 hf (fun hf => ?_)
    cases hf
    exact a_iret dX9_told_100 rfl rfl rfl (by decide)
  refine am_if hf (fun hx hf => ?_) (fun hx3 hf => ?_)
  · refine a_tswIn (c := nI 3) (off := 100) (t := 101) dX9_told_1 hx (by decide) (by decide) (by decide) rfl ?_
    refine a_aload_n dX9_told_101 rfl rfl ?_
    refine a_getI fl_RX9_91 dX9_told_102 rfl k_v0 rfl ?_
    cases hf
    exact a_iret dX9_told_105 rfl rfl rfl (by decide)
  refine am_if hf (fun hx hf => ?_) (fun hx4 hf => ?_)
  · refine a_tswIn (c := nI 4) (off := 105) (t := 106) dX9_told_1 hx (by decide) (by decide) (by decide) rfl ?_
    refine a_aload_n dX9_told_106 rfl rfl ?_
    obtain ⟨r107, h107, hc107, hf⟩ := am_bind_some hf
    refine a_callV (As := []) (r1 := (some (.int r107), Γ, h107)) (sX9_sum l k_v0 hc107) ccX9_sum tw_996 tw_998 tp_33 (ci := 9) rfl (by decide) ⟨Nat.le_of_ble_eq_true rfl, Nat.le_of_ble_eq_true rfl, Nat.le_of_ble_eq_true rfl, Nat.le_of_ble_eq_true rfl⟩ dX9_told_107 rfl k_v0 rfl (Nat.le_of_ble_eq_true rfl) rfl rfl (fun hr107 => ?_)
    cases hf
    exact a_iret dX9_told_110 rfl rfl rfl (by decide)
  refine am_if hf (fun hx hf => ?_) (fun hx5 hf => ?_)
  · refine a_tswIn (c := nI 5) (off := 110) (t := 111) dX9_told_1 hx (by decide) (by decide) (by decide) rfl ?_
    refine a_aload_n dX9_told_111 rfl rfl ?_
    refine a_getI fl_RX9_82 dX9_told_112 rfl k_v0 rfl ?_
    refine a_if_ne (t := 122) dX9_told_115 rfl rfl hf (fun _ hf => ?_) (fun _ hf => ?_)
    · refine a_iconst (v := nI 0) dX9_told_118 rfl (by decide) ?_
      refine a_goto (t := 130) dX9_told_119 rfl ?_
      cases hf
      exact a_iret dX9_told_130 rfl rfl rfl (by decide)
    refine a_aload_n dX9_told_122 rfl rfl ?_
    refine a_aload_n dX9_told_123 rfl rfl ?_
    refine a_getR fl_RX9_32 dX9_told_124 rfl k_v0 rfl (by decide) hf (fun b124 n_b124 _ k_b124 hf => ?_)
    obtain ⟨r127, h127, hc127, hf⟩ := am_bind_some hf
    refine a_callV (As := [.ref b124]) (r1 := (some (.int r127), Γ, h127)) (sX9_weightOf l k_v0 k_b124 hc127) ccX9_weightOf tw_988 tw_990 tp_31 (ci := 9) rfl (by decide) ⟨Nat.le_of_ble_eq_true rfl, Nat.le_of_ble_eq_true rfl, Nat.le_of_ble_eq_true rfl, Nat.le_of_ble_eq_true rfl⟩ dX9_told_127 rfl k_v0 rfl (Nat.le_of_ble_eq_true rfl) rfl rfl (fun hr127 => ?_)
    cases hf
    exact a_iret dX9_told_130 rfl rfl rfl (by decide)
  refine am_if hf (fun hx hf => ?_) (fun hx6 hf => ?_)
  · refine a_tswIn (c := nI 6) (off := 130) (t := 131) dX9_told_1 hx (by decide) (by decide) (by decide) rfl ?_
    refine a_aload_n dX9_told_131 rfl rfl ?_
    refine a_getI fl_RX9_88 dX9_told_132 rfl k_v0 rfl ?_
    cases hf
    exact a_iret dX9_told_135 rfl rfl rfl (by decide)
  refine am_if hf (fun hx hf => ?_) (fun hx7 hf => ?_)
  · refine a_tswIn (c := nI 7) (off := 135) (t := 136) dX9_told_1 hx (by decide) (by decide) (by decide) rfl ?_
    refine a_aload_n dX9_told_136 rfl rfl ?_
    refine a_getI fl_RX9_68 dX9_told_137 rfl k_v0 rfl ?_
    cases hf
    exact a_iret dX9_told_140 rfl rfl rfl (by decide)
  refine am_if hf (fun hx hf => ?_) (fun hx8 hf => ?_)
  · refine a_tswIn (c := nI 8) (off := 140) (t := 141) dX9_told_1 hx (by decide) (by decide) (by decide) rfl ?_
    refine a_aload_n dX9_told_141 rfl rfl ?_
    refine a_getI fl_RX9_79 dX9_told_142 rfl k_v0 rfl ?_
    cases hf
    exact a_iret dX9_told_145 rfl rfl rfl (by decide)
  refine am_if hf (fun hx hf => ?_) (fun hx9 hf => ?_)
  · refine a_tswIn (c := nI 9) (off := 145) (t := 146) dX9_told_1 hx (by decide) (by decide) (by decide) rfl ?_
    refine a_aload_n dX9_told_146 rfl rfl ?_
    refine a_getI fl_RX9_19 dX9_told_147 rfl k_v0 rfl ?_
    cases hf
    exact a_iret dX9_told_150 rfl rfl rfl (by decide)
  refine a_tswOut (t := 151) dX9_told_1 (by have e0 := lv_neT (a := 0) hx0 (by decide); have e1 := lv_neT (a := 1) hx1 (by decide); have e2 := lv_neT (a := 2) hx2 (by decide); have e3 := lv_neT (a := 3) hx3 (by decide); have e4 := lv_neT (a := 4) hx4 (by decide); have e5 := lv_neT (a := 5) hx5 (by decide); have e6 := lv_neT (a := 6) hx6 (by decide); have e7 := lv_neT (a := 7) hx7 (by decide); have e8 := lv_neT (a := 8) hx8 (by decide); have e9 := lv_neT (a := 9) hx9 (by decide); omega) rfl ?_
  refine a_iconst (v := (-1 : Int32)) dX9_told_151 rfl (by decide) ?_
  cases hf
  exact a_iret dX9_told_152 rfl rfl rfl (by decide)
