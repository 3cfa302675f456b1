set_option maxRecDepth 100000 in
set_option maxHeartbeats 4000000 in
theorem wX9_makeD_113 (l : Launch) {Γ : Gm} {r : Unit} {h' : AH} {k2 : Nat → Nat → Int32 → AH → Option (Unit × AH)} (hk2 : ∀ v0 v1 v2 (h : AH), ∀ n_v0 : Nat, Γ[v0]? = some (9, n_v0) → ∀ n_v1 : Nat, Γ[v1]? = some (10, n_v1) → k2 v0 v1 v2 h = some (r, h') → AW l mX9_makeD (none, Γ, h') 0 0 2 [some (.ref v0), some (.ref v1), some (.int v2), none, none, none] [] Γ h) : ∀ (z : Nat) (v0 : Nat) (v1 : Nat) (v2 : Int32) (v3 : Int32) (v5 : Int32) (h : AH), ∀ n_v0 : Nat, Γ[v0]? = some (9, n_v0) → ∀ n_v1 : Nat, Γ[v1]? = some (10, n_v1) → fX9_makeD_113 Γ k2 z v0 v1 v2 v3 v5 h = some (r, h') → AW l mX9_makeD (none, Γ, h') 0 0 113 [some (.ref v0), some (.ref v1), some (.int v2), some (.int v3), none, some (.int v5)] [] Γ h := by
  intro z
  induction z with
  | zero => intro v0 v1 v2 v3 v5 h n_v0 k_v0 n_v1 k_v1 hf; cases hf
  | succ z ih =>
    intro v0 v1 v2 v3 v5 h n_v0 k_v0 n_v1 k_v1 hf
    unfold fX9_makeD_113 at hf
    refine a_iload dX9_makeD_113 rfl rfl ?_
    refine a_aload_n dX9_makeD_115 rfl rfl ?_
    refine a_iload_n dX9_makeD_116 rfl rfl ?_
    refine a_iconst (v := nI 3) dX9_makeD_117 rfl (by decide) ?_
    refine a_iadd dX9_makeD_118 rfl ?_
    refine a_iald dX9_makeD_119 rfl k_v1 hf (fun hf => ?_)
    refine a_aload_n dX9_makeD_120 rfl rfl ?_
    refine a_iload_n dX9_makeD_121 rfl rfl ?_
    refine a_iconst (v := nI 4) dX9_makeD_122 rfl (by decide) ?_
    refine a_iadd dX9_makeD_123 rfl ?_
    refine a_iald dX9_makeD_124 rfl k_v1 hf (fun hf => ?_)
    refine a_iadd dX9_makeD_125 rfl ?_
    refine a_icmp_ge (t := 148) dX9_makeD_126 rfl rfl hf (fun _ hf => ?_) (fun _ hf => ?_)
    · refine a_iinc (v := v2 + nI 1) (L' := [some (.ref v0), some (.ref v1), some (.int (v2 + nI 1)), some (.int v3), none, some (.int v5)]) dX9_makeD_148 rfl rfl rfl (Nat.le_of_ble_eq_true rfl) (fun _ _ hv => by cases hv; rfl) rfl ?_
      refine a_goto (t := 2) dX9_makeD_151 rfl ?_
      exact AW.weak (hk2 v0 v1 (v2 + nI 1) h _ k_v0 _ k_v1 hf) ⟨rfl, ⟨rfl, ⟨rfl, trivial⟩⟩⟩
    refine a_aload_n dX9_makeD_129 rfl rfl ?_
    refine a_aload_n dX9_makeD_130 rfl rfl ?_
    refine a_iload_n dX9_makeD_131 rfl rfl ?_
    refine a_iconst (v := nI 5) dX9_makeD_132 rfl (by decide) ?_
    refine a_iadd dX9_makeD_133 rfl ?_
    refine a_iload dX9_makeD_134 rfl rfl ?_
    refine a_iadd dX9_makeD_136 rfl ?_
    refine a_iald dX9_makeD_137 rfl k_v1 hf (fun hf => ?_)
    refine a_iconst (v := nI 2) dX9_makeD_138 rfl (by decide) ?_
    obtain ⟨r139, h139, hc139, hf⟩ := am_bind_some hf
    refine a_callV (As := [.int (h.1 v1 ((v3 + (nI 5)) + v5).toNatClampNeg), .int (nI 2)]) (r1 := (none, Γ, h139)) (sX9_number l k_v0 hc139) ccX9_number tw_884 tw_886 tp_16 (ci := 9) rfl (by decide) ⟨Nat.le_of_ble_eq_true rfl, Nat.le_of_ble_eq_true rfl, Nat.le_of_ble_eq_true rfl, Nat.le_of_ble_eq_true rfl⟩ dX9_makeD_139 rfl k_v0 rfl (Nat.le_of_ble_eq_true rfl) rfl rfl (fun hr139 => ?_)
    refine a_iinc (v := v5 + nI 1) (L' := [some (.ref v0), some (.ref v1), some (.int v2), some (.int v3), none, some (.int (v5 + nI 1))]) dX9_makeD_142 rfl rfl rfl (Nat.le_of_ble_eq_true rfl) (fun _ _ hv => by cases hv) rfl ?_
    refine a_goto (t := 113) dX9_makeD_145 rfl ?_
    exact AW.weak (ih v0 v1 v2 v3 (v5 + nI 1) h139 _ k_v0 _ k_v1 hf) ⟨rfl, ⟨rfl, ⟨rfl, ⟨rfl, ⟨rfl, trivial⟩⟩⟩⟩⟩
set_option maxRecDepth 100000 in
set_option maxHeartbeats 4000000 in
theorem wX9_makeD_82 (l : Launch) {Γ : Gm} {r : Unit} {h' : AH} {k2 : Nat → Nat → Int32 → AH → Option (Unit × AH)} (hk2 : ∀ v0 v1 v2 (h : AH), ∀ n_v0 : Nat, Γ[v0]? = some (9, n_v0) → ∀ n_v1 : Nat, Γ[v1]? = some (10, n_v1) → k2 v0 v1 v2 h = some (r, h') → AW l mX9_makeD (none, Γ, h') 0 0 2 [some (.ref v0), some (.ref v1), some (.int v2), none, none, none] [] Γ h) (v0 : Nat) (v1 : Nat) (v2 : Int32) (v3 : Int32) (s0 : Nat) (s1 : Int32) (h : AH) : ∀ n_v0 : Nat, Γ[v0]? = some (9, n_v0) → ∀ n_v1 : Nat, Γ[v1]? = some (10, n_v1) → ∀ n_s0 : Nat, Γ[s0]? = some (9, n_s0) → fX9_makeD_82 Γ k2 v0 v1 v2 v3 s0 s1 h = some (r, h') → AW l mX9_makeD (none, Γ, h') 0 0 82 [some (.ref v0), some (.ref v1), some (.int v2), some (.int v3), none, none] [.int s1, .ref s0] Γ h := by
  intro n_v0 k_v0 n_v1 k_v1 n_s0 k_s0 hf
  unfold fX9_makeD_82 at hf
  refine a_iconst (v := nI 1) dX9_makeD_82 rfl (by decide) ?_
  obtain ⟨r83, h83, hc83, hf⟩ := am_bind_some hf
  refine a_callV (As := [.int s1, .int (nI 1)]) (r1 := (none, Γ, h83)) (sX9_number l k_s0 hc83) ccX9_number tw_884 tw_886 tp_16 (ci := 9) rfl (by decide) ⟨Nat.le_of_ble_eq_true rfl, Nat.le_of_ble_eq_true rfl, Nat.le_of_ble_eq_true rfl, Nat.le_of_ble_eq_true rfl⟩ dX9_makeD_83 rfl k_s0 rfl (Nat.le_of_ble_eq_true rfl) rfl rfl (fun hr83 => ?_)
  refine a_aload_n dX9_makeD_86 rfl rfl ?_
  refine a_iconst (v := nI 1) dX9_makeD_87 rfl (by decide) ?_
  refine a_aload_n dX9_makeD_88 rfl rfl ?_
  refine a_iload_n dX9_makeD_89 rfl rfl ?_
  refine a_iconst (v := nI 2) dX9_makeD_90 rfl (by decide) ?_
  refine a_iadd dX9_makeD_91 rfl ?_
  refine a_iald dX9_makeD_92 rfl k_v1 hf (fun hf => ?_)
  refine a_ishl dX9_makeD_93 rfl ?_
  refine a_iconst (v := nI 1) dX9_makeD_94 rfl (by decide) ?_
  refine a_isub dX9_makeD_95 rfl ?_
  refine a_iconst (v := nI 1) dX9_makeD_96 rfl (by decide) ?_
  obtain ⟨r97, h97, hc97, hf⟩ := am_bind_some hf
  refine a_callV (As := [.int ((am_shl (nI 1) (h83.1 v1 (v3 + (nI 2)).toNatClampNeg)) - (nI 1)), .int (nI 1)]) (r1 := (none, Γ, h97)) (sX9_number l k_v0 hc97) ccX9_number tw_884 tw_886 tp_16 (ci := 9) rfl (by decide) ⟨Nat.le_of_ble_eq_true rfl, Nat.le_of_ble_eq_true rfl, Nat.le_of_ble_eq_true rfl, Nat.le_of_ble_eq_true rfl⟩ dX9_makeD_97 rfl k_v0 rfl (Nat.le_of_ble_eq_true rfl) rfl rfl (fun hr97 => ?_)
  refine a_aload_n dX9_makeD_100 rfl rfl ?_
  refine a_aload_n dX9_makeD_101 rfl rfl ?_
  refine a_iload_n dX9_makeD_102 rfl rfl ?_
  refine a_iconst (v := nI 4) dX9_makeD_103 rfl (by decide) ?_
  refine a_iadd dX9_makeD_104 rfl ?_
  refine a_iald dX9_makeD_105 rfl k_v1 hf (fun hf => ?_)
  refine a_iconst (v := nI 2) dX9_makeD_106 rfl (by decide) ?_
  obtain ⟨r107, h107, hc107, hf⟩ := am_bind_some hf
  refine a_callV (As := [.int (h97.1 v1 (v3 + (nI 4)).toNatClampNeg), .int (nI 2)]) (r1 := (none, Γ, h107)) (sX9_number l k_v0 hc107) ccX9_number tw_884 tw_886 tp_16 (ci := 9) rfl (by decide) ⟨Nat.le_of_ble_eq_true rfl, Nat.le_of_ble_eq_true rfl, Nat.le_of_ble_eq_true rfl, Nat.le_of_ble_eq_true rfl⟩ dX9_makeD_107 rfl k_v0 rfl (Nat.le_of_ble_eq_true rfl) rfl rfl (fun hr107 => ?_)
  refine a_iconst (v := nI 0) dX9_makeD_110 rfl (by decide) ?_
  refine a_istore (L' := [some (.ref v0), some (.ref v1), some (.int v2), some (.int v3), none, some (.int (nI 0))]) dX9_makeD_111 rfl (Nat.le_of_ble_eq_true rfl) (fun _ _ hv => by cases hv) rfl ?_
  exact AW.weak (wX9_makeD_113 l hk2 am_fuel v0 v1 v2 v3 (nI 0) h107 _ k_v0 _ k_v1 hf) ⟨rfl, ⟨rfl, ⟨rfl, ⟨rfl, ⟨rfl, trivial⟩⟩⟩⟩⟩
set_option maxRecDepth 100000 in
set_option maxHeartbeats 4000000 in
theorem wX9_makeD_62 (l : Launch) {Γ : Gm} {r : Unit} {h' : AH} {k2 : Nat → Nat → Int32 → AH → Option (Unit × AH)} (hk2 : ∀ v0 v1 v2 (h : AH), ∀ n_v0 : Nat, Γ[v0]? = some (9, n_v0) → ∀ n_v1 : Nat, Γ[v1]? = some (10, n_v1) → k2 v0 v1 v2 h = some (r, h') → AW l mX9_makeD (none, Γ, h') 0 0 2 [some (.ref v0), some (.ref v1), some (.int v2), none, none, none] [] Γ h) (v0 : Nat) (v1 : Nat) (v2 : Int32) (v3 : Int32) (v4 : Int32) (s0 : Nat) (s1 : Int32) (s2 : Int32) (h : AH) : ∀ n_v0 : Nat, Γ[v0]? = some (9, n_v0) → ∀ n_v1 : Nat, Γ[v1]? = some (10, n_v1) → ∀ n_s0 : Nat, Γ[s0]? = some (9, n_s0) → fX9_makeD_62 Γ k2 v0 v1 v2 v3 v4 s0 s1 s2 h = some (r, h') → AW l mX9_makeD (none, Γ, h') 0 0 62 [some (.ref v0), some (.ref v1), some (.int v2), some (.int v3), some (.int v4), none] [.int s2, .int s1, .ref s0] Γ h := by
  intro n_v0 k_v0 n_v1 k_v1 n_s0 k_s0 hf
  unfold fX9_makeD_62 at hf
  refine a_iadd dX9_makeD_62 rfl ?_
  refine a_iconst (v := nI 1) dX9_makeD_63 rfl (by decide) ?_
  obtain ⟨r64, h64, hc64, hf⟩ := am_bind_some hf
  refine a_callV (As := [.int (s1 + s2), .int (nI 1)]) (r1 := (none, Γ, h64)) (sX9_number l k_s0 hc64) ccX9_number tw_884 tw_886 tp_16 (ci := 9) rfl (by decide) ⟨Nat.le_of_ble_eq_true rfl, Nat.le_of_ble_eq_true rfl, Nat.le_of_ble_eq_true rfl, Nat.le_of_ble_eq_true rfl⟩ dX9_makeD_64 rfl k_s0 rfl (Nat.le_of_ble_eq_true rfl) rfl rfl (fun hr64 => ?_)
  refine a_aload_n dX9_makeD_67 rfl rfl ?_
  refine a_iload dX9_makeD_68 rfl rfl ?_
  refine a_if_eq (t := 77) dX9_makeD_70 rfl rfl hf (fun _ hf => ?_) (fun _ hf => ?_)
  · refine a_aload_n dX9_makeD_77 rfl rfl ?_
    refine a_iload_n dX9_makeD_78 rfl rfl ?_
    refine a_iconst (v := nI 1) dX9_makeD_79 rfl (by decide) ?_
    refine a_iadd dX9_makeD_80 rfl ?_
    refine a_iald dX9_makeD_81 rfl k_v1 hf (fun hf => ?_)
    exact AW.weak (wX9_makeD_82 l hk2 v0 v1 v2 v3 v0 (h64.1 v1 (v3 + (nI 1)).toNatClampNeg) h64 _ k_v0 _ k_v1 _ k_v0 hf) ⟨rfl, ⟨rfl, ⟨rfl, ⟨rfl, trivial⟩⟩⟩⟩
  refine a_iconst (v := nI 0) dX9_makeD_73 rfl (by decide) ?_
  refine a_goto (t := 82) dX9_makeD_74 rfl ?_
  exact AW.weak (wX9_makeD_82 l hk2 v0 v1 v2 v3 v0 (nI 0) h64 _ k_v0 _ k_v1 _ k_v0 hf) ⟨rfl, ⟨rfl, ⟨rfl, ⟨rfl, trivial⟩⟩⟩⟩
set_option maxRecDepth 100000 in
set_option maxHeartbeats 4000000 in
theorem wX9_makeD_35 (l : Launch) {Γ : Gm} {r : Unit} {h' : AH} {k2 : Nat → Nat → Int32 → AH → Option (Unit × AH)} (hk2 : ∀ v0 v1 v2 (h : AH), ∀ n_v0 : Nat, Γ[v0]? = some (9, n_v0) → ∀ n_v1 : Nat, Γ[v1]? = some (10, n_v1) → k2 v0 v1 v2 h = some (r, h') → AW l mX9_makeD (none, Γ, h') 0 0 2 [some (.ref v0), some (.ref v1), some (.int v2), none, none, none] [] Γ h) (v0 : Nat) (v1 : Nat) (v2 : Int32) (v3 : Int32) (s0 : Int32) (h : AH) : ∀ n_v0 : Nat, Γ[v0]? = some (9, n_v0) → ∀ n_v1 : Nat, Γ[v1]? = some (10, n_v1) → fX9_makeD_35 Γ k2 v0 v1 v2 v3 s0 h = some (r, h') → AW l mX9_makeD (none, Γ, h') 0 0 35 [some (.ref v0), some (.ref v1), some (.int v2), some (.int v3), none, none] [.int s0] Γ h := by
  intro n_v0 k_v0 n_v1 k_v1 hf
  unfold fX9_makeD_35 at hf
  refine a_istore (L' := [some (.ref v0), some (.ref v1), some (.int v2), some (.int v3), some (.int s0), none]) dX9_makeD_35 rfl (Nat.le_of_ble_eq_true rfl) (fun _ _ hv => by cases hv; rfl) rfl ?_
  refine a_aload_n dX9_makeD_37 rfl rfl ?_
  refine a_aload_n dX9_makeD_38 rfl rfl ?_
  refine a_iload_n dX9_makeD_39 rfl rfl ?_
  refine a_iald dX9_makeD_40 rfl k_v1 hf (fun hf => ?_)
  refine a_iconst (v := nI 3) dX9_makeD_41 rfl (by decide) ?_
  obtain ⟨r42, h42, hc42, hf⟩ := am_bind_some hf
  refine a_callV (As := [.int (h.1 v1 v3.toNatClampNeg), .int (nI 3)]) (r1 := (none, Γ, h42)) (sX9_number l k_v0 hc42) ccX9_number tw_884 tw_886 tp_16 (ci := 9) rfl (by decide) ⟨Nat.le_of_ble_eq_true rfl, Nat.le_of_ble_eq_true rfl, Nat.le_of_ble_eq_true rfl, Nat.le_of_ble_eq_true rfl⟩ dX9_makeD_42 rfl k_v0 rfl (Nat.le_of_ble_eq_true rfl) rfl rfl (fun hr42 => ?_)
  refine a_aload_n dX9_makeD_45 rfl rfl ?_
  refine a_aload_n dX9_makeD_46 rfl rfl ?_
  refine a_iload_n dX9_makeD_47 rfl rfl ?_
  refine a_iconst (v := nI 3) dX9_makeD_48 rfl (by decide) ?_
  refine a_iadd dX9_makeD_49 rfl ?_
  refine a_iald dX9_makeD_50 rfl k_v1 hf (fun hf => ?_)
  refine a_iload dX9_makeD_51 rfl rfl ?_
  refine a_if_eq (t := 61) dX9_makeD_53 rfl rfl hf (fun _ hf => ?_) (fun _ hf => ?_)
  · refine a_iconst (v := nI 0) dX9_makeD_61 rfl (by decide) ?_
    exact AW.weak (wX9_makeD_62 l hk2 v0 v1 v2 v3 s0 v0 (h42.1 v1 (v3 + (nI 3)).toNatClampNeg) (nI 0) h42 _ k_v0 _ k_v1 _ k_v0 hf) ⟨rfl, ⟨rfl, ⟨rfl, ⟨rfl, ⟨rfl, trivial⟩⟩⟩⟩⟩
  refine a_bipush (v := nI 16) dX9_makeD_56 rfl (by decide) ?_
  refine a_goto (t := 62) dX9_makeD_58 rfl ?_
  exact AW.weak (wX9_makeD_62 l hk2 v0 v1 v2 v3 s0 v0 (h42.1 v1 (v3 + (nI 3)).toNatClampNeg) (nI 16) h42 _ k_v0 _ k_v1 _ k_v0 hf) ⟨rfl, ⟨rfl, ⟨rfl, ⟨rfl, ⟨rfl, trivial⟩⟩⟩⟩⟩
set_option maxRecDepth 100000 in
set_option maxHeartbeats 4000000 in
theorem wX9_makeD_2 (l : Launch) {Γ : Gm} {r : Unit} {h' : AH} : ∀ (z : Nat) (v0 : Nat) (v1 : Nat) (v2 : Int32) (h : AH), ∀ n_v0 : Nat, Γ[v0]? = some (9, n_v0) → ∀ n_v1 : Nat, Γ[v1]? = some (10, n_v1) → fX9_makeD_2 Γ z v0 v1 v2 h = some (r, h') → AW l mX9_makeD (none, Γ, h') 0 0 2 [some (.ref v0), some (.ref v1), some (.int v2), none, none, none] [] Γ h := by
  intro z
  induction z with
  | zero => intro v0 v1 v2 h n_v0 k_v0 n_v1 k_v1 hf; cases hf
  | succ z ih =>
    intro v0 v1 v2 h n_v0 k_v0 n_v1 k_v1 hf
    unfold fX9_makeD_2 at hf
    refine a_iload_n dX9_makeD_2 rfl rfl ?_
    refine a_aload_n dX9_makeD_3 rfl rfl ?_
    refine a_sipush (v := nI 1001) dX9_makeD_4 rfl (by decide) ?_
    refine a_iald dX9_makeD_7 rfl k_v1 hf (fun hf => ?_)
    refine a_icmp_ge (t := 154) dX9_makeD_8 rfl rfl hf (fun _ hf => ?_) (fun _ hf => ?_)
    · cases hf
      exact a_ret dX9_makeD_154 rfl rfl rfl
    refine a_sipush (v := nI 1002) dX9_makeD_11 rfl (by decide) ?_
    refine a_iload_n dX9_makeD_14 rfl rfl ?_
    refine a_bipush (v := nI 60) dX9_makeD_15 rfl (by decide) ?_
    refine a_imul dX9_makeD_17 rfl ?_
    refine a_iadd dX9_makeD_18 rfl ?_
    refine a_nmI hf (fun x19 hf => ?_)
    refine a_istore_n (L' := [some (.ref v0), some (.ref v1), some (.int v2), some (.int x19), none, none]) dX9_makeD_19 rfl (Nat.le_of_ble_eq_true rfl) (fun _ _ hv => by cases hv; rfl) rfl ?_
    refine a_aload_n dX9_makeD_20 rfl rfl ?_
    refine a_iload_n dX9_makeD_21 rfl rfl ?_
    refine a_iconst (v := nI 1) dX9_makeD_22 rfl (by decide) ?_
    refine a_iadd dX9_makeD_23 rfl ?_
    refine a_iald dX9_makeD_24 rfl k_v1 hf (fun hf => ?_)
    refine a_bipush (v := (-2 : Int32)) dX9_makeD_25 rfl (by decide) ?_
    refine a_icmp_ne (t := 34) dX9_makeD_27 rfl rfl hf (fun _ hf => ?_) (fun _ hf => ?_)
    · refine a_iconst (v := nI 1) dX9_makeD_30 rfl (by decide) ?_
      refine a_goto (t := 35) dX9_makeD_31 rfl ?_
      exact AW.weak (wX9_makeD_35 l ih v0 v1 v2 x19 (nI 1) h _ k_v0 _ k_v1 hf) ⟨rfl, ⟨rfl, ⟨rfl, ⟨rfl, trivial⟩⟩⟩⟩
    refine a_iconst (v := nI 0) dX9_makeD_34 rfl (by decide) ?_
    exact AW.weak (wX9_makeD_35 l ih v0 v1 v2 x19 (nI 0) h _ k_v0 _ k_v1 hf) ⟨rfl, ⟨rfl, ⟨rfl, ⟨rfl, trivial⟩⟩⟩⟩
set_option maxRecDepth 100000 in
set_option maxHeartbeats 4000000 in
theorem sX9_makeD (l : Launch) {Γ : Gm} {h h' : AH} {v0 : Nat} {v1 : Nat} {r : Unit} {n_v0 : Nat} (k_v0 : Γ[v0]? = some (9, n_v0)) {n_v1 : Nat} (k_v1 : Γ[v1]? = some (10, n_v1)) (hf : fX9_makeD Γ v0 v1 h = some (r, h')) : AR l yX9_makeD mX9_makeD [.ref v0, .ref v1] Γ h (none, Γ, h') := by
  refine AR.of [some (.ref v0), some (.ref v1), none, none, none, none] (by decide +kernel) rfl (fun z => by cases z) (Nat.le_of_ble_eq_true rfl) ⟨rfl, ⟨rfl, trivial⟩⟩ ?_
  unfold fX9_makeD at hf
  refine a_iconst (v := nI 0) dX9_makeD_0 rfl (by decide) ?_
  refine a_istore_n (L' := [some (.ref v0), some (.ref v1), some (.int (nI 0)), none, none, none]) dX9_makeD_1 rfl (Nat.le_of_ble_eq_true rfl) (fun _ _ hv => by cases hv; rfl) rfl ?_
  exact AW.weak (wX9_makeD_2 l am_fuel v0 v1 (nI 0) h _ k_v0 _ k_v1 hf) ⟨rfl, ⟨rfl, ⟨rfl, trivial⟩⟩⟩
set_option maxRecDepth 100000 in
set_option maxHeartbeats 4000000 in
theorem sX9_weightOf (l : Launch) {Γ : Gm} {h h' : AH} {v0 : Nat} {v1 : Nat} {r : Int32} {n_v0 : Nat} (k_v0 : Γ[v0]? = some (9, n_v0)) {n_v1 : Nat} (k_v1 : Γ[v1]? = some (10, n_v1)) (hf : fX9_weightOf Γ v0 v1 h = some (r, h')) : AR l yX9_weightOf mX9_weightOf [.ref v0, .ref v1] Γ h (some (.int r), Γ, h') := by
  refine AR.of [some (.ref v0), some (.ref v1)] (by decide +kernel) rfl (fun z => by cases z) (Nat.le_of_ble_eq_true rfl) ⟨rfl, ⟨rfl, trivial⟩⟩ ?_
  unfold fX9_weightOf at hf
  refine a_aload_n dX9_weightOf_0 rfl rfl ?_
  refine a_iconst (v := nI 0) dX9_weightOf_1 rfl (by decide) ?_
  refine a_putI fp_RX9_100 dX9_weightOf_2 rfl k_v0 rfl hf (fun h2 hf => ?_)
  refine a_aload_n dX9_weightOf_5 rfl rfl ?_
  refine a_aload_n dX9_weightOf_6 rfl rfl ?_
  obtain ⟨r7, h7, hc7, hf⟩ := am_bind_some hf
  refine a_callV (As := [.ref v1]) (r1 := (none, Γ, h7)) (sX9_makeB l k_v0 k_v1 hc7) ccX9_makeB tw_915 tw_917 tp_21 (ci := 9) rfl (by decide) ⟨Nat.le_of_ble_eq_true rfl, Nat.le_of_ble_eq_true rfl, Nat.le_of_ble_eq_true rfl, Nat.le_of_ble_eq_true rfl⟩ dX9_weightOf_7 rfl k_v0 rfl (Nat.le_of_ble_eq_true rfl) rfl rfl (fun hr7 => ?_)
  refine a_aload_n dX9_weightOf_10 rfl rfl ?_
  refine a_aload_n dX9_weightOf_11 rfl rfl ?_
  obtain ⟨r12, h12, hc12, hf⟩ := am_bind_some hf
  refine a_callV (As := [.ref v1]) (r1 := (none, Γ, h12)) (sX9_makeD l k_v0 k_v1 hc12) ccX9_makeD tw_888 tw_890 tp_17 (ci := 9) rfl (by decide) ⟨Nat.le_of_ble_eq_true rfl, Nat.le_of_ble_eq_true rfl, Nat.le_of_ble_eq_true rfl, Nat.le_of_ble_eq_true rfl⟩ dX9_weightOf_12 rfl k_v0 rfl (Nat.le_of_ble_eq_true rfl) rfl rfl (fun hr12 => ?_)
  refine a_aload_n dX9_weightOf_15 rfl rfl ?_
  refine a_getI fl_RX9_100 dX9_weightOf_16 rfl k_v0 rfl ?_
  cases hf
  exact a_iret dX9_weightOf_19 rfl rfl rfl (by decide)
set_option maxRecDepth 100000 in
set_option maxHeartbeats 4000000 in
theorem wX9_print_68 (l : Launch) {Γ : Gm} {r : Int64} {h' : AH} : ∀ (z : Nat) (v0 : Nat) (v1 : Int64) (v3 : Int32) (h : AH), ∀ n_v0 : Nat, Γ[v0]? = some (9, n_v0) → fX9_print_68 Γ z v0 v1 v3 h = some (r, h') → AW l mX9_print (some (.long r), Γ, h') 0 0 68 [some (.ref v0), some (.long v1), none, some (.int v3)] [] Γ h := by
  intro z
  induction z with
  | zero => intro v0 v1 v3 h n_v0 k_v0 hf; cases hf
  | succ z ih =>
    intro v0 v1 v3 h n_v0 k_v0 hf
    unfold fX9_print_68 at hf
    refine a_iload_n dX9_print_68 rfl rfl ?_
    refine a_aload_n dX9_print_69 rfl rfl ?_
    refine a_getI fl_RX9_100 dX9_print_70 rfl k_v0 rfl ?_
    refine a_icmp_ge (t := 96) dX9_print_73 rfl rfl hf (fun _ hf => ?_) (fun _ hf => ?_)
    · refine a_lload_n dX9_print_96 rfl rfl ?_
      cases hf
      exact a_lret dX9_print_97 rfl rfl rfl
    refine a_lload_n dX9_print_76 rfl rfl ?_
    refine a_aload_n dX9_print_77 rfl rfl ?_
    refine a_getR fl_RX9_65 dX9_print_78 rfl k_v0 rfl (by decide) hf (fun b78 n_b78 _ k_b78 hf => ?_)
    refine a_iload_n dX9_print_81 rfl rfl ?_
    refine a_iald dX9_print_82 rfl k_b78 hf (fun hf => ?_)
    refine a_i2l dX9_print_83 rfl ?_
    refine a_lxor dX9_print_84 rfl ?_
    refine a_ldc2 (v := (1099511628211 : Int64)) dX9_print_85 rfl tw_893 ?_
    refine a_lmul dX9_print_88 rfl ?_
    refine a_nmL hf (fun x89 hf => ?_)
    refine a_lstore_n (L' := [some (.ref v0), some (.long x89), none, some (.int v3)]) dX9_print_89 rfl (Nat.le_of_ble_eq_true rfl) (fun _ _ hv => by cases hv; rfl) rfl ?_
    refine a_iinc (v := v3 + nI 1) (L' := [some (.ref v0), some (.long x89), none, some (.int (v3 + nI 1))]) dX9_print_90 rfl rfl rfl (Nat.le_of_ble_eq_true rfl) (fun _ _ hv => by cases hv) rfl ?_
    refine a_goto (t := 68) dX9_print_93 rfl ?_
    exact AW.weak (ih v0 x89 (v3 + nI 1) h _ k_v0 hf) ⟨rfl, ⟨rfl, ⟨rfl, trivial⟩⟩⟩
set_option maxRecDepth 100000 in
set_option maxHeartbeats 4000000 in
theorem wX9_print_16 (l : Launch) {Γ : Gm} {r : Int64} {h' : AH} : ∀ (z : Nat) (v0 : Nat) (v1 : Int32) (h : AH), ∀ n_v0 : Nat, Γ[v0]? = some (9, n_v0) → fX9_print_16 Γ z v0 v1 h = some (r, h') → AW l mX9_print (some (.long r), Γ, h') 0 0 16 [some (.ref v0), some (.int v1), none, none] [] Γ h := by
  intro z
  induction z with
  | zero => intro v0 v1 h n_v0 k_v0 hf; cases hf
  | succ z ih =>
    intro v0 v1 h n_v0 k_v0 hf
    unfold fX9_print_16 at hf
    refine a_iload_n dX9_print_16 rfl rfl ?_
    refine a_aload_n dX9_print_17 rfl rfl ?_
    refine a_getI fl_RX9_82 dX9_print_18 rfl k_v0 rfl ?_
    refine a_icmp_ge (t := 41) dX9_print_21 rfl rfl hf (fun _ hf => ?_) (fun _ hf => ?_)
    · refine a_aload_n dX9_print_41 rfl rfl ?_
      refine a_aload_n dX9_print_42 rfl rfl ?_
      refine a_getR fl_RX9_32 dX9_print_43 rfl k_v0 rfl (by decide) hf (fun b43 n_b43 _ k_b43 hf => ?_)
      refine a_sipush (v := nI 1000) dX9_print_46 rfl (by decide) ?_
      refine a_iald dX9_print_49 rfl k_b43 hf (fun hf => ?_)
      refine a_iconst (v := nI 3) dX9_print_50 rfl (by decide) ?_
      obtain ⟨r51, h51, hc51, hf⟩ := am_bind_some hf
      refine a_callV (As := [.int (h.1 b43 (nI 1000).toNatClampNeg), .int (nI 3)]) (r1 := (none, Γ, h51)) (sX9_number l k_v0 hc51) ccX9_number tw_884 tw_886 tp_16 (ci := 9) rfl (by decide) ⟨Nat.le_of_ble_eq_true rfl, Nat.le_of_ble_eq_true rfl, Nat.le_of_ble_eq_true rfl, Nat.le_of_ble_eq_true rfl⟩ dX9_print_51 rfl k_v0 rfl (Nat.le_of_ble_eq_true rfl) rfl rfl (fun hr51 => ?_)
      refine a_aload_n dX9_print_54 rfl rfl ?_
      refine a_aload_n dX9_print_55 rfl rfl ?_
      refine a_getR fl_RX9_32 dX9_print_56 rfl k_v0 rfl (by decide) hf (fun b56 n_b56 _ k_b56 hf => ?_)
      obtain ⟨r59, h59, hc59, hf⟩ := am_bind_some hf
      refine a_callV (As := [.ref b56]) (r1 := (none, Γ, h59)) (sX9_makeD l k_v0 k_b56 hc59) ccX9_makeD tw_888 tw_890 tp_17 (ci := 9) rfl (by decide) ⟨Nat.le_of_ble_eq_true rfl, Nat.le_of_ble_eq_true rfl, Nat.le_of_ble_eq_true rfl, Nat.le_of_ble_eq_true rfl⟩ dX9_print_59 rfl k_v0 rfl (Nat.le_of_ble_eq_true rfl) rfl rfl (fun hr59 => ?_)
      refine a_ldc2 (v := (-3750763034362895579 : Int64)) dX9_print_62 rfl tw_892 ?_
      refine a_lstore_n (L' := [some (.ref v0), some (.long ((-3750763034362895579 : Int64))), none, none]) dX9_print_65 rfl (Nat.le_of_ble_eq_true rfl) (fun _ _ hv => by cases hv; rfl) rfl ?_
      refine a_iconst (v := nI 0) dX9_print_66 rfl (by decide) ?_
      refine a_istore_n (L' := [some (.ref v0), some (.long ((-3750763034362895579 : Int64))), none, some (.int (nI 0))]) dX9_print_67 rfl (Nat.le_of_ble_eq_true rfl) (fun _ _ hv => by cases hv) rfl ?_
      exact AW.weak (wX9_print_68 l am_fuel v0 ((-3750763034362895579 : Int64)) (nI 0) h59 _ k_v0 hf) ⟨rfl, ⟨rfl, ⟨rfl, trivial⟩⟩⟩
    refine a_aload_n dX9_print_24 rfl rfl ?_
    refine a_aload_n dX9_print_25 rfl rfl ?_
    refine a_getR fl_RX9_32 dX9_print_26 rfl k_v0 rfl (by decide) hf (fun b26 n_b26 _ k_b26 hf => ?_)
    refine a_iload_n dX9_print_29 rfl rfl ?_
    refine a_iald dX9_print_30 rfl k_b26 hf (fun hf => ?_)
    refine a_iconst (v := nI 1) dX9_print_31 rfl (by decide) ?_
    obtain ⟨r32, h32, hc32, hf⟩ := am_bind_some hf
    refine a_callV (As := [.int (h.1 b26 v1.toNatClampNeg), .int (nI 1)]) (r1 := (none, Γ, h32)) (sX9_number l k_v0 hc32) ccX9_number tw_884 tw_886 tp_16 (ci := 9) rfl (by decide) ⟨Nat.le_of_ble_eq_true rfl, Nat.le_of_ble_eq_true rfl, Nat.le_of_ble_eq_true rfl, Nat.le_of_ble_eq_true rfl⟩ dX9_print_32 rfl k_v0 rfl (Nat.le_of_ble_eq_true rfl) rfl rfl (fun hr32 => ?_)
    refine a_iinc (v := v1 + nI 1) (L' := [some (.ref v0), some (.int (v1 + nI 1)), none, none]) dX9_print_35 rfl rfl rfl (Nat.le_of_ble_eq_true rfl) (fun _ _ hv => by cases hv; rfl) rfl ?_
    refine a_goto (t := 16) dX9_print_38 rfl ?_
    exact AW.weak (ih v0 (v1 + nI 1) h32 _ k_v0 hf) ⟨rfl, ⟨rfl, trivial⟩⟩
set_option maxRecDepth 100000 in
set_option maxHeartbeats 4000000 in
theorem sX9_print (l : Launch) {Γ : Gm} {h h' : AH} {v0 : Nat} {r : Int64} {n_v0 : Nat} (k_v0 : Γ[v0]? = some (9, n_v0)) (hf : fX9_print Γ v0 h = some (r, h')) : AR l yX9_print mX9_print [.ref v0] Γ h (some (.long r), Γ, h') := by
  refine AR.of [some (.ref v0), none, none, none] (by decide +kernel) rfl (fun z => by cases z) (Nat.le_of_ble_eq_true rfl) ⟨rfl, trivial⟩ ?_
  unfold fX9_print at hf
  refine a_aload_n dX9_print_0 rfl rfl ?_
  refine a_getI fl_RX9_82 dX9_print_1 rfl k_v0 rfl ?_
  refine a_if_ne (t := 9) dX9_print_4 rfl rfl hf (fun _ hf => ?_) (fun _ hf => ?_)
  · refine a_lconst (v := (0 : Int64)) dX9_print_7 rfl (by decide) ?_
    cases hf
    exact a_lret dX9_print_8 rfl rfl rfl
  refine a_aload_n dX9_print_9 rfl rfl ?_
  refine a_iconst (v := nI 0) dX9_print_10 rfl (by decide) ?_
  refine a_putI fp_RX9_100 dX9_print_11 rfl k_v0 rfl hf (fun h11 hf => ?_)
  refine a_iconst (v := nI 0) dX9_print_14 rfl (by decide) ?_
  refine a_istore_n (L' := [some (.ref v0), some (.int (nI 0)), none, none]) dX9_print_15 rfl (Nat.le_of_ble_eq_true rfl) (fun _ _ hv => by cases hv; rfl) rfl ?_
  exact AW.weak (wX9_print_16 l am_fuel v0 (nI 0) h11 _ k_v0 hf) ⟨rfl, ⟨rfl, trivial⟩⟩
set_option maxRecDepth 100000 in
set_option maxHeartbeats 4000000 in
theorem sX9_open (l : Launch) {Γ : Gm} {h h' : AH} {v0 : Nat} {v1 : Int32} {r : Unit} {n_v0 : Nat} (k_v0 : Γ[v0]? = some (9, n_v0)) (hf : fX9_open Γ v0 v1 h = some (r, h')) : AR l yX9_open mX9_open [.ref v0, .int v1] Γ h (none, Γ, h') := by
  refine AR.of [some (.ref v0), some (.int v1)] (by decide +kernel) rfl (fun z => by cases z) (Nat.le_of_ble_eq_true rfl) ⟨rfl, ⟨rfl, trivial⟩⟩ ?_
  unfold fX9_open at hf
  refine a_aload_n dX9_open_0 rfl rfl ?_
  refine a_iload_n dX9_open_1 rfl rfl ?_
  refine a_iconst (v := nI 4) dX9_open_2 rfl (by decide) ?_
  obtain ⟨r3, h3, hc3, hf⟩ := am_bind_some hf
  refine a_callV (As := [.int v1, .int (nI 4)]) (r1 := (none, Γ, h3)) (sX9_number l k_v0 hc3) ccX9_number tw_884 tw_886 tp_16 (ci := 9) rfl (by decide) ⟨Nat.le_of_ble_eq_true rfl, Nat.le_of_ble_eq_true rfl, Nat.le_of_ble_eq_true rfl, Nat.le_of_ble_eq_true rfl⟩ dX9_open_3 rfl k_v0 rfl (Nat.le_of_ble_eq_true rfl) rfl rfl (fun hr3 => ?_)
  refine a_aload_n dX9_open_6 rfl rfl ?_
  refine a_iconst (v := nI 0) dX9_open_7 rfl (by decide) ?_
  refine a_iconst (v := nI 4) dX9_open_8 rfl (by decide) ?_
  obtain ⟨r9, h9, hc9, hf⟩ := am_bind_some hf
  refine a_callV (As := [.int (nI 0), .int (nI 4)]) (r1 := (none, Γ, h9)) (sX9_number l k_v0 hc9) ccX9_number tw_884 tw_886 tp_16 (ci := 9) rfl (by decide) ⟨Nat.le_of_ble_eq_true rfl, Nat.le_of_ble_eq_true rfl, Nat.le_of_ble_eq_true rfl, Nat.le_of_ble_eq_true rfl⟩ dX9_open_9 rfl k_v0 rfl (Nat.le_of_ble_eq_true rfl) rfl rfl (fun hr9 => ?_)
  refine a_aload_n dX9_open_12 rfl rfl ?_
  refine a_getR fl_RX9_56 dX9_open_13 rfl k_v0 rfl (by decide) hf (fun b13 n_b13 _ k_b13 hf => ?_)
  refine a_aload_n dX9_open_16 rfl rfl ?_
  refine a_getI fl_RX9_117 dX9_open_17 rfl k_v0 rfl ?_
  refine a_iload_n dX9_open_20 rfl rfl ?_
  refine a_iast dX9_open_21 rfl k_b13 hf (fun h21 hf => ?_)
  refine a_aload_n dX9_open_22 rfl rfl ?_
  refine a_getR fl_RX9_59 dX9_open_23 rfl k_v0 rfl (by decide) hf (fun b23 n_b23 _ k_b23 hf => ?_)
  refine a_aload_n dX9_open_26 rfl rfl ?_
  refine a_getI fl_RX9_117 dX9_open_27 rfl k_v0 rfl ?_
  refine a_aload_n dX9_open_30 rfl rfl ?_
  refine a_getI fl_RX9_100 dX9_open_31 rfl k_v0 rfl ?_
  refine a_iast dX9_open_34 rfl k_b23 hf (fun h34 hf => ?_)
  cases hf
  exact a_ret dX9_open_35 rfl rfl rfl
set_option maxRecDepth 100000 in
set_option maxHeartbeats 4000000 in
theorem wX9_patch_2 (l : Launch) {Γ : Gm} {r : Unit} {h' : AH} : ∀ (z : Nat) (v0 : Nat) (v1 : Int32) (v2 : Int32) (v3 : Int32) (h : AH), ∀ n_v0 : Nat, Γ[v0]? = some (9, n_v0) → fX9_patch_2 Γ z v0 v1 v2 v3 h = some (r, h') → AW l mX9_patch (none, Γ, h') 0 0 2 [some (.ref v0), some (.int v1), some (.int v2), some (.int v3)] [] Γ h := by
  intro z
  induction z with
  | zero => intro v0 v1 v2 v3 h n_v0 k_v0 hf; cases hf
  | succ z ih =>
    intro v0 v1 v2 v3 h n_v0 k_v0 hf
    unfold fX9_patch_2 at hf
    refine a_iload_n dX9_patch_2 rfl rfl ?_
    refine a_iconst (v := nI 4) dX9_patch_3 rfl (by decide) ?_
    refine a_icmp_ge (t := 34) dX9_patch_4 rfl rfl hf (fun _ hf => ?_) (fun _ hf => ?_)
    · cases hf
      exact a_ret dX9_patch_34 rfl rfl rfl
    refine a_aload_n dX9_patch_7 rfl rfl ?_
    refine a_getR fl_RX9_65 dX9_patch_8 rfl k_v0 rfl (by decide) hf (fun b8 n_b8 _ k_b8 hf => ?_)
    refine a_iload_n dX9_patch_11 rfl rfl ?_
    refine a_iload_n dX9_patch_12 rfl rfl ?_
    refine a_iadd dX9_patch_13 rfl ?_
    refine a_iload_n dX9_patch_14 rfl rfl ?_
    refine a_bipush (v := nI 24) dX9_patch_15 rfl (by decide) ?_
    refine a_bipush (v := nI 8) dX9_patch_17 rfl (by decide) ?_
    refine a_iload_n dX9_patch_19 rfl rfl ?_
    refine a_imul dX9_patch_20 rfl ?_
    refine a_isub dX9_patch_21 rfl ?_
    refine a_ishr dX9_patch_22 rfl ?_
    refine a_sipush (v := nI 255) dX9_patch_23 rfl (by decide) ?_
    refine a_iand dX9_patch_26 rfl ?_
    refine a_iast dX9_patch_27 rfl k_b8 hf (fun h27 hf => ?_)
    refine a_iinc (v := v3 + nI 1) (L' := [some (.ref v0), some (.int v1), some (.int v2), some (.int (v3 + nI 1))]) dX9_patch_28 rfl rfl rfl (Nat.le_of_ble_eq_true rfl) (fun _ _ hv => by cases hv; rfl) rfl ?_
    refine a_goto (t := 2) dX9_patch_31 rfl ?_
    exact AW.weak (ih v0 v1 v2 (v3 + nI 1) h27 _ k_v0 hf) ⟨rfl, ⟨rfl, ⟨rfl, ⟨rfl, trivial⟩⟩⟩⟩
set_option maxRecDepth 100000 in
set_option maxHeartbeats 4000000 in
theorem sX9_patch (l : Launch) {Γ : Gm} {h h' : AH} {v0 : Nat} {v1 : Int32} {v2 : Int32} {r : Unit} {n_v0 : Nat} (k_v0 : Γ[v0]? = some (9, n_v0)) (hf : fX9_patch Γ v0 v1 v2 h = some (r, h')) : AR l yX9_patch mX9_patch [.ref v0, .int v1, .int v2] Γ h (none, Γ, h') := by
  refine AR.of [some (.ref v0), some (.int v1), some (.int v2), none] (by decide +kernel) rfl (fun z => by cases z) (Nat.le_of_ble_eq_true rfl) ⟨rfl, ⟨rfl, ⟨rfl, trivial⟩⟩⟩ ?_
  unfold fX9_patch at hf
  refine a_iconst (v := nI 0) dX9_patch_0 rfl (by decide) ?_
  refine a_istore_n (L' := [some (.ref v0), some (.int v1), some (.int v2), some (.int (nI 0))]) dX9_patch_1 rfl (Nat.le_of_ble_eq_true rfl) (fun _ _ hv => by cases hv; rfl) rfl ?_
  exact AW.weak (wX9_patch_2 l am_fuel v0 v1 v2 (nI 0) h _ k_v0 hf) ⟨rfl, ⟨rfl, ⟨rfl, ⟨rfl, trivial⟩⟩⟩⟩
set_option maxRecDepth 100000 in
set_option maxHeartbeats 4000000 in
theorem wX9_close_54 (l : Launch) {Γ : Gm} {r : Unit} {h' : AH} (v0 : Nat) (h : AH) : ∀ n_v0 : Nat, Γ[v0]? = some (9, n_v0) → fX9_close_54 Γ v0 h = some (r, h') → AW l mX9_close (none, Γ, h') 0 0 54 [some (.ref v0), none] [] Γ h := by
  intro n_v0 k_v0 hf
  unfold fX9_close_54 at hf
  refine a_aload_n dX9_close_54 rfl rfl ?_
  refine a_dup dX9_close_55 rfl rfl ?_
  refine a_getI fl_RX9_117 dX9_close_56 rfl k_v0 rfl ?_
  refine a_iconst (v := nI 1) dX9_close_59 rfl (by decide) ?_
  refine a_iadd dX9_close_60 rfl ?_
  refine a_putI fp_RX9_117 dX9_close_61 rfl k_v0 rfl hf (fun h61 hf => ?_)
  cases hf
  exact a_ret dX9_close_64 rfl rfl rfl
set_option maxRecDepth 100000 in
set_option maxHeartbeats 4000000 in
theorem sX9_close (l : Launch) {Γ : Gm} {h h' : AH} {v0 : Nat} {r : Unit} {n_v0 : Nat} (k_v0 : Γ[v0]? = some (9, n_v0)) (hf : fX9_close Γ v0 h = some (r, h')) : AR l yX9_close mX9_close [.ref v0] Γ h (none, Γ, h') := by
  refine AR.of [some (.ref v0), none] (by decide +kernel) rfl (fun z => by cases z) (Nat.le_of_ble_eq_true rfl) ⟨rfl, trivial⟩ ?_
  unfold fX9_close at hf
  refine a_aload_n dX9_close_0 rfl rfl ?_
  refine a_getI fl_RX9_100 dX9_close_1 rfl k_v0 rfl ?_
  refine a_aload_n dX9_close_4 rfl rfl ?_
  refine a_getR fl_RX9_59 dX9_close_5 rfl k_v0 rfl (by decide) hf (fun b5 n_b5 _ k_b5 hf => ?_)
  refine a_aload_n dX9_close_8 rfl rfl ?_
  refine a_getI fl_RX9_117 dX9_close_9 rfl k_v0 rfl ?_
  refine a_iald dX9_close_12 rfl k_b5 hf (fun hf => ?_)
  refine a_isub dX9_close_13 rfl ?_
  refine a_nmI hf (fun x14 hf => ?_)
  refine a_istore_n (L' := [some (.ref v0), some (.int x14)]) dX9_close_14 rfl (Nat.le_of_ble_eq_true rfl) (fun _ _ hv => by cases hv; rfl) rfl ?_
  refine a_aload_n dX9_close_15 rfl rfl ?_
  refine a_getR fl_RX9_62 dX9_close_16 rfl k_v0 rfl (by decide) hf (fun b16 n_b16 _ k_b16 hf => ?_)
  refine a_aload_n dX9_close_19 rfl rfl ?_
  refine a_getI fl_RX9_117 dX9_close_20 rfl k_v0 rfl ?_
  refine a_iload_n dX9_close_23 rfl rfl ?_
  refine a_iast dX9_close_24 rfl k_b16 hf (fun h24 hf => ?_)
  refine a_aload_n dX9_close_25 rfl rfl ?_
  refine a_aload_n dX9_close_26 rfl rfl ?_
  refine a_getR fl_RX9_59 dX9_close_27 rfl k_v0 rfl (by decide) hf (fun b27 n_b27 _ k_b27 hf => ?_)
  refine a_aload_n dX9_close_30 rfl rfl ?_
  refine a_getI fl_RX9_117 dX9_close_31 rfl k_v0 rfl ?_
  refine a_iald dX9_close_34 rfl k_b27 hf (fun hf => ?_)
  refine a_iconst (v := nI 4) dX9_close_35 rfl (by decide) ?_
  refine a_isub dX9_close_36 rfl ?_
  refine a_iload_n dX9_close_37 rfl rfl ?_
  obtain ⟨r38, h38, hc38, hf⟩ := am_bind_some hf
  refine a_callV (As := [.int ((h24.1 b27 (h24.1 v0 25).toNatClampNeg) - (nI 4)), .int x14]) (r1 := (none, Γ, h38)) (sX9_patch l k_v0 hc38) ccX9_patch tw_909 tw_911 tp_20 (ci := 9) rfl (by decide) ⟨Nat.le_of_ble_eq_true rfl, Nat.le_of_ble_eq_true rfl, Nat.le_of_ble_eq_true rfl, Nat.le_of_ble_eq_true rfl⟩ dX9_close_38 rfl k_v0 rfl (Nat.le_of_ble_eq_true rfl) rfl rfl (fun hr38 => ?_)
  refine a_iload_n dX9_close_41 rfl rfl ?_
  refine a_iconst (v := nI 2) dX9_close_42 rfl (by decide) ?_
  refine a_irem dX9_close_43 rfl (by decide) ?_
  refine a_iconst (v := nI 1) dX9_close_44 rfl (by decide) ?_
  refine a_icmp_ne (t := 54) dX9_close_45 rfl rfl hf (fun _ hf => ?_) (fun _ hf => ?_)
  · refine a_aload_n dX9_close_48 rfl rfl ?_
    refine a_iconst (v := nI 0) dX9_close_49 rfl (by decide) ?_
    refine a_iconst (v := nI 1) dX9_close_50 rfl (by decide) ?_
    obtain ⟨r51, h51, hc51, hf⟩ := am_bind_some hf
    refine a_callV (As := [.int (nI 0), .int (nI 1)]) (r1 := (none, Γ, h51)) (sX9_number l k_v0 hc51) ccX9_number tw_884 tw_886 tp_16 (ci := 9) rfl (by decide) ⟨Nat.le_of_ble_eq_true rfl, Nat.le_of_ble_eq_true rfl, Nat.le_of_ble_eq_true rfl, Nat.le_of_ble_eq_true rfl⟩ dX9_close_51 rfl k_v0 rfl (Nat.le_of_ble_eq_true rfl) rfl rfl (fun hr51 => ?_)
    exact AW.weak (wX9_close_54 l v0 h51 _ k_v0 hf) ⟨rfl, trivial⟩
  exact AW.weak (wX9_close_54 l v0 h38 _ k_v0 hf) ⟨rfl, trivial⟩
