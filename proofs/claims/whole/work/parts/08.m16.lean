set_option maxRecDepth 100000 in
set_option maxHeartbeats 4000000 in
theorem wX9_readB_44 (l : Launch) {Γ : Gm} {r : Int32} {h' : AH} : ∀ (z : Nat) (v0 : Nat) (v2 : Int32) (v3 : Int32) (v4 : Int32) (h : AH), ∀ n_v0 : Nat, Γ[v0]? = some (9, n_v0) → fX9_readB_44 Γ z v0 v2 v3 v4 h = some (r, h') → AW l mX9_readB (some (.int r), Γ, h') 0 0 44 [some (.ref v0), none, some (.int v2), some (.int v3), some (.int v4), none] [] Γ h := by
  intro z
  induction z with
  | zero => intro v0 v2 v3 v4 h n_v0 k_v0 hf; cases hf
  | succ z ih =>
    intro v0 v2 v3 v4 h n_v0 k_v0 hf
    unfold fX9_readB_44 at hf
    refine a_iload dX9_readB_44 rfl rfl ?_
    refine a_iload_n dX9_readB_46 rfl rfl ?_
    refine a_icmp_ge (t := 166) dX9_readB_47 rfl rfl hf (fun _ hf => ?_) (fun _ hf => ?_)
    · refine a_iconst (v := nI 1) dX9_readB_166 rfl (by decide) ?_
      cases hf
      exact a_zret dX9_readB_167 rfl rfl rfl (by decide)
    refine a_aload_n dX9_readB_50 rfl rfl ?_
    refine a_getR fl_RX9_9 dX9_readB_51 rfl k_v0 rfl (by decide) hf (fun b51 n_b51 _ k_b51 hf => ?_)
    refine a_iload dX9_readB_54 rfl rfl ?_
    refine a_iald dX9_readB_56 rfl k_b51 hf (fun hf => ?_)
    refine a_if_eq (t := 106) dX9_readB_57 rfl rfl hf (fun _ hf => ?_) (fun _ hf => ?_)
    · refine a_iload dX9_readB_106 rfl rfl ?_
      refine a_iconst (v := nI 1) dX9_readB_108 rfl (by decide) ?_
      refine a_iadd dX9_readB_109 rfl ?_
      refine a_iload_n dX9_readB_110 rfl rfl ?_
      refine a_icmp_ne (t := 122) dX9_readB_111 rfl rfl hf (fun _ hf => ?_) (fun _ hf => ?_)
      · refine a_aload_n dX9_readB_114 rfl rfl ?_
        refine a_bipush (v := nI 7) dX9_readB_115 rfl (by decide) ?_
        refine a_iload_n dX9_readB_117 rfl rfl ?_
        obtain ⟨r118, h118, hc118, hf⟩ := am_bind_some hf
        refine a_callV (As := [.int (nI 7), .int v2]) (r1 := (some (.int r118), Γ, h118)) (sX9_wrong l k_v0 hc118) ccX9_wrong tw_928 tw_930 tp_23 (ci := 9) rfl (by decide) ⟨Nat.le_of_ble_eq_true rfl, Nat.le_of_ble_eq_true rfl, Nat.le_of_ble_eq_true rfl, Nat.le_of_ble_eq_true rfl⟩ dX9_readB_118 rfl k_v0 rfl (Nat.le_of_ble_eq_true rfl) rfl rfl (fun hr118 => ?_)
        cases hf
        exact a_zret dX9_readB_121 rfl rfl rfl (hr118.2 rfl _ rfl)
      refine a_aload_n dX9_readB_122 rfl rfl ?_
      refine a_getR fl_RX9_9 dX9_readB_123 rfl k_v0 rfl (by decide) hf (fun b123 n_b123 _ k_b123 hf => ?_)
      refine a_iload dX9_readB_126 rfl rfl ?_
      refine a_iconst (v := nI 1) dX9_readB_128 rfl (by decide) ?_
      refine a_iadd dX9_readB_129 rfl ?_
      refine a_iald dX9_readB_130 rfl k_b123 hf (fun hf => ?_)
      refine a_iconst (v := nI 1) dX9_readB_131 rfl (by decide) ?_
      refine a_iadd dX9_readB_132 rfl ?_
      refine a_nmI hf (fun x133 hf => ?_)
      refine a_istore (L' := [some (.ref v0), none, some (.int v2), some (.int v3), some (.int v4), some (.int x133)]) dX9_readB_133 rfl (Nat.le_of_ble_eq_true rfl) (fun _ _ hv => by cases hv; rfl) rfl ?_
      refine a_iload_n dX9_readB_135 rfl rfl ?_
      refine a_iload dX9_readB_136 rfl rfl ?_
      refine a_iadd dX9_readB_138 rfl ?_
      refine a_aload_n dX9_readB_139 rfl rfl ?_
      refine a_getI fl_RX9_82 dX9_readB_140 rfl k_v0 rfl ?_
      refine a_icmp_le (t := 155) dX9_readB_143 rfl rfl hf (fun _ hf => ?_) (fun _ hf => ?_)
      · refine a_iload_n dX9_readB_155 rfl rfl ?_
        refine a_iload dX9_readB_156 rfl rfl ?_
        refine a_iadd dX9_readB_158 rfl ?_
        refine a_nmI hf (fun x159 hf => ?_)
        refine a_istore_n (L' := [some (.ref v0), none, some (.int v2), some (.int x159), some (.int v4), some (.int x133)]) dX9_readB_159 rfl (Nat.le_of_ble_eq_true rfl) (fun _ _ hv => by cases hv; rfl) rfl ?_
        refine a_iinc (v := v4 + nI 2) (L' := [some (.ref v0), none, some (.int v2), some (.int x159), some (.int (v4 + nI 2)), some (.int x133)]) dX9_readB_160 rfl rfl rfl (Nat.le_of_ble_eq_true rfl) (fun _ _ hv => by cases hv; rfl) rfl ?_
        refine a_goto (t := 44) dX9_readB_163 rfl ?_
        exact AW.weak (ih v0 v2 x159 (v4 + nI 2) h _ k_v0 hf) ⟨rfl, ⟨rfl, ⟨rfl, ⟨rfl, trivial⟩⟩⟩⟩
      refine a_aload_n dX9_readB_146 rfl rfl ?_
      refine a_bipush (v := nI 7) dX9_readB_147 rfl (by decide) ?_
      refine a_iload dX9_readB_149 rfl rfl ?_
      obtain ⟨r151, h151, hc151, hf⟩ := am_bind_some hf
      refine a_callV (As := [.int (nI 7), .int v4]) (r1 := (some (.int r151), Γ, h151)) (sX9_wrong l k_v0 hc151) ccX9_wrong tw_928 tw_930 tp_23 (ci := 9) rfl (by decide) ⟨Nat.le_of_ble_eq_true rfl, Nat.le_of_ble_eq_true rfl, Nat.le_of_ble_eq_true rfl, Nat.le_of_ble_eq_true rfl⟩ dX9_readB_151 rfl k_v0 rfl (Nat.le_of_ble_eq_true rfl) rfl rfl (fun hr151 => ?_)
      cases hf
      exact a_zret dX9_readB_154 rfl rfl rfl (hr151.2 rfl _ rfl)
    refine a_iload_n dX9_readB_60 rfl rfl ?_
    refine a_aload_n dX9_readB_61 rfl rfl ?_
    refine a_getI fl_RX9_82 dX9_readB_62 rfl k_v0 rfl ?_
    refine a_icmp_ne (t := 77) dX9_readB_65 rfl rfl hf (fun _ hf => ?_) (fun _ hf => ?_)
    · refine a_aload_n dX9_readB_68 rfl rfl ?_
      refine a_bipush (v := nI 7) dX9_readB_69 rfl (by decide) ?_
      refine a_iload dX9_readB_71 rfl rfl ?_
      obtain ⟨r73, h73, hc73, hf⟩ := am_bind_some hf
      refine a_callV (As := [.int (nI 7), .int v4]) (r1 := (some (.int r73), Γ, h73)) (sX9_wrong l k_v0 hc73) ccX9_wrong tw_928 tw_930 tp_23 (ci := 9) rfl (by decide) ⟨Nat.le_of_ble_eq_true rfl, Nat.le_of_ble_eq_true rfl, Nat.le_of_ble_eq_true rfl, Nat.le_of_ble_eq_true rfl⟩ dX9_readB_73 rfl k_v0 rfl (Nat.le_of_ble_eq_true rfl) rfl rfl (fun hr73 => ?_)
      cases hf
      exact a_zret dX9_readB_76 rfl rfl rfl (hr73.2 rfl _ rfl)
    refine a_aload_n dX9_readB_77 rfl rfl ?_
    refine a_getR fl_RX9_35 dX9_readB_78 rfl k_v0 rfl (by decide) hf (fun b78 n_b78 _ k_b78 hf => ?_)
    refine a_iload_n dX9_readB_81 rfl rfl ?_
    refine a_aload_n dX9_readB_82 rfl rfl ?_
    refine a_getR fl_RX9_29 dX9_readB_83 rfl k_v0 rfl (by decide) hf (fun b83 n_b83 _ k_b83 hf => ?_)
    refine a_iload_n dX9_readB_86 rfl rfl ?_
    refine a_iald dX9_readB_87 rfl k_b83 hf (fun hf => ?_)
    refine a_aload_n dX9_readB_88 rfl rfl ?_
    refine a_getR fl_RX9_9 dX9_readB_89 rfl k_v0 rfl (by decide) hf (fun b89 n_b89 _ k_b89 hf => ?_)
    refine a_iload dX9_readB_92 rfl rfl ?_
    refine a_iald dX9_readB_94 rfl k_b89 hf (fun hf => ?_)
    refine a_ixor dX9_readB_95 rfl ?_
    refine a_iast dX9_readB_96 rfl k_b78 hf (fun h96 hf => ?_)
    refine a_iinc (v := v3 + nI 1) (L' := [some (.ref v0), none, some (.int v2), some (.int (v3 + nI 1)), some (.int v4), none]) dX9_readB_97 rfl rfl rfl (Nat.le_of_ble_eq_true rfl) (fun _ _ hv => by cases hv; rfl) rfl ?_
    refine a_iinc (v := v4 + nI 1) (L' := [some (.ref v0), none, some (.int v2), some (.int (v3 + nI 1)), some (.int (v4 + nI 1)), none]) dX9_readB_100 rfl rfl rfl (Nat.le_of_ble_eq_true rfl) (fun _ _ hv => by cases hv; rfl) rfl ?_
    refine a_goto (t := 44) dX9_readB_103 rfl ?_
    exact AW.weak (ih v0 v2 (v3 + nI 1) (v4 + nI 1) h96 _ k_v0 hf) ⟨rfl, ⟨rfl, ⟨rfl, ⟨rfl, trivial⟩⟩⟩⟩
set_option maxRecDepth 100000 in
set_option maxHeartbeats 4000000 in
theorem wX9_readB_32 (l : Launch) {Γ : Gm} {r : Int32} {h' : AH} {k2 : Nat → Int32 → Int32 → Int32 → AH → Option (Int32 × AH)} (hk2 : ∀ v0 v1 v2 v3 (h : AH), ∀ n_v0 : Nat, Γ[v0]? = some (9, n_v0) → k2 v0 v1 v2 v3 h = some (r, h') → AW l mX9_readB (some (.int r), Γ, h') 0 0 2 [some (.ref v0), some (.int v1), some (.int v2), some (.int v3), none, none] [] Γ h) (v0 : Nat) (v1 : Int32) (v2 : Int32) (v3 : Int32) (s0 : Nat) (s1 : Int32) (s2 : Int32) (h : AH) : ∀ n_v0 : Nat, Γ[v0]? = some (9, n_v0) → ∀ n_s0 : Nat, Γ[s0]? = some (10, n_s0) → fX9_readB_32 Γ k2 v0 v1 v2 v3 s0 s1 s2 h = some (r, h') → AW l mX9_readB (some (.int r), Γ, h') 0 0 32 [some (.ref v0), some (.int v1), some (.int v2), some (.int v3), none, none] [.int s2, .int s1, .ref s0] Γ h := by
  intro n_v0 k_v0 n_s0 k_s0 hf
  unfold fX9_readB_32 at hf
  refine a_iast dX9_readB_32 rfl k_s0 hf (fun h32 hf => ?_)
  refine a_iinc (v := v3 + nI 1) (L' := [some (.ref v0), some (.int v1), some (.int v2), some (.int (v3 + nI 1)), none, none]) dX9_readB_33 rfl rfl rfl (Nat.le_of_ble_eq_true rfl) (fun _ _ hv => by cases hv; rfl) rfl ?_
  refine a_goto (t := 2) dX9_readB_36 rfl ?_
  exact AW.weak (hk2 v0 v1 v2 (v3 + nI 1) h32 _ k_v0 hf) ⟨rfl, ⟨rfl, ⟨rfl, ⟨rfl, trivial⟩⟩⟩⟩
set_option maxRecDepth 100000 in
set_option maxHeartbeats 4000000 in
theorem wX9_readB_2 (l : Launch) {Γ : Gm} {r : Int32} {h' : AH} : ∀ (z : Nat) (v0 : Nat) (v1 : Int32) (v2 : Int32) (v3 : Int32) (h : AH), ∀ n_v0 : Nat, Γ[v0]? = some (9, n_v0) → fX9_readB_2 Γ z v0 v1 v2 v3 h = some (r, h') → AW l mX9_readB (some (.int r), Γ, h') 0 0 2 [some (.ref v0), some (.int v1), some (.int v2), some (.int v3), none, none] [] Γ h := by
  intro z
  induction z with
  | zero => intro v0 v1 v2 v3 h n_v0 k_v0 hf; cases hf
  | succ z ih =>
    intro v0 v1 v2 v3 h n_v0 k_v0 hf
    unfold fX9_readB_2 at hf
    refine a_iload_n dX9_readB_2 rfl rfl ?_
    refine a_sipush (v := nI 1000) dX9_readB_3 rfl (by decide) ?_
    refine a_icmp_ge (t := 39) dX9_readB_6 rfl rfl hf (fun _ hf => ?_) (fun _ hf => ?_)
    · refine a_iconst (v := nI 0) dX9_readB_39 rfl (by decide) ?_
      refine a_istore_n (L' := [some (.ref v0), some (.int v1), some (.int v2), some (.int (nI 0)), none, none]) dX9_readB_40 rfl (Nat.le_of_ble_eq_true rfl) (fun _ _ hv => by cases hv; rfl) rfl ?_
      refine a_iload_n dX9_readB_41 rfl rfl ?_
      refine a_istore (L' := [some (.ref v0), some (.int v1), some (.int v2), some (.int (nI 0)), some (.int v1), none]) dX9_readB_42 rfl (Nat.le_of_ble_eq_true rfl) (fun _ _ hv => by cases hv; rfl) rfl ?_
      exact AW.weak (wX9_readB_44 l am_fuel v0 v2 (nI 0) v1 h _ k_v0 hf) ⟨rfl, ⟨rfl, ⟨rfl, ⟨rfl, trivial⟩⟩⟩⟩
    refine a_aload_n dX9_readB_9 rfl rfl ?_
    refine a_getR fl_RX9_35 dX9_readB_10 rfl k_v0 rfl (by decide) hf (fun b10 n_b10 _ k_b10 hf => ?_)
    refine a_iload_n dX9_readB_13 rfl rfl ?_
    refine a_iload_n dX9_readB_14 rfl rfl ?_
    refine a_aload_n dX9_readB_15 rfl rfl ?_
    refine a_getI fl_RX9_82 dX9_readB_16 rfl k_v0 rfl ?_
    refine a_icmp_ge (t := 31) dX9_readB_19 rfl rfl hf (fun _ hf => ?_) (fun _ hf => ?_)
    · refine a_iconst (v := nI 0) dX9_readB_31 rfl (by decide) ?_
      exact AW.weak (wX9_readB_32 l ih v0 v1 v2 v3 b10 v3 (nI 0) h _ k_v0 _ k_b10 hf) ⟨rfl, ⟨rfl, ⟨rfl, ⟨rfl, trivial⟩⟩⟩⟩
    refine a_aload_n dX9_readB_22 rfl rfl ?_
    refine a_getR fl_RX9_29 dX9_readB_23 rfl k_v0 rfl (by decide) hf (fun b23 n_b23 _ k_b23 hf => ?_)
    refine a_iload_n dX9_readB_26 rfl rfl ?_
    refine a_iald dX9_readB_27 rfl k_b23 hf (fun hf => ?_)
    refine a_goto (t := 32) dX9_readB_28 rfl ?_
    exact AW.weak (wX9_readB_32 l ih v0 v1 v2 v3 b10 v3 (h.1 b23 v3.toNatClampNeg) h _ k_v0 _ k_b10 hf) ⟨rfl, ⟨rfl, ⟨rfl, ⟨rfl, trivial⟩⟩⟩⟩
set_option maxRecDepth 100000 in
set_option maxHeartbeats 4000000 in
theorem sX9_readB (l : Launch) {Γ : Gm} {h h' : AH} {v0 : Nat} {v1 : Int32} {v2 : Int32} {r : Int32} {n_v0 : Nat} (k_v0 : Γ[v0]? = some (9, n_v0)) (hf : fX9_readB Γ v0 v1 v2 h = some (r, h')) : AR l yX9_readB mX9_readB [.ref v0, .int v1, .int v2] Γ h (some (.int r), Γ, h') := by
  refine AR.of [some (.ref v0), some (.int v1), some (.int v2), none, none, none] (by decide +kernel) rfl (fun z => by cases z) (Nat.le_of_ble_eq_true rfl) ⟨rfl, ⟨rfl, ⟨rfl, trivial⟩⟩⟩ ?_
  unfold fX9_readB at hf
  refine a_iconst (v := nI 0) dX9_readB_0 rfl (by decide) ?_
  refine a_istore_n (L' := [some (.ref v0), some (.int v1), some (.int v2), some (.int (nI 0)), none, none]) dX9_readB_1 rfl (Nat.le_of_ble_eq_true rfl) (fun _ _ hv => by cases hv; rfl) rfl ?_
  exact AW.weak (wX9_readB_2 l am_fuel v0 v1 v2 (nI 0) h _ k_v0 hf) ⟨rfl, ⟨rfl, ⟨rfl, ⟨rfl, trivial⟩⟩⟩⟩
set_option maxRecDepth 100000 in
set_option maxHeartbeats 4000000 in
theorem wX9_readC_57 (l : Launch) {Γ : Gm} {r : Int32} {h' : AH} {k21 : Nat → Int32 → Int32 → AH → Option (Int32 × AH)} (hk21 : ∀ v0 v2 v4 (h : AH), ∀ n_v0 : Nat, Γ[v0]? = some (9, n_v0) → k21 v0 v2 v4 h = some (r, h') → AW l mX9_readC (some (.int r), Γ, h') 0 0 21 [some (.ref v0), none, some (.int v2), none, some (.int v4)] [] Γ h) (v0 : Nat) (v2 : Int32) (v4 : Int32) (s0 : Nat) (s1 : Int32) (s2 : Int32) (h : AH) : ∀ n_v0 : Nat, Γ[v0]? = some (9, n_v0) → ∀ n_s0 : Nat, Γ[s0]? = some (10, n_s0) → fX9_readC_57 Γ k21 v0 v2 v4 s0 s1 s2 h = some (r, h') → AW l mX9_readC (some (.int r), Γ, h') 0 0 57 [some (.ref v0), none, some (.int v2), none, some (.int v4)] [.int s2, .int s1, .ref s0] Γ h := by
  intro n_v0 k_v0 n_s0 k_s0 hf
  unfold fX9_readC_57 at hf
  refine a_iast dX9_readC_57 rfl k_s0 hf (fun h57 hf => ?_)
  refine a_iinc (v := v4 + nI 1) (L' := [some (.ref v0), none, some (.int v2), none, some (.int (v4 + nI 1))]) dX9_readC_58 rfl rfl rfl (Nat.le_of_ble_eq_true rfl) (fun _ _ hv => by cases hv) rfl ?_
  refine a_goto (t := 21) dX9_readC_61 rfl ?_
  exact AW.weak (hk21 v0 v2 (v4 + nI 1) h57 _ k_v0 hf) ⟨rfl, ⟨rfl, ⟨rfl, trivial⟩⟩⟩
set_option maxRecDepth 100000 in
set_option maxHeartbeats 4000000 in
theorem wX9_readC_21 (l : Launch) {Γ : Gm} {r : Int32} {h' : AH} : ∀ (z : Nat) (v0 : Nat) (v2 : Int32) (v4 : Int32) (h : AH), ∀ n_v0 : Nat, Γ[v0]? = some (9, n_v0) → fX9_readC_21 Γ z v0 v2 v4 h = some (r, h') → AW l mX9_readC (some (.int r), Γ, h') 0 0 21 [some (.ref v0), none, some (.int v2), none, some (.int v4)] [] Γ h := by
  intro z
  induction z with
  | zero => intro v0 v2 v4 h n_v0 k_v0 hf; cases hf
  | succ z ih =>
    intro v0 v2 v4 h n_v0 k_v0 hf
    unfold fX9_readC_21 at hf
    refine a_iload dX9_readC_21 rfl rfl ?_
    refine a_sipush (v := nI 1000) dX9_readC_23 rfl (by decide) ?_
    refine a_icmp_ge (t := 64) dX9_readC_26 rfl rfl hf (fun _ hf => ?_) (fun _ hf => ?_)
    · refine a_iconst (v := nI 1) dX9_readC_64 rfl (by decide) ?_
      cases hf
      exact a_zret dX9_readC_65 rfl rfl rfl (by decide)
    refine a_aload_n dX9_readC_29 rfl rfl ?_
    refine a_getR fl_RX9_35 dX9_readC_30 rfl k_v0 rfl (by decide) hf (fun b30 n_b30 _ k_b30 hf => ?_)
    refine a_iload dX9_readC_33 rfl rfl ?_
    refine a_iload dX9_readC_35 rfl rfl ?_
    refine a_aload_n dX9_readC_37 rfl rfl ?_
    refine a_getI fl_RX9_82 dX9_readC_38 rfl k_v0 rfl ?_
    refine a_icmp_ge (t := 56) dX9_readC_41 rfl rfl hf (fun _ hf => ?_) (fun _ hf => ?_)
    · refine a_iconst (v := nI 0) dX9_readC_56 rfl (by decide) ?_
      exact AW.weak (wX9_readC_57 l ih v0 v2 v4 b30 v4 (nI 0) h _ k_v0 _ k_b30 hf) ⟨rfl, ⟨rfl, ⟨rfl, trivial⟩⟩⟩
    refine a_aload_n dX9_readC_44 rfl rfl ?_
    refine a_getR fl_RX9_9 dX9_readC_45 rfl k_v0 rfl (by decide) hf (fun b45 n_b45 _ k_b45 hf => ?_)
    refine a_iload_n dX9_readC_48 rfl rfl ?_
    refine a_iload dX9_readC_49 rfl rfl ?_
    refine a_iadd dX9_readC_51 rfl ?_
    refine a_iald dX9_readC_52 rfl k_b45 hf (fun hf => ?_)
    refine a_goto (t := 57) dX9_readC_53 rfl ?_
    exact AW.weak (wX9_readC_57 l ih v0 v2 v4 b30 v4 (h.1 b45 (v2 + v4).toNatClampNeg) h _ k_v0 _ k_b30 hf) ⟨rfl, ⟨rfl, ⟨rfl, trivial⟩⟩⟩
set_option maxRecDepth 100000 in
set_option maxHeartbeats 4000000 in
theorem sX9_readC (l : Launch) {Γ : Gm} {h h' : AH} {v0 : Nat} {v1 : Int32} {v2 : Int32} {v3 : Int32} {r : Int32} {n_v0 : Nat} (k_v0 : Γ[v0]? = some (9, n_v0)) (hf : fX9_readC Γ v0 v1 v2 v3 h = some (r, h')) : AR l yX9_readC mX9_readC [.ref v0, .int v1, .int v2, .int v3] Γ h (some (.int r), Γ, h') := by
  refine AR.of [some (.ref v0), some (.int v1), some (.int v2), some (.int v3), none] (by decide +kernel) rfl (fun z => by cases z) (Nat.le_of_ble_eq_true rfl) ⟨rfl, ⟨rfl, ⟨rfl, ⟨rfl, trivial⟩⟩⟩⟩ ?_
  unfold fX9_readC at hf
  refine a_iload_n dX9_readC_0 rfl rfl ?_
  refine a_aload_n dX9_readC_1 rfl rfl ?_
  refine a_getI fl_RX9_82 dX9_readC_2 rfl k_v0 rfl ?_
  refine a_icmp_eq (t := 18) dX9_readC_5 rfl rfl hf (fun _ hf => ?_) (fun _ hf => ?_)
  · refine a_iconst (v := nI 0) dX9_readC_18 rfl (by decide) ?_
    refine a_istore (L' := [some (.ref v0), some (.int v1), some (.int v2), some (.int v3), some (.int (nI 0))]) dX9_readC_19 rfl (Nat.le_of_ble_eq_true rfl) (fun _ _ hv => by cases hv; rfl) rfl ?_
    exact AW.weak (wX9_readC_21 l am_fuel v0 v2 (nI 0) h _ k_v0 hf) ⟨rfl, ⟨rfl, ⟨rfl, trivial⟩⟩⟩
  refine a_aload_n dX9_readC_8 rfl rfl ?_
  refine a_bipush (v := nI 7) dX9_readC_9 rfl (by decide) ?_
  refine a_iload_n dX9_readC_11 rfl rfl ?_
  refine a_iconst (v := nI 4) dX9_readC_12 rfl (by decide) ?_
  refine a_iadd dX9_readC_13 rfl ?_
  obtain ⟨r14, h14, hc14, hf⟩ := am_bind_some hf
  refine a_callV (As := [.int (nI 7), .int (v1 + (nI 4))]) (r1 := (some (.int r14), Γ, h14)) (sX9_wrong l k_v0 hc14) ccX9_wrong tw_928 tw_930 tp_23 (ci := 9) rfl (by decide) ⟨Nat.le_of_ble_eq_true rfl, Nat.le_of_ble_eq_true rfl, Nat.le_of_ble_eq_true rfl, Nat.le_of_ble_eq_true rfl⟩ dX9_readC_14 rfl k_v0 rfl (Nat.le_of_ble_eq_true rfl) rfl rfl (fun hr14 => ?_)
  cases hf
  exact a_zret dX9_readC_17 rfl rfl rfl (hr14.2 rfl _ rfl)
