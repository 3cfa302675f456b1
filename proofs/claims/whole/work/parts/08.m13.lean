set_option maxRecDepth 100000 in
set_option maxHeartbeats 4000000 in
theorem wX9_call_97 (l : Launch) {Γ : Gm} {r : Int32} {h' : AH} : ∀ (z : Nat) (v0 : Nat) (v1 : Int32) (v2 : Int32) (v3 : Int32) (v4 : Int32) (v5 : Int32) (v6 : Int32) (h : AH), ∀ n_v0 : Nat, Γ[v0]? = some (9, n_v0) → fX9_call_97 Γ z v0 v1 v2 v3 v4 v5 v6 h = some (r, h') → AW l mX9_call (some (.int r), Γ, h') 0 0 97 [some (.ref v0), some (.int v1), some (.int v2), some (.int v3), some (.int v4), some (.int v5), some (.int v6)] [] Γ h := by
  intro z
  induction z with
  | zero => intro v0 v1 v2 v3 v4 v5 v6 h n_v0 k_v0 hf; cases hf
  | succ z ih =>
    intro v0 v1 v2 v3 v4 v5 v6 h n_v0 k_v0 hf
    unfold fX9_call_97 at hf
    refine a_iload dX9_call_97 rfl rfl ?_
    refine a_bipush (v := (60 : Int32)) dX9_call_99 rfl (by decide) ?_
    refine a_icmp_ge (t := 121) dX9_call_101 rfl rfl hf (fun _ hf => ?_) (fun _ hf => ?_)
    · refine a_aload_n dX9_call_121 rfl rfl ?_
      refine a_getR fl_RX9_32 dX9_call_122 rfl k_v0 rfl (by decide) hf (fun b122 n_b122 _ k_b122 hf => ?_)
      refine a_iload dX9_call_125 rfl rfl ?_
      refine a_aload_n dX9_call_127 rfl rfl ?_
      refine a_getR fl_RX9_32 dX9_call_128 rfl k_v0 rfl (by decide) hf (fun b128 n_b128 _ k_b128 hf => ?_)
      refine a_sipush (v := (1000 : Int32)) dX9_call_131 rfl (by decide) ?_
      refine a_iald dX9_call_134 rfl k_b128 hf (fun hf => ?_)
      refine a_iast dX9_call_135 rfl k_b122 hf (fun h135 hf => ?_)
      refine a_aload_n dX9_call_136 rfl rfl ?_
      refine a_getR fl_RX9_32 dX9_call_137 rfl k_v0 rfl (by decide) hf (fun b137 n_b137 _ k_b137 hf => ?_)
      refine a_iload dX9_call_140 rfl rfl ?_
      refine a_iconst (v := (1 : Int32)) dX9_call_142 rfl (by decide) ?_
      refine a_iadd dX9_call_143 rfl ?_
      refine a_iload_n dX9_call_144 rfl rfl ?_
      refine a_iast dX9_call_145 rfl k_b137 hf (fun h145 hf => ?_)
      refine a_aload_n dX9_call_146 rfl rfl ?_
      refine a_getR fl_RX9_32 dX9_call_147 rfl k_v0 rfl (by decide) hf (fun b147 n_b147 _ k_b147 hf => ?_)
      refine a_iload dX9_call_150 rfl rfl ?_
      refine a_iconst (v := (2 : Int32)) dX9_call_152 rfl (by decide) ?_
      refine a_iadd dX9_call_153 rfl ?_
      refine a_iload_n dX9_call_154 rfl rfl ?_
      refine a_iast dX9_call_155 rfl k_b147 hf (fun h155 hf => ?_)
      refine a_aload_n dX9_call_156 rfl rfl ?_
      refine a_getR fl_RX9_32 dX9_call_157 rfl k_v0 rfl (by decide) hf (fun b157 n_b157 _ k_b157 hf => ?_)
      refine a_iload dX9_call_160 rfl rfl ?_
      refine a_iconst (v := (3 : Int32)) dX9_call_162 rfl (by decide) ?_
      refine a_iadd dX9_call_163 rfl ?_
      refine a_iload dX9_call_164 rfl rfl ?_
      refine a_iast dX9_call_166 rfl k_b157 hf (fun h166 hf => ?_)
      refine a_aload_n dX9_call_167 rfl rfl ?_
      refine a_getR fl_RX9_32 dX9_call_168 rfl k_v0 rfl (by decide) hf (fun b168 n_b168 _ k_b168 hf => ?_)
      refine a_sipush (v := (1000 : Int32)) dX9_call_171 rfl (by decide) ?_
      refine a_iload_n dX9_call_174 rfl rfl ?_
      refine a_iast dX9_call_175 rfl k_b168 hf (fun h175 hf => ?_)
      refine a_aload_n dX9_call_176 rfl rfl ?_
      refine a_getR fl_RX9_32 dX9_call_177 rfl k_v0 rfl (by decide) hf (fun b177 n_b177 _ k_b177 hf => ?_)
      refine a_sipush (v := (1001 : Int32)) dX9_call_180 rfl (by decide) ?_
      refine a_iald dX9_call_183 rfl k_b177 hf (fun hf => ?_)
      cases hf
      exact a_iret dX9_call_184 rfl rfl rfl (by decide)
    refine a_aload_n dX9_call_104 rfl rfl ?_
    refine a_getR fl_RX9_32 dX9_call_105 rfl k_v0 rfl (by decide) hf (fun b105 n_b105 _ k_b105 hf => ?_)
    refine a_iload dX9_call_108 rfl rfl ?_
    refine a_iload dX9_call_110 rfl rfl ?_
    refine a_iadd dX9_call_112 rfl ?_
    refine a_iconst (v := (0 : Int32)) dX9_call_113 rfl (by decide) ?_
    refine a_iast dX9_call_114 rfl k_b105 hf (fun h114 hf => ?_)
    refine a_iinc (v := v6 + (1 : Int32)) (L' := [some (.ref v0), some (.int v1), some (.int v2), some (.int v3), some (.int v4), some (.int v5), some (.int (v6 + (1 : Int32)))]) dX9_call_115 rfl rfl rfl (Nat.le_of_ble_eq_true rfl) (fun _ _ hv => by cases hv; rfl) rfl ?_
    refine a_goto (t := 97) dX9_call_118 rfl ?_
    exact AW.weak (ih v0 v1 v2 v3 v4 v5 (v6 + (1 : Int32)) h114 _ k_v0 hf) ⟨rfl, ⟨rfl, ⟨rfl, ⟨rfl, ⟨rfl, ⟨rfl, ⟨rfl, trivial⟩⟩⟩⟩⟩⟩⟩
set_option maxRecDepth 100000 in
set_option maxHeartbeats 4000000 in
theorem wX9_call_37 (l : Launch) {Γ : Gm} {r : Int32} {h' : AH} (v0 : Nat) (v1 : Int32) (v2 : Int32) (v3 : Int32) (v4 : Int32) (h : AH) : ∀ n_v0 : Nat, Γ[v0]? = some (9, n_v0) → fX9_call_37 Γ v0 v1 v2 v3 v4 h = some (r, h') → AW l mX9_call (some (.int r), Γ, h') 0 0 37 [some (.ref v0), some (.int v1), some (.int v2), some (.int v3), some (.int v4), none, none] [] Γ h := by
  intro n_v0 k_v0 hf
  unfold fX9_call_37 at hf
  refine a_iload_n dX9_call_37 rfl rfl ?_
  refine a_iconst (v := (0 : Int32)) dX9_call_38 rfl (by decide) ?_
  refine a_bipush (v := (7 : Int32)) dX9_call_39 rfl (by decide) ?_
  obtain ⟨r41, h41, hc41, hf⟩ := am_bind_some hf
  refine a_callS (As := [.int v3, .int ((0 : Int32)), .int ((7 : Int32))]) (r1 := (some (.int r41), Γ, h41)) (sX9_outside l hc41) ccX9_outside tw_819 tw_820 ⟨Nat.le_of_ble_eq_true rfl, Nat.le_of_ble_eq_true rfl, Nat.le_of_ble_eq_true rfl, Nat.le_of_ble_eq_true rfl⟩ dX9_call_41 rfl rfl (Nat.le_of_ble_eq_true rfl) rfl rfl (fun hr41 => ?_)
  refine a_if_ne (t := 58) dX9_call_44 rfl rfl hf (fun _ hf => ?_) (fun _ hf => ?_)
  · refine a_iload dX9_call_47 rfl rfl ?_
    refine a_iconst (v := (0 : Int32)) dX9_call_49 rfl (by decide) ?_
    refine a_bipush (v := (15 : Int32)) dX9_call_50 rfl (by decide) ?_
    obtain ⟨r52, h52, hc52, hf⟩ := am_bind_some hf
    refine a_callS (As := [.int v4, .int ((0 : Int32)), .int ((15 : Int32))]) (r1 := (some (.int r52), Γ, h52)) (sX9_outside l hc52) ccX9_outside tw_819 tw_820 ⟨Nat.le_of_ble_eq_true rfl, Nat.le_of_ble_eq_true rfl, Nat.le_of_ble_eq_true rfl, Nat.le_of_ble_eq_true rfl⟩ dX9_call_52 rfl rfl (Nat.le_of_ble_eq_true rfl) rfl rfl (fun hr52 => ?_)
    refine a_if_eq (t := 60) dX9_call_55 rfl rfl hf (fun _ hf => ?_) (fun _ hf => ?_)
    · refine a_aload_n dX9_call_60 rfl rfl ?_
      refine a_getR fl_RX9_32 dX9_call_61 rfl k_v0 rfl (by decide) hf (fun b61 n_b61 _ k_b61 hf => ?_)
      refine a_sipush (v := (1001 : Int32)) dX9_call_64 rfl (by decide) ?_
      refine a_iald dX9_call_67 rfl k_b61 hf (fun hf => ?_)
      refine a_bipush (v := (20 : Int32)) dX9_call_68 rfl (by decide) ?_
      refine a_icmp_ne (t := 76) dX9_call_70 rfl rfl hf (fun _ hf => ?_) (fun _ hf => ?_)
      · refine a_bipush (v := (-3 : Int32)) dX9_call_73 rfl (by decide) ?_
        cases hf
        exact a_iret dX9_call_75 rfl rfl rfl (by decide)
      refine a_aload_n dX9_call_76 rfl rfl ?_
      refine a_getR fl_RX9_32 dX9_call_77 rfl k_v0 rfl (by decide) hf (fun b77 n_b77 _ k_b77 hf => ?_)
      refine a_sipush (v := (1001 : Int32)) dX9_call_80 rfl (by decide) ?_
      refine a_dup2 dX9_call_83 rfl rfl rfl ?_
      refine a_iald dX9_call_84 rfl k_b77 hf (fun hf => ?_)
      refine a_iconst (v := (1 : Int32)) dX9_call_85 rfl (by decide) ?_
      refine a_iadd dX9_call_86 rfl ?_
      refine a_iast dX9_call_87 rfl k_b77 hf (fun h87 hf => ?_)
      refine a_aload_n dX9_call_88 rfl rfl ?_
      obtain ⟨r89, h89, hc89, hf⟩ := am_bind_some hf
      refine a_callV (As := []) (r1 := (some (.int r89), Γ, h89)) (sX9_newest l k_v0 hc89) ccX9_newest tw_855 tw_857 tp_15 (ci := 9) rfl (by decide) ⟨Nat.le_of_ble_eq_true rfl, Nat.le_of_ble_eq_true rfl, Nat.le_of_ble_eq_true rfl, Nat.le_of_ble_eq_true rfl⟩ dX9_call_89 rfl k_v0 rfl (Nat.le_of_ble_eq_true rfl) rfl rfl (fun hr89 => ?_)
      refine a_istore (L' := [some (.ref v0), some (.int v1), some (.int v2), some (.int v3), some (.int v4), some (.int r89), none]) dX9_call_92 rfl (Nat.le_of_ble_eq_true rfl) (fun _ _ hv => by cases hv; rfl) rfl ?_
      refine a_iconst (v := (0 : Int32)) dX9_call_94 rfl (by decide) ?_
      refine a_istore (L' := [some (.ref v0), some (.int v1), some (.int v2), some (.int v3), some (.int v4), some (.int r89), some (.int ((0 : Int32)))]) dX9_call_95 rfl (Nat.le_of_ble_eq_true rfl) (fun _ _ hv => by cases hv; rfl) rfl ?_
      exact AW.weak (wX9_call_97 l am_fuel v0 v1 v2 v3 v4 r89 ((0 : Int32)) h89 _ k_v0 hf) ⟨rfl, ⟨rfl, ⟨rfl, ⟨rfl, ⟨rfl, ⟨rfl, ⟨rfl, trivial⟩⟩⟩⟩⟩⟩⟩
    refine a_iconst (v := (-1 : Int32)) dX9_call_58 rfl (by decide) ?_
    cases hf
    exact a_iret dX9_call_59 rfl rfl rfl (by decide)
  refine a_iconst (v := (-1 : Int32)) dX9_call_58 rfl (by decide) ?_
  cases hf
  exact a_iret dX9_call_59 rfl rfl rfl (by decide)
set_option maxRecDepth 100000 in
set_option maxHeartbeats 4000000 in
theorem sX9_call (l : Launch) {Γ : Gm} {h h' : AH} {v0 : Nat} {v1 : Int32} {v2 : Int32} {v3 : Int32} {v4 : Int32} {r : Int32} {n_v0 : Nat} (k_v0 : Γ[v0]? = some (9, n_v0)) (hf : fX9_call Γ v0 v1 v2 v3 v4 h = some (r, h')) : AR l yX9_call mX9_call [.ref v0, .int v1, .int v2, .int v3, .int v4] Γ h (some (.int r), Γ, h') := by
  refine AR.of [some (.ref v0), some (.int v1), some (.int v2), some (.int v3), some (.int v4), none, none] (by decide +kernel) rfl (fun z => by cases z) (Nat.le_of_ble_eq_true rfl) ⟨rfl, ⟨rfl, ⟨rfl, ⟨rfl, ⟨rfl, trivial⟩⟩⟩⟩⟩ ?_
  unfold fX9_call at hf
  refine a_aload_n dX9_call_0 rfl rfl ?_
  refine a_getI fl_RX9_82 dX9_call_1 rfl k_v0 rfl ?_
  refine a_if_ne (t := 10) dX9_call_4 rfl rfl hf (fun _ hf => ?_) (fun _ hf => ?_)
  · refine a_bipush (v := (-4 : Int32)) dX9_call_7 rfl (by decide) ?_
    cases hf
    exact a_iret dX9_call_9 rfl rfl rfl (by decide)
  refine a_iload_n dX9_call_10 rfl rfl ?_
  refine a_iconst (v := (0 : Int32)) dX9_call_11 rfl (by decide) ?_
  refine a_ldc (v := (16777215 : Int32)) dX9_call_12 rfl tw_850 ?_
  obtain ⟨r14, h14, hc14, hf⟩ := am_bind_some hf
  refine a_callS (As := [.int v1, .int ((0 : Int32)), .int ((16777215 : Int32))]) (r1 := (some (.int r14), Γ, h14)) (sX9_outside l hc14) ccX9_outside tw_819 tw_820 ⟨Nat.le_of_ble_eq_true rfl, Nat.le_of_ble_eq_true rfl, Nat.le_of_ble_eq_true rfl, Nat.le_of_ble_eq_true rfl⟩ dX9_call_14 rfl rfl (Nat.le_of_ble_eq_true rfl) rfl rfl (fun hr14 => ?_)
  refine a_if_ne (t := 58) dX9_call_17 rfl rfl hf (fun _ hf => ?_) (fun _ hf => ?_)
  · refine a_iload_n dX9_call_20 rfl rfl ?_
    refine a_bipush (v := (-2 : Int32)) dX9_call_21 rfl (by decide) ?_
    refine a_icmp_eq (t := 37) dX9_call_23 rfl rfl hf (fun _ hf => ?_) (fun _ hf => ?_)
    · exact AW.weak (wX9_call_37 l v0 v1 v2 v3 v4 h14 _ k_v0 hf) ⟨rfl, ⟨rfl, ⟨rfl, ⟨rfl, ⟨rfl, trivial⟩⟩⟩⟩⟩
    refine a_iload_n dX9_call_26 rfl rfl ?_
    refine a_iconst (v := (0 : Int32)) dX9_call_27 rfl (by decide) ?_
    refine a_sipush (v := (255 : Int32)) dX9_call_28 rfl (by decide) ?_
    obtain ⟨r31, h31, hc31, hf⟩ := am_bind_some hf
    refine a_callS (As := [.int v2, .int ((0 : Int32)), .int ((255 : Int32))]) (r1 := (some (.int r31), Γ, h31)) (sX9_outside l hc31) ccX9_outside tw_819 tw_820 ⟨Nat.le_of_ble_eq_true rfl, Nat.le_of_ble_eq_true rfl, Nat.le_of_ble_eq_true rfl, Nat.le_of_ble_eq_true rfl⟩ dX9_call_31 rfl rfl (Nat.le_of_ble_eq_true rfl) rfl rfl (fun hr31 => ?_)
    refine a_if_ne (t := 58) dX9_call_34 rfl rfl hf (fun _ hf => ?_) (fun _ hf => ?_)
    · exact AW.weak (wX9_call_37 l v0 v1 v2 v3 v4 h31 _ k_v0 hf) ⟨rfl, ⟨rfl, ⟨rfl, ⟨rfl, ⟨rfl, trivial⟩⟩⟩⟩⟩
    refine a_iconst (v := (-1 : Int32)) dX9_call_58 rfl (by decide) ?_
    cases hf
    exact a_iret dX9_call_59 rfl rfl rfl (by decide)
  refine a_iconst (v := (-1 : Int32)) dX9_call_58 rfl (by decide) ?_
  cases hf
  exact a_iret dX9_call_59 rfl rfl rfl (by decide)
set_option maxRecDepth 100000 in
set_option maxHeartbeats 4000000 in
theorem sX9_leave (l : Launch) {Γ : Gm} {h h' : AH} {v0 : Nat} {r : Int32} {n_v0 : Nat} (k_v0 : Γ[v0]? = some (9, n_v0)) (hf : fX9_leave Γ v0 h = some (r, h')) : AR l yX9_leave mX9_leave [.ref v0] Γ h (some (.int r), Γ, h') := by
  refine AR.of [some (.ref v0)] (by decide +kernel) rfl (fun z => by cases z) (Nat.le_of_ble_eq_true rfl) ⟨rfl, trivial⟩ ?_
  unfold fX9_leave at hf
  refine a_aload_n dX9_leave_0 rfl rfl ?_
  refine a_getI fl_RX9_82 dX9_leave_1 rfl k_v0 rfl ?_
  refine a_if_ne (t := 10) dX9_leave_4 rfl rfl hf (fun _ hf => ?_) (fun _ hf => ?_)
  · refine a_bipush (v := (-4 : Int32)) dX9_leave_7 rfl (by decide) ?_
    cases hf
    exact a_iret dX9_leave_9 rfl rfl rfl (by decide)
  refine a_aload_n dX9_leave_10 rfl rfl ?_
  refine a_getR fl_RX9_32 dX9_leave_11 rfl k_v0 rfl (by decide) hf (fun b11 n_b11 _ k_b11 hf => ?_)
  refine a_sipush (v := (1001 : Int32)) dX9_leave_14 rfl (by decide) ?_
  refine a_iald dX9_leave_17 rfl k_b11 hf (fun hf => ?_)
  refine a_iconst (v := (1 : Int32)) dX9_leave_18 rfl (by decide) ?_
  refine a_icmp_ne (t := 25) dX9_leave_19 rfl rfl hf (fun _ hf => ?_) (fun _ hf => ?_)
  · refine a_bipush (v := (-2 : Int32)) dX9_leave_22 rfl (by decide) ?_
    cases hf
    exact a_iret dX9_leave_24 rfl rfl rfl (by decide)
  refine a_aload_n dX9_leave_25 rfl rfl ?_
  refine a_getR fl_RX9_32 dX9_leave_26 rfl k_v0 rfl (by decide) hf (fun b26 n_b26 _ k_b26 hf => ?_)
  refine a_sipush (v := (1000 : Int32)) dX9_leave_29 rfl (by decide) ?_
  refine a_aload_n dX9_leave_32 rfl rfl ?_
  refine a_getR fl_RX9_32 dX9_leave_33 rfl k_v0 rfl (by decide) hf (fun b33 n_b33 _ k_b33 hf => ?_)
  refine a_aload_n dX9_leave_36 rfl rfl ?_
  obtain ⟨r37, h37, hc37, hf⟩ := am_bind_some hf
  refine a_callV (As := []) (r1 := (some (.int r37), Γ, h37)) (sX9_newest l k_v0 hc37) ccX9_newest tw_855 tw_857 tp_15 (ci := 9) rfl (by decide) ⟨Nat.le_of_ble_eq_true rfl, Nat.le_of_ble_eq_true rfl, Nat.le_of_ble_eq_true rfl, Nat.le_of_ble_eq_true rfl⟩ dX9_leave_37 rfl k_v0 rfl (Nat.le_of_ble_eq_true rfl) rfl rfl (fun hr37 => ?_)
  refine a_iald dX9_leave_40 rfl k_b33 hf (fun hf => ?_)
  refine a_iast dX9_leave_41 rfl k_b26 hf (fun h41 hf => ?_)
  refine a_aload_n dX9_leave_42 rfl rfl ?_
  refine a_getR fl_RX9_32 dX9_leave_43 rfl k_v0 rfl (by decide) hf (fun b43 n_b43 _ k_b43 hf => ?_)
  refine a_sipush (v := (1001 : Int32)) dX9_leave_46 rfl (by decide) ?_
  refine a_dup2 dX9_leave_49 rfl rfl rfl ?_
  refine a_iald dX9_leave_50 rfl k_b43 hf (fun hf => ?_)
  refine a_iconst (v := (1 : Int32)) dX9_leave_51 rfl (by decide) ?_
  refine a_isub dX9_leave_52 rfl ?_
  refine a_iast dX9_leave_53 rfl k_b43 hf (fun h53 hf => ?_)
  refine a_aload_n dX9_leave_54 rfl rfl ?_
  refine a_getR fl_RX9_32 dX9_leave_55 rfl k_v0 rfl (by decide) hf (fun b55 n_b55 _ k_b55 hf => ?_)
  refine a_sipush (v := (1000 : Int32)) dX9_leave_58 rfl (by decide) ?_
  refine a_iald dX9_leave_61 rfl k_b55 hf (fun hf => ?_)
  cases hf
  exact a_iret dX9_leave_62 rfl rfl rfl (by decide)
set_option maxRecDepth 100000 in
set_option maxHeartbeats 4000000 in
theorem sX9_local (l : Launch) {Γ : Gm} {h h' : AH} {v0 : Nat} {v1 : Int32} {v2 : Int32} {r : Int32} {n_v0 : Nat} (k_v0 : Γ[v0]? = some (9, n_v0)) (hf : fX9_local Γ v0 v1 v2 h = some (r, h')) : AR l yX9_local mX9_local [.ref v0, .int v1, .int v2] Γ h (some (.int r), Γ, h') := by
  refine AR.of [some (.ref v0), some (.int v1), some (.int v2), none, none] (by decide +kernel) rfl (fun z => by cases z) (Nat.le_of_ble_eq_true rfl) ⟨rfl, ⟨rfl, ⟨rfl, trivial⟩⟩⟩ ?_
  unfold fX9_local at hf
  refine a_aload_n dX9_local_0 rfl rfl ?_
  refine a_getI fl_RX9_82 dX9_local_1 rfl k_v0 rfl ?_
  refine a_if_ne (t := 10) dX9_local_4 rfl rfl hf (fun _ hf => ?_) (fun _ hf => ?_)
  · refine a_bipush (v := (-4 : Int32)) dX9_local_7 rfl (by decide) ?_
    cases hf
    exact a_iret dX9_local_9 rfl rfl rfl (by decide)
  refine a_aload_n dX9_local_10 rfl rfl ?_
  obtain ⟨r11, h11, hc11, hf⟩ := am_bind_some hf
  refine a_callV (As := []) (r1 := (some (.int r11), Γ, h11)) (sX9_newest l k_v0 hc11) ccX9_newest tw_855 tw_857 tp_15 (ci := 9) rfl (by decide) ⟨Nat.le_of_ble_eq_true rfl, Nat.le_of_ble_eq_true rfl, Nat.le_of_ble_eq_true rfl, Nat.le_of_ble_eq_true rfl⟩ dX9_local_11 rfl k_v0 rfl (Nat.le_of_ble_eq_true rfl) rfl rfl (fun hr11 => ?_)
  refine a_istore_n (L' := [some (.ref v0), some (.int v1), some (.int v2), some (.int r11), none]) dX9_local_14 rfl (Nat.le_of_ble_eq_true rfl) (fun _ _ hv => by cases hv; rfl) rfl ?_
  refine a_iload_n dX9_local_15 rfl rfl ?_
  refine a_iconst (v := (0 : Int32)) dX9_local_16 rfl (by decide) ?_
  refine a_aload_n dX9_local_17 rfl rfl ?_
  refine a_getR fl_RX9_32 dX9_local_18 rfl k_v0 rfl (by decide) hf (fun b18 n_b18 _ k_b18 hf => ?_)
  refine a_iload_n dX9_local_21 rfl rfl ?_
  refine a_iconst (v := (3 : Int32)) dX9_local_22 rfl (by decide) ?_
  refine a_iadd dX9_local_23 rfl ?_
  refine a_iald dX9_local_24 rfl k_b18 hf (fun hf => ?_)
  refine a_iconst (v := (1 : Int32)) dX9_local_25 rfl (by decide) ?_
  refine a_isub dX9_local_26 rfl ?_
  obtain ⟨r27, h27, hc27, hf⟩ := am_bind_some hf
  refine a_callS (As := [.int v1, .int ((0 : Int32)), .int ((h11.1 b18 (r11 + ((3 : Int32))).toNatClampNeg) - ((1 : Int32)))]) (r1 := (some (.int r27), Γ, h27)) (sX9_outside l hc27) ccX9_outside tw_819 tw_820 ⟨Nat.le_of_ble_eq_true rfl, Nat.le_of_ble_eq_true rfl, Nat.le_of_ble_eq_true rfl, Nat.le_of_ble_eq_true rfl⟩ dX9_local_27 rfl rfl (Nat.le_of_ble_eq_true rfl) rfl rfl (fun hr27 => ?_)
  refine a_if_ne (t := 43) dX9_local_30 rfl rfl hf (fun _ hf => ?_) (fun _ hf => ?_)
  · refine a_iload_n dX9_local_33 rfl rfl ?_
    refine a_iconst (v := (0 : Int32)) dX9_local_34 rfl (by decide) ?_
    refine a_ldc (v := (65535 : Int32)) dX9_local_35 rfl tw_867 ?_
    obtain ⟨r37, h37, hc37, hf⟩ := am_bind_some hf
    refine a_callS (As := [.int v2, .int ((0 : Int32)), .int ((65535 : Int32))]) (r1 := (some (.int r37), Γ, h37)) (sX9_outside l hc37) ccX9_outside tw_819 tw_820 ⟨Nat.le_of_ble_eq_true rfl, Nat.le_of_ble_eq_true rfl, Nat.le_of_ble_eq_true rfl, Nat.le_of_ble_eq_true rfl⟩ dX9_local_37 rfl rfl (Nat.le_of_ble_eq_true rfl) rfl rfl (fun hr37 => ?_)
    refine a_if_eq (t := 45) dX9_local_40 rfl rfl hf (fun _ hf => ?_) (fun _ hf => ?_)
    · refine a_aload_n dX9_local_45 rfl rfl ?_
      refine a_getR fl_RX9_32 dX9_local_46 rfl k_v0 rfl (by decide) hf (fun b46 n_b46 _ k_b46 hf => ?_)
      refine a_iload_n dX9_local_49 rfl rfl ?_
      refine a_iconst (v := (5 : Int32)) dX9_local_50 rfl (by decide) ?_
      refine a_iadd dX9_local_51 rfl ?_
      refine a_iload_n dX9_local_52 rfl rfl ?_
      refine a_iadd dX9_local_53 rfl ?_
      refine a_iald dX9_local_54 rfl k_b46 hf (fun hf => ?_)
      refine a_nmI hf (fun x55 hf => ?_)
      refine a_istore (L' := [some (.ref v0), some (.int v1), some (.int v2), some (.int r11), some (.int x55)]) dX9_local_55 rfl (Nat.le_of_ble_eq_true rfl) (fun _ _ hv => by cases hv; rfl) rfl ?_
      refine a_aload_n dX9_local_57 rfl rfl ?_
      refine a_getR fl_RX9_32 dX9_local_58 rfl k_v0 rfl (by decide) hf (fun b58 n_b58 _ k_b58 hf => ?_)
      refine a_iload_n dX9_local_61 rfl rfl ?_
      refine a_iconst (v := (5 : Int32)) dX9_local_62 rfl (by decide) ?_
      refine a_iadd dX9_local_63 rfl ?_
      refine a_iload_n dX9_local_64 rfl rfl ?_
      refine a_iadd dX9_local_65 rfl ?_
      refine a_iload_n dX9_local_66 rfl rfl ?_
      refine a_iast dX9_local_67 rfl k_b58 hf (fun h67 hf => ?_)
      refine a_iload dX9_local_68 rfl rfl ?_
      cases hf
      exact a_iret dX9_local_70 rfl rfl rfl (by decide)
    refine a_iconst (v := (-1 : Int32)) dX9_local_43 rfl (by decide) ?_
    cases hf
    exact a_iret dX9_local_44 rfl rfl rfl (by decide)
  refine a_iconst (v := (-1 : Int32)) dX9_local_43 rfl (by decide) ?_
  cases hf
  exact a_iret dX9_local_44 rfl rfl rfl (by decide)
set_option maxRecDepth 100000 in
set_option maxHeartbeats 4000000 in
theorem sX9_push (l : Launch) {Γ : Gm} {h h' : AH} {v0 : Nat} {v1 : Int32} {r : Int32} {n_v0 : Nat} (k_v0 : Γ[v0]? = some (9, n_v0)) (hf : fX9_push Γ v0 v1 h = some (r, h')) : AR l yX9_push mX9_push [.ref v0, .int v1] Γ h (some (.int r), Γ, h') := by
  refine AR.of [some (.ref v0), some (.int v1), none] (by decide +kernel) rfl (fun z => by cases z) (Nat.le_of_ble_eq_true rfl) ⟨rfl, ⟨rfl, trivial⟩⟩ ?_
  unfold fX9_push at hf
  refine a_aload_n dX9_push_0 rfl rfl ?_
  refine a_getI fl_RX9_82 dX9_push_1 rfl k_v0 rfl ?_
  refine a_if_ne (t := 10) dX9_push_4 rfl rfl hf (fun _ hf => ?_) (fun _ hf => ?_)
  · refine a_bipush (v := (-4 : Int32)) dX9_push_7 rfl (by decide) ?_
    cases hf
    exact a_iret dX9_push_9 rfl rfl rfl (by decide)
  refine a_iload_n dX9_push_10 rfl rfl ?_
  refine a_iconst (v := (0 : Int32)) dX9_push_11 rfl (by decide) ?_
  refine a_ldc (v := (65535 : Int32)) dX9_push_12 rfl tw_867 ?_
  obtain ⟨r14, h14, hc14, hf⟩ := am_bind_some hf
  refine a_callS (As := [.int v1, .int ((0 : Int32)), .int ((65535 : Int32))]) (r1 := (some (.int r14), Γ, h14)) (sX9_outside l hc14) ccX9_outside tw_819 tw_820 ⟨Nat.le_of_ble_eq_true rfl, Nat.le_of_ble_eq_true rfl, Nat.le_of_ble_eq_true rfl, Nat.le_of_ble_eq_true rfl⟩ dX9_push_14 rfl rfl (Nat.le_of_ble_eq_true rfl) rfl rfl (fun hr14 => ?_)
  refine a_if_eq (t := 22) dX9_push_17 rfl rfl hf (fun _ hf => ?_) (fun _ hf => ?_)
  · refine a_aload_n dX9_push_22 rfl rfl ?_
    obtain ⟨r23, h23, hc23, hf⟩ := am_bind_some hf
    refine a_callV (As := []) (r1 := (some (.int r23), Γ, h23)) (sX9_newest l k_v0 hc23) ccX9_newest tw_855 tw_857 tp_15 (ci := 9) rfl (by decide) ⟨Nat.le_of_ble_eq_true rfl, Nat.le_of_ble_eq_true rfl, Nat.le_of_ble_eq_true rfl, Nat.le_of_ble_eq_true rfl⟩ dX9_push_23 rfl k_v0 rfl (Nat.le_of_ble_eq_true rfl) rfl rfl (fun hr23 => ?_)
    refine a_istore_n (L' := [some (.ref v0), some (.int v1), some (.int r23)]) dX9_push_26 rfl (Nat.le_of_ble_eq_true rfl) (fun _ _ hv => by cases hv; rfl) rfl ?_
    refine a_aload_n dX9_push_27 rfl rfl ?_
    refine a_getR fl_RX9_32 dX9_push_28 rfl k_v0 rfl (by decide) hf (fun b28 n_b28 _ k_b28 hf => ?_)
    refine a_iload_n dX9_push_31 rfl rfl ?_
    refine a_iconst (v := (4 : Int32)) dX9_push_32 rfl (by decide) ?_
    refine a_iadd dX9_push_33 rfl ?_
    refine a_iald dX9_push_34 rfl k_b28 hf (fun hf => ?_)
    refine a_bipush (v := (40 : Int32)) dX9_push_35 rfl (by decide) ?_
    refine a_icmp_ne (t := 43) dX9_push_37 rfl rfl hf (fun _ hf => ?_) (fun _ hf => ?_)
    · refine a_bipush (v := (-3 : Int32)) dX9_push_40 rfl (by decide) ?_
      cases hf
      exact a_iret dX9_push_42 rfl rfl rfl (by decide)
    refine a_aload_n dX9_push_43 rfl rfl ?_
    refine a_getR fl_RX9_32 dX9_push_44 rfl k_v0 rfl (by decide) hf (fun b44 n_b44 _ k_b44 hf => ?_)
    refine a_iload_n dX9_push_47 rfl rfl ?_
    refine a_iconst (v := (5 : Int32)) dX9_push_48 rfl (by decide) ?_
    refine a_iadd dX9_push_49 rfl ?_
    refine a_aload_n dX9_push_50 rfl rfl ?_
    refine a_getR fl_RX9_32 dX9_push_51 rfl k_v0 rfl (by decide) hf (fun b51 n_b51 _ k_b51 hf => ?_)
    refine a_iload_n dX9_push_54 rfl rfl ?_
    refine a_iconst (v := (3 : Int32)) dX9_push_55 rfl (by decide) ?_
    refine a_iadd dX9_push_56 rfl ?_
    refine a_iald dX9_push_57 rfl k_b51 hf (fun hf => ?_)
    refine a_iadd dX9_push_58 rfl ?_
    refine a_aload_n dX9_push_59 rfl rfl ?_
    refine a_getR fl_RX9_32 dX9_push_60 rfl k_v0 rfl (by decide) hf (fun b60 n_b60 _ k_b60 hf => ?_)
    refine a_iload_n dX9_push_63 rfl rfl ?_
    refine a_iconst (v := (4 : Int32)) dX9_push_64 rfl (by decide) ?_
    refine a_iadd dX9_push_65 rfl ?_
    refine a_iald dX9_push_66 rfl k_b60 hf (fun hf => ?_)
    refine a_iadd dX9_push_67 rfl ?_
    refine a_iload_n dX9_push_68 rfl rfl ?_
    refine a_iast dX9_push_69 rfl k_b44 hf (fun h69 hf => ?_)
    refine a_aload_n dX9_push_70 rfl rfl ?_
    refine a_getR fl_RX9_32 dX9_push_71 rfl k_v0 rfl (by decide) hf (fun b71 n_b71 _ k_b71 hf => ?_)
    refine a_iload_n dX9_push_74 rfl rfl ?_
    refine a_iconst (v := (4 : Int32)) dX9_push_75 rfl (by decide) ?_
    refine a_iadd dX9_push_76 rfl ?_
    refine a_dup2 dX9_push_77 rfl rfl rfl ?_
    refine a_iald dX9_push_78 rfl k_b71 hf (fun hf => ?_)
    refine a_iconst (v := (1 : Int32)) dX9_push_79 rfl (by decide) ?_
    refine a_iadd dX9_push_80 rfl ?_
    refine a_iast dX9_push_81 rfl k_b71 hf (fun h81 hf => ?_)
    refine a_aload_n dX9_push_82 rfl rfl ?_
    refine a_getR fl_RX9_32 dX9_push_83 rfl k_v0 rfl (by decide) hf (fun b83 n_b83 _ k_b83 hf => ?_)
    refine a_iload_n dX9_push_86 rfl rfl ?_
    refine a_iconst (v := (4 : Int32)) dX9_push_87 rfl (by decide) ?_
    refine a_iadd dX9_push_88 rfl ?_
    refine a_iald dX9_push_89 rfl k_b83 hf (fun hf => ?_)
    cases hf
    exact a_iret dX9_push_90 rfl rfl rfl (by decide)
  refine a_iconst (v := (-1 : Int32)) dX9_push_20 rfl (by decide) ?_
  cases hf
  exact a_iret dX9_push_21 rfl rfl rfl (by decide)
set_option maxRecDepth 100000 in
set_option maxHeartbeats 4000000 in
theorem sX9_pop (l : Launch) {Γ : Gm} {h h' : AH} {v0 : Nat} {r : Int32} {n_v0 : Nat} (k_v0 : Γ[v0]? = some (9, n_v0)) (hf : fX9_pop Γ v0 h = some (r, h')) : AR l yX9_pop mX9_pop [.ref v0] Γ h (some (.int r), Γ, h') := by
  refine AR.of [some (.ref v0), none] (by decide +kernel) rfl (fun z => by cases z) (Nat.le_of_ble_eq_true rfl) ⟨rfl, trivial⟩ ?_
  unfold fX9_pop at hf
  refine a_aload_n dX9_pop_0 rfl rfl ?_
  refine a_getI fl_RX9_82 dX9_pop_1 rfl k_v0 rfl ?_
  refine a_if_ne (t := 10) dX9_pop_4 rfl rfl hf (fun _ hf => ?_) (fun _ hf => ?_)
  · refine a_bipush (v := (-4 : Int32)) dX9_pop_7 rfl (by decide) ?_
    cases hf
    exact a_iret dX9_pop_9 rfl rfl rfl (by decide)
  refine a_aload_n dX9_pop_10 rfl rfl ?_
  obtain ⟨r11, h11, hc11, hf⟩ := am_bind_some hf
  refine a_callV (As := []) (r1 := (some (.int r11), Γ, h11)) (sX9_newest l k_v0 hc11) ccX9_newest tw_855 tw_857 tp_15 (ci := 9) rfl (by decide) ⟨Nat.le_of_ble_eq_true rfl, Nat.le_of_ble_eq_true rfl, Nat.le_of_ble_eq_true rfl, Nat.le_of_ble_eq_true rfl⟩ dX9_pop_11 rfl k_v0 rfl (Nat.le_of_ble_eq_true rfl) rfl rfl (fun hr11 => ?_)
  refine a_istore_n (L' := [some (.ref v0), some (.int r11)]) dX9_pop_14 rfl (Nat.le_of_ble_eq_true rfl) (fun _ _ hv => by cases hv; rfl) rfl ?_
  refine a_aload_n dX9_pop_15 rfl rfl ?_
  refine a_getR fl_RX9_32 dX9_pop_16 rfl k_v0 rfl (by decide) hf (fun b16 n_b16 _ k_b16 hf => ?_)
  refine a_iload_n dX9_pop_19 rfl rfl ?_
  refine a_iconst (v := (4 : Int32)) dX9_pop_20 rfl (by decide) ?_
  refine a_iadd dX9_pop_21 rfl ?_
  refine a_iald dX9_pop_22 rfl k_b16 hf (fun hf => ?_)
  refine a_if_ne (t := 29) dX9_pop_23 rfl rfl hf (fun _ hf => ?_) (fun _ hf => ?_)
  · refine a_bipush (v := (-2 : Int32)) dX9_pop_26 rfl (by decide) ?_
    cases hf
    exact a_iret dX9_pop_28 rfl rfl rfl (by decide)
  refine a_aload_n dX9_pop_29 rfl rfl ?_
  refine a_getR fl_RX9_32 dX9_pop_30 rfl k_v0 rfl (by decide) hf (fun b30 n_b30 _ k_b30 hf => ?_)
  refine a_iload_n dX9_pop_33 rfl rfl ?_
  refine a_iconst (v := (4 : Int32)) dX9_pop_34 rfl (by decide) ?_
  refine a_iadd dX9_pop_35 rfl ?_
  refine a_dup2 dX9_pop_36 rfl rfl rfl ?_
  refine a_iald dX9_pop_37 rfl k_b30 hf (fun hf => ?_)
  refine a_iconst (v := (1 : Int32)) dX9_pop_38 rfl (by decide) ?_
  refine a_isub dX9_pop_39 rfl ?_
  refine a_iast dX9_pop_40 rfl k_b30 hf (fun h40 hf => ?_)
  refine a_aload_n dX9_pop_41 rfl rfl ?_
  refine a_getR fl_RX9_32 dX9_pop_42 rfl k_v0 rfl (by decide) hf (fun b42 n_b42 _ k_b42 hf => ?_)
  refine a_iload_n dX9_pop_45 rfl rfl ?_
  refine a_iconst (v := (5 : Int32)) dX9_pop_46 rfl (by decide) ?_
  refine a_iadd dX9_pop_47 rfl ?_
  refine a_aload_n dX9_pop_48 rfl rfl ?_
  refine a_getR fl_RX9_32 dX9_pop_49 rfl k_v0 rfl (by decide) hf (fun b49 n_b49 _ k_b49 hf => ?_)
  refine a_iload_n dX9_pop_52 rfl rfl ?_
  refine a_iconst (v := (3 : Int32)) dX9_pop_53 rfl (by decide) ?_
  refine a_iadd dX9_pop_54 rfl ?_
  refine a_iald dX9_pop_55 rfl k_b49 hf (fun hf => ?_)
  refine a_iadd dX9_pop_56 rfl ?_
  refine a_aload_n dX9_pop_57 rfl rfl ?_
  refine a_getR fl_RX9_32 dX9_pop_58 rfl k_v0 rfl (by decide) hf (fun b58 n_b58 _ k_b58 hf => ?_)
  refine a_iload_n dX9_pop_61 rfl rfl ?_
  refine a_iconst (v := (4 : Int32)) dX9_pop_62 rfl (by decide) ?_
  refine a_iadd dX9_pop_63 rfl ?_
  refine a_iald dX9_pop_64 rfl k_b58 hf (fun hf => ?_)
  refine a_iadd dX9_pop_65 rfl ?_
  refine a_iald dX9_pop_66 rfl k_b42 hf (fun hf => ?_)
  cases hf
  exact a_iret dX9_pop_67 rfl rfl rfl (by decide)
