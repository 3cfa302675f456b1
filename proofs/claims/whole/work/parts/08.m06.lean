set_option maxRecDepth 100000 in
set_option maxHeartbeats 4000000 in
theorem wX3_shapeFault_44 (l : Launch) {Γ : Gm} {r : Int32} {h' : AH} (v0 : Nat) (h : AH) : ∀ n_v0 : Nat, Γ[v0]? = some (3, n_v0) → fX3_shapeFault_44 Γ v0 h = some (r, h') → AW l mX3_shapeFault (some (.int r), Γ, h') 0 0 44 [some (.ref v0), none, none, none] [] Γ h := by
  intro n_v0 k_v0 hf
  unfold fX3_shapeFault_44 at hf
  refine a_iconst (v := nI 1) dX3_shapeFault_44 rfl (by decide) ?_
  refine a_aload_n dX3_shapeFault_45 rfl rfl ?_
  refine a_getR fl_RX3_14 dX3_shapeFault_46 rfl k_v0 rfl (by decide) hf (fun b46 n_b46 _ k_b46 hf => ?_)
  refine a_getI fl_RX3_49 dX3_shapeFault_49 rfl k_b46 rfl ?_
  obtain ⟨r52, h52, hc52, hf⟩ := am_bind_some hf
  refine a_callSN (As := [.int (nI 1), .int (h.1 b46 1)]) (r1 := (some (.int r52), Γ, h52)) (sX8_fault l hc52) ccX8_fault tn_548 tw_549 ⟨Nat.le_of_ble_eq_true rfl, Nat.le_of_ble_eq_true rfl, Nat.le_of_ble_eq_true rfl, Nat.le_of_ble_eq_true rfl⟩ dX3_shapeFault_52 rfl rfl (Nat.le_of_ble_eq_true rfl) rfl rfl (fun hr52 => ?_)
  cases hf
  exact a_iret dX3_shapeFault_55 rfl rfl rfl (by decide)
set_option maxRecDepth 100000 in
set_option maxHeartbeats 4000000 in
theorem sX3_shapeFault (l : Launch) {Γ : Gm} {h h' : AH} {v0 : Nat} {r : Int32} {n_v0 : Nat} (k_v0 : Γ[v0]? = some (3, n_v0)) (hf : fX3_shapeFault Γ v0 h = some (r, h')) : AR l yX3_shapeFault mX3_shapeFault [.ref v0] Γ h (some (.int r), Γ, h') := by
  refine AR.of [some (.ref v0), none, none, none] (by decide +kernel) rfl (fun z => by cases z) (Nat.le_of_ble_eq_true rfl) ⟨rfl, trivial⟩ ?_
  unfold fX3_shapeFault at hf
  refine a_aload_n dX3_shapeFault_0 rfl rfl ?_
  refine a_getR fl_RX3_14 dX3_shapeFault_1 rfl k_v0 rfl (by decide) hf (fun b1 n_b1 _ k_b1 hf => ?_)
  refine a_getI fl_RX3_49 dX3_shapeFault_4 rfl k_b1 rfl ?_
  refine a_aload_n dX3_shapeFault_7 rfl rfl ?_
  refine a_getI fl_RX3_30 dX3_shapeFault_8 rfl k_v0 rfl ?_
  refine a_isub dX3_shapeFault_11 rfl ?_
  refine a_bipush (v := nI 8) dX3_shapeFault_12 rfl (by decide) ?_
  refine a_isub dX3_shapeFault_14 rfl ?_
  refine a_nmI hf (fun x15 hf => ?_)
  refine a_istore_n (L' := [some (.ref v0), some (.int x15), none, none]) dX3_shapeFault_15 rfl (Nat.le_of_ble_eq_true rfl) (fun _ _ hv => by cases hv; rfl) rfl ?_
  refine a_aload_n dX3_shapeFault_16 rfl rfl ?_
  refine a_getR fl_RX3_14 dX3_shapeFault_17 rfl k_v0 rfl (by decide) hf (fun b17 n_b17 _ k_b17 hf => ?_)
  refine a_aload_n dX3_shapeFault_20 rfl rfl ?_
  refine a_getI fl_RX3_30 dX3_shapeFault_21 rfl k_v0 rfl ?_
  refine a_iconst (v := nI 4) dX3_shapeFault_24 rfl (by decide) ?_
  refine a_iadd dX3_shapeFault_25 rfl ?_
  refine a_iconst (v := nI 4) dX3_shapeFault_26 rfl (by decide) ?_
  obtain ⟨r27, h27, hc27, hf⟩ := am_bind_some hf
  refine a_callV (As := [.int ((h.1 v0 4) + (nI 4)), .int (nI 4)]) (r1 := (some (.int r27), Γ, h27)) (sX0_number l k_b17 hc27) ccX0_number tw_551 tw_552 tw_553 (ci := 0) rfl (by decide) ⟨Nat.le_of_ble_eq_true rfl, Nat.le_of_ble_eq_true rfl, Nat.le_of_ble_eq_true rfl, Nat.le_of_ble_eq_true rfl⟩ dX3_shapeFault_27 rfl k_b17 rfl (Nat.le_of_ble_eq_true rfl) rfl rfl (fun hr27 => ?_)
  refine a_istore_n (L' := [some (.ref v0), some (.int x15), some (.int r27), none]) dX3_shapeFault_30 rfl (Nat.le_of_ble_eq_true rfl) (fun _ _ hv => by cases hv; rfl) rfl ?_
  refine a_iload_n dX3_shapeFault_31 rfl rfl ?_
  refine a_if_lt (t := 44) dX3_shapeFault_32 rfl rfl hf (fun _ hf => ?_) (fun _ hf => ?_)
  · exact AW.weak (wX3_shapeFault_44 l v0 h27 _ k_v0 hf) ⟨rfl, trivial⟩
  refine a_iload_n dX3_shapeFault_35 rfl rfl ?_
  refine a_if_lt (t := 44) dX3_shapeFault_36 rfl rfl hf (fun _ hf => ?_) (fun _ hf => ?_)
  · exact AW.weak (wX3_shapeFault_44 l v0 h27 _ k_v0 hf) ⟨rfl, trivial⟩
  refine a_iload_n dX3_shapeFault_39 rfl rfl ?_
  refine a_iload_n dX3_shapeFault_40 rfl rfl ?_
  refine a_icmp_le (t := 56) dX3_shapeFault_41 rfl rfl hf (fun _ hf => ?_) (fun _ hf => ?_)
  · refine a_iload_n dX3_shapeFault_56 rfl rfl ?_
    refine a_iconst (v := nI 1) dX3_shapeFault_57 rfl (by decide) ?_
    refine a_iand dX3_shapeFault_58 rfl ?_
    refine a_if_ne (t := 64) dX3_shapeFault_59 rfl rfl hf (fun _ hf => ?_) (fun _ hf => ?_)
    · refine a_iconst (v := nI 0) dX3_shapeFault_62 rfl (by decide) ?_
      cases hf
      exact a_iret dX3_shapeFault_63 rfl rfl rfl (by decide)
    refine a_iload_n dX3_shapeFault_64 rfl rfl ?_
    refine a_iload_n dX3_shapeFault_65 rfl rfl ?_
    refine a_icmp_ne (t := 81) dX3_shapeFault_66 rfl rfl hf (fun _ hf => ?_) (fun _ hf => ?_)
    · refine a_iconst (v := nI 1) dX3_shapeFault_69 rfl (by decide) ?_
      refine a_aload_n dX3_shapeFault_70 rfl rfl ?_
      refine a_getR fl_RX3_14 dX3_shapeFault_71 rfl k_v0 rfl (by decide) hf (fun b71 n_b71 _ k_b71 hf => ?_)
      refine a_getI fl_RX3_49 dX3_shapeFault_74 rfl k_b71 rfl ?_
      obtain ⟨r77, h77, hc77, hf⟩ := am_bind_some hf
      refine a_callSN (As := [.int (nI 1), .int (h27.1 b71 1)]) (r1 := (some (.int r77), Γ, h77)) (sX8_fault l hc77) ccX8_fault tn_548 tw_549 ⟨Nat.le_of_ble_eq_true rfl, Nat.le_of_ble_eq_true rfl, Nat.le_of_ble_eq_true rfl, Nat.le_of_ble_eq_true rfl⟩ dX3_shapeFault_77 rfl rfl (Nat.le_of_ble_eq_true rfl) rfl rfl (fun hr77 => ?_)
      cases hf
      exact a_iret dX3_shapeFault_80 rfl rfl rfl (by decide)
    refine a_aload_n dX3_shapeFault_81 rfl rfl ?_
    refine a_getI fl_RX3_30 dX3_shapeFault_82 rfl k_v0 rfl ?_
    refine a_bipush (v := nI 8) dX3_shapeFault_85 rfl (by decide) ?_
    refine a_iadd dX3_shapeFault_87 rfl ?_
    refine a_iload_n dX3_shapeFault_88 rfl rfl ?_
    refine a_iadd dX3_shapeFault_89 rfl ?_
    refine a_nmI hf (fun x90 hf => ?_)
    refine a_istore_n (L' := [some (.ref v0), some (.int x15), some (.int r27), some (.int x90)]) dX3_shapeFault_90 rfl (Nat.le_of_ble_eq_true rfl) (fun _ _ hv => by cases hv; rfl) rfl ?_
    refine a_aload_n dX3_shapeFault_91 rfl rfl ?_
    refine a_getR fl_RX3_14 dX3_shapeFault_92 rfl k_v0 rfl (by decide) hf (fun b92 n_b92 _ k_b92 hf => ?_)
    refine a_iload_n dX3_shapeFault_95 rfl rfl ?_
    obtain ⟨r96, h96, hc96, hf⟩ := am_bind_some hf
    refine a_callV (As := [.int x90]) (r1 := (some (.int r96), Γ, h96)) (sX0_at l k_b92 hc96) ccX0_at tw_562 tw_309 tw_310 (ci := 0) rfl (by decide) ⟨Nat.le_of_ble_eq_true rfl, Nat.le_of_ble_eq_true rfl, Nat.le_of_ble_eq_true rfl, Nat.le_of_ble_eq_true rfl⟩ dX3_shapeFault_96 rfl k_b92 rfl (Nat.le_of_ble_eq_true rfl) rfl rfl (fun hr96 => ?_)
    refine a_if_eq (t := 110) dX3_shapeFault_99 rfl rfl hf (fun _ hf => ?_) (fun _ hf => ?_)
    · refine a_iconst (v := nI 0) dX3_shapeFault_110 rfl (by decide) ?_
      cases hf
      exact a_iret dX3_shapeFault_111 rfl rfl rfl (by decide)
    refine a_iconst (v := nI 4) dX3_shapeFault_102 rfl (by decide) ?_
    refine a_iload_n dX3_shapeFault_103 rfl rfl ?_
    obtain ⟨r104, h104, hc104, hf⟩ := am_bind_some hf
    refine a_callSN (As := [.int (nI 4), .int x90]) (r1 := (some (.int r104), Γ, h104)) (sX8_fault l hc104) ccX8_fault tn_548 tw_549 ⟨Nat.le_of_ble_eq_true rfl, Nat.le_of_ble_eq_true rfl, Nat.le_of_ble_eq_true rfl, Nat.le_of_ble_eq_true rfl⟩ dX3_shapeFault_104 rfl rfl (Nat.le_of_ble_eq_true rfl) rfl rfl (fun hr104 => ?_)
    refine a_goto (t := 111) dX3_shapeFault_107 rfl ?_
    cases hf
    exact a_iret dX3_shapeFault_111 rfl rfl rfl (by decide)
  exact AW.weak (wX3_shapeFault_44 l v0 h27 _ k_v0 hf) ⟨rfl, trivial⟩
set_option maxRecDepth 100000 in
set_option maxHeartbeats 4000000 in
theorem sX6_clear (l : Launch) {Γ : Gm} {h h' : AH} {v0 : Nat} {r : Unit} {n_v0 : Nat} (k_v0 : Γ[v0]? = some (6, n_v0)) (hf : fX6_clear Γ v0 h = some (r, h')) : AR l yX6_clear mX6_clear [.ref v0] Γ h (none, Γ, h') := by
  refine AR.of [some (.ref v0)] (by decide +kernel) rfl (fun z => by cases z) (Nat.le_of_ble_eq_true rfl) ⟨rfl, trivial⟩ ?_
  unfold fX6_clear at hf
  refine a_aload_n dX6_clear_0 rfl rfl ?_
  refine a_getR fl_RX6_14 dX6_clear_1 rfl k_v0 rfl (by decide) hf (fun b1 n_b1 _ k_b1 hf => ?_)
  obtain ⟨r4, h4, hc4, hf⟩ := am_bind_some hf
  refine a_callV (As := []) (r1 := (none, Γ, h4)) (sX0_clear l k_b1 hc4) ccX0_clear tw_373 tw_325 tw_326 (ci := 0) rfl (by decide) ⟨Nat.le_of_ble_eq_true rfl, Nat.le_of_ble_eq_true rfl, Nat.le_of_ble_eq_true rfl, Nat.le_of_ble_eq_true rfl⟩ dX6_clear_4 rfl k_b1 rfl (Nat.le_of_ble_eq_true rfl) rfl rfl (fun hr4 => ?_)
  refine a_aload_n dX6_clear_7 rfl rfl ?_
  refine a_iconst (v := nI 0) dX6_clear_8 rfl (by decide) ?_
  refine a_putI fp_RX6_27 dX6_clear_9 rfl k_v0 rfl hf (fun h9 hf => ?_)
  cases hf
  exact a_ret dX6_clear_12 rfl rfl rfl
set_option maxRecDepth 100000 in
set_option maxHeartbeats 4000000 in
theorem wX3_readFor_155 (l : Launch) {Γ : Gm} {r : Int32} {h' : AH} (v0 : Nat) (v4 : Int32) (s0 : Int32) (h : AH) : ∀ n_v0 : Nat, Γ[v0]? = some (3, n_v0) → fX3_readFor_155 Γ v0 v4 s0 h = some (r, h') → AW l mX3_readFor (some (.int r), Γ, h') 0 0 155 [some (.ref v0), none, none, none, some (.int v4), none, none] [.int s0] Γ h := by
  intro n_v0 k_v0 hf
  unfold fX3_readFor_155 at hf
  refine a_istore (L' := [some (.ref v0), none, none, none, some (.int v4), some (.int s0), none]) dX3_readFor_155 rfl (Nat.le_of_ble_eq_true rfl) (fun _ _ hv => by cases hv; rfl) rfl ?_
  refine a_iload dX3_readFor_157 rfl rfl ?_
  refine a_if_ne (t := 182) dX3_readFor_159 rfl rfl hf (fun _ hf => ?_) (fun _ hf => ?_)
  · refine a_iload dX3_readFor_162 rfl rfl ?_
    refine a_if_ne (t := 182) dX3_readFor_164 rfl rfl hf (fun _ hf => ?_) (fun _ hf => ?_)
    · refine a_bipush (v := nI 10) dX3_readFor_167 rfl (by decide) ?_
      refine a_aload_n dX3_readFor_169 rfl rfl ?_
      refine a_getR fl_RX3_14 dX3_readFor_170 rfl k_v0 rfl (by decide) hf (fun b170 n_b170 _ k_b170 hf => ?_)
      refine a_getI fl_RX3_49 dX3_readFor_173 rfl k_b170 rfl ?_
      obtain ⟨r176, h176, hc176, hf⟩ := am_bind_some hf
      refine a_callSN (As := [.int (nI 10), .int (h.1 b170 1)]) (r1 := (some (.int r176), Γ, h176)) (sX8_fault l hc176) ccX8_fault tn_548 tw_549 ⟨Nat.le_of_ble_eq_true rfl, Nat.le_of_ble_eq_true rfl, Nat.le_of_ble_eq_true rfl, Nat.le_of_ble_eq_true rfl⟩ dX3_readFor_176 rfl rfl (Nat.le_of_ble_eq_true rfl) rfl rfl (fun hr176 => ?_)
      refine a_goto (t := 184) dX3_readFor_179 rfl ?_
      cases hf
      exact a_iret dX3_readFor_184 rfl rfl rfl (by decide)
    refine a_iload dX3_readFor_182 rfl rfl ?_
    cases hf
    exact a_iret dX3_readFor_184 rfl rfl rfl (by decide)
  refine a_iload dX3_readFor_182 rfl rfl ?_
  cases hf
  exact a_iret dX3_readFor_184 rfl rfl rfl (by decide)
set_option maxRecDepth 100000 in
set_option maxHeartbeats 4000000 in
theorem wX3_readFor_154 (l : Launch) {Γ : Gm} {r : Int32} {h' : AH} (v0 : Nat) (v4 : Int32) (h : AH) : ∀ n_v0 : Nat, Γ[v0]? = some (3, n_v0) → fX3_readFor_154 Γ v0 v4 h = some (r, h') → AW l mX3_readFor (some (.int r), Γ, h') 0 0 154 [some (.ref v0), none, none, none, some (.int v4), none, none] [] Γ h := by
  intro n_v0 k_v0 hf
  unfold fX3_readFor_154 at hf
  refine a_iconst (v := nI 0) dX3_readFor_154 rfl (by decide) ?_
  exact AW.weak (wX3_readFor_155 l v0 v4 (nI 0) h _ k_v0 hf) ⟨rfl, ⟨rfl, trivial⟩⟩
set_option maxRecDepth 100000 in
set_option maxHeartbeats 4000000 in
theorem wX3_readFor_129 (l : Launch) {Γ : Gm} {r : Int32} {h' : AH} (v0 : Nat) (v4 : Int32) (h : AH) : ∀ n_v0 : Nat, Γ[v0]? = some (3, n_v0) → fX3_readFor_129 Γ v0 v4 h = some (r, h') → AW l mX3_readFor (some (.int r), Γ, h') 0 0 129 [some (.ref v0), none, none, none, some (.int v4), none, none] [] Γ h := by
  intro n_v0 k_v0 hf
  unfold fX3_readFor_129 at hf
  refine a_aload_n dX3_readFor_129 rfl rfl ?_
  refine a_getI fl_RX3_20 dX3_readFor_130 rfl k_v0 rfl ?_
  refine a_if_eq (t := 154) dX3_readFor_133 rfl rfl hf (fun _ hf => ?_) (fun _ hf => ?_)
  · exact AW.weak (wX3_readFor_154 l v0 v4 h _ k_v0 hf) ⟨rfl, ⟨rfl, trivial⟩⟩
  refine a_aload_n dX3_readFor_136 rfl rfl ?_
  refine a_getI fl_RX3_24 dX3_readFor_137 rfl k_v0 rfl ?_
  refine a_if_eq (t := 154) dX3_readFor_140 rfl rfl hf (fun _ hf => ?_) (fun _ hf => ?_)
  · exact AW.weak (wX3_readFor_154 l v0 v4 h _ k_v0 hf) ⟨rfl, ⟨rfl, trivial⟩⟩
  refine a_aload_n dX3_readFor_143 rfl rfl ?_
  refine a_getI fl_RX3_27 dX3_readFor_144 rfl k_v0 rfl ?_
  refine a_if_eq (t := 154) dX3_readFor_147 rfl rfl hf (fun _ hf => ?_) (fun _ hf => ?_)
  · exact AW.weak (wX3_readFor_154 l v0 v4 h _ k_v0 hf) ⟨rfl, ⟨rfl, trivial⟩⟩
  refine a_iconst (v := nI 1) dX3_readFor_150 rfl (by decide) ?_
  refine a_goto (t := 155) dX3_readFor_151 rfl ?_
  exact AW.weak (wX3_readFor_155 l v0 v4 (nI 1) h _ k_v0 hf) ⟨rfl, ⟨rfl, trivial⟩⟩
set_option maxRecDepth 100000 in
set_option maxHeartbeats 4000000 in
theorem wX3_readFor_123 (l : Launch) {Γ : Gm} {r : Int32} {h' : AH} {k39 : Nat → Nat → Nat → Nat → Int32 → Int32 → AH → Option (Int32 × AH)} (hk39 : ∀ v0 v1 v2 v3 v4 v5 (h : AH), ∀ n_v0 : Nat, Γ[v0]? = some (3, n_v0) → ∀ n_v1 : Nat, Γ[v1]? = some (5, n_v1) → ∀ n_v2 : Nat, Γ[v2]? = some (4, n_v2) → ∀ n_v3 : Nat, Γ[v3]? = some (6, n_v3) → k39 v0 v1 v2 v3 v4 v5 h = some (r, h') → AW l mX3_readFor (some (.int r), Γ, h') 0 0 39 [some (.ref v0), some (.ref v1), some (.ref v2), some (.ref v3), some (.int v4), some (.int v5), none] [] Γ h) (v0 : Nat) (v1 : Nat) (v2 : Nat) (v3 : Nat) (v4 : Int32) (v5 : Int32) (h : AH) : ∀ n_v0 : Nat, Γ[v0]? = some (3, n_v0) → ∀ n_v1 : Nat, Γ[v1]? = some (5, n_v1) → ∀ n_v2 : Nat, Γ[v2]? = some (4, n_v2) → ∀ n_v3 : Nat, Γ[v3]? = some (6, n_v3) → fX3_readFor_123 Γ k39 v0 v1 v2 v3 v4 v5 h = some (r, h') → AW l mX3_readFor (some (.int r), Γ, h') 0 0 123 [some (.ref v0), some (.ref v1), some (.ref v2), some (.ref v3), some (.int v4), some (.int v5), none] [] Γ h := by
  intro n_v0 k_v0 n_v1 k_v1 n_v2 k_v2 n_v3 k_v3 hf
  unfold fX3_readFor_123 at hf
  refine a_iinc (v := v5 + nI 1) (L' := [some (.ref v0), some (.ref v1), some (.ref v2), some (.ref v3), some (.int v4), some (.int (v5 + nI 1)), none]) dX3_readFor_123 rfl rfl rfl (Nat.le_of_ble_eq_true rfl) (fun _ _ hv => by cases hv; rfl) rfl ?_
  refine a_goto (t := 39) dX3_readFor_126 rfl ?_
  exact AW.weak (hk39 v0 v1 v2 v3 v4 (v5 + nI 1) h _ k_v0 _ k_v1 _ k_v2 _ k_v3 hf) ⟨rfl, ⟨rfl, ⟨rfl, ⟨rfl, ⟨rfl, ⟨rfl, trivial⟩⟩⟩⟩⟩⟩
set_option maxRecDepth 100000 in
set_option maxHeartbeats 4000000 in
theorem wX3_readFor_39 (l : Launch) {Γ : Gm} {r : Int32} {h' : AH} : ∀ (z : Nat) (v0 : Nat) (v1 : Nat) (v2 : Nat) (v3 : Nat) (v4 : Int32) (v5 : Int32) (h : AH), ∀ n_v0 : Nat, Γ[v0]? = some (3, n_v0) → ∀ n_v1 : Nat, Γ[v1]? = some (5, n_v1) → ∀ n_v2 : Nat, Γ[v2]? = some (4, n_v2) → ∀ n_v3 : Nat, Γ[v3]? = some (6, n_v3) → fX3_readFor_39 Γ z v0 v1 v2 v3 v4 v5 h = some (r, h') → AW l mX3_readFor (some (.int r), Γ, h') 0 0 39 [some (.ref v0), some (.ref v1), some (.ref v2), some (.ref v3), some (.int v4), some (.int v5), none] [] Γ h := by
  intro z
  induction z with
  | zero => intro v0 v1 v2 v3 v4 v5 h n_v0 k_v0 n_v1 k_v1 n_v2 k_v2 n_v3 k_v3 hf; cases hf
  | succ z ih =>
    intro v0 v1 v2 v3 v4 v5 h n_v0 k_v0 n_v1 k_v1 n_v2 k_v2 n_v3 k_v3 hf
    unfold fX3_readFor_39 at hf
    refine a_iload dX3_readFor_39 rfl rfl ?_
    refine a_sipush (v := nI 250) dX3_readFor_41 rfl (by decide) ?_
    refine a_icmp_ge (t := 129) dX3_readFor_44 rfl rfl hf (fun _ hf => ?_) (fun _ hf => ?_)
    · exact AW.weak (wX3_readFor_129 l v0 v4 h _ k_v0 hf) ⟨rfl, ⟨rfl, trivial⟩⟩
    refine a_iload dX3_readFor_47 rfl rfl ?_
    refine a_if_ne (t := 129) dX3_readFor_49 rfl rfl hf (fun _ hf => ?_) (fun _ hf => ?_)
    · refine a_aload_n dX3_readFor_52 rfl rfl ?_
      refine a_getI fl_RX3_30 dX3_readFor_53 rfl k_v0 rfl ?_
      refine a_aload_n dX3_readFor_56 rfl rfl ?_
      refine a_getR fl_RX3_14 dX3_readFor_57 rfl k_v0 rfl (by decide) hf (fun b57 n_b57 _ k_b57 hf => ?_)
      refine a_getI fl_RX3_49 dX3_readFor_60 rfl k_b57 rfl ?_
      refine a_icmp_ge (t := 129) dX3_readFor_63 rfl rfl hf (fun _ hf => ?_) (fun _ hf => ?_)
      · exact AW.weak (wX3_readFor_129 l v0 v4 h _ k_v0 hf) ⟨rfl, ⟨rfl, trivial⟩⟩
      refine a_aload_n dX3_readFor_66 rfl rfl ?_
      obtain ⟨r67, h67, hc67, hf⟩ := am_bind_some hf
      refine a_callV (As := []) (r1 := (some (.int r67), Γ, h67)) (sX3_shapeFault l k_v0 hc67) ccX3_shapeFault tw_558 tw_560 tp_3 (ci := 3) rfl (by decide) ⟨Nat.le_of_ble_eq_true rfl, Nat.le_of_ble_eq_true rfl, Nat.le_of_ble_eq_true rfl, Nat.le_of_ble_eq_true rfl⟩ dX3_readFor_67 rfl k_v0 rfl (Nat.le_of_ble_eq_true rfl) rfl rfl (fun hr67 => ?_)
      refine a_istore (L' := [some (.ref v0), some (.ref v1), some (.ref v2), some (.ref v3), some (.int r67), some (.int v5), none]) dX3_readFor_70 rfl (Nat.le_of_ble_eq_true rfl) (fun _ _ hv => by cases hv; rfl) rfl ?_
      refine a_iload dX3_readFor_72 rfl rfl ?_
      refine a_if_ne (t := 123) dX3_readFor_74 rfl rfl hf (fun _ hf => ?_) (fun _ hf => ?_)
      · refine a_aload_n dX3_readFor_77 rfl rfl ?_
        refine a_getR fl_RX3_14 dX3_readFor_78 rfl k_v0 rfl (by decide) hf (fun b78 n_b78 _ k_b78 hf => ?_)
        refine a_aload_n dX3_readFor_81 rfl rfl ?_
        refine a_getI fl_RX3_30 dX3_readFor_82 rfl k_v0 rfl ?_
        refine a_iconst (v := nI 4) dX3_readFor_85 rfl (by decide) ?_
        refine a_iadd dX3_readFor_86 rfl ?_
        refine a_iconst (v := nI 4) dX3_readFor_87 rfl (by decide) ?_
        obtain ⟨r88, h88, hc88, hf⟩ := am_bind_some hf
        refine a_callV (As := [.int ((h67.1 v0 4) + (nI 4)), .int (nI 4)]) (r1 := (some (.int r88), Γ, h88)) (sX0_number l k_b78 hc88) ccX0_number tw_551 tw_552 tw_553 (ci := 0) rfl (by decide) ⟨Nat.le_of_ble_eq_true rfl, Nat.le_of_ble_eq_true rfl, Nat.le_of_ble_eq_true rfl, Nat.le_of_ble_eq_true rfl⟩ dX3_readFor_88 rfl k_b78 rfl (Nat.le_of_ble_eq_true rfl) rfl rfl (fun hr88 => ?_)
        refine a_istore (L' := [some (.ref v0), some (.ref v1), some (.ref v2), some (.ref v3), some (.int r67), some (.int v5), some (.int r88)]) dX3_readFor_91 rfl (Nat.le_of_ble_eq_true rfl) (fun _ _ hv => by cases hv; rfl) rfl ?_
        refine a_aload_n dX3_readFor_93 rfl rfl ?_
        refine a_iload dX3_readFor_94 rfl rfl ?_
        refine a_aload_n dX3_readFor_96 rfl rfl ?_
        refine a_aload_n dX3_readFor_97 rfl rfl ?_
        refine a_aload_n dX3_readFor_98 rfl rfl ?_
        obtain ⟨r99, h99, hc99, hf⟩ := am_bind_some hf
        refine a_callV (As := [.int r88, .ref v1, .ref v2, .ref v3]) (r1 := (some (.int r99), Γ, h99)) (sX3_readContents l k_v0 k_v1 k_v2 k_v3 hc99) ccX3_readContents tw_563 tw_565 tp_4 (ci := 3) rfl (by decide) ⟨Nat.le_of_ble_eq_true rfl, Nat.le_of_ble_eq_true rfl, Nat.le_of_ble_eq_true rfl, Nat.le_of_ble_eq_true rfl⟩ dX3_readFor_99 rfl k_v0 rfl (Nat.le_of_ble_eq_true rfl) rfl rfl (fun hr99 => ?_)
        refine a_istore (L' := [some (.ref v0), some (.ref v1), some (.ref v2), some (.ref v3), some (.int r99), some (.int v5), some (.int r88)]) dX3_readFor_102 rfl (Nat.le_of_ble_eq_true rfl) (fun _ _ hv => by cases hv; rfl) rfl ?_
        refine a_aload_n dX3_readFor_104 rfl rfl ?_
        refine a_dup dX3_readFor_105 rfl rfl ?_
        refine a_getI fl_RX3_30 dX3_readFor_106 rfl k_v0 rfl ?_
        refine a_bipush (v := nI 8) dX3_readFor_109 rfl (by decide) ?_
        refine a_iload dX3_readFor_111 rfl rfl ?_
        refine a_iadd dX3_readFor_113 rfl ?_
        refine a_iload dX3_readFor_114 rfl rfl ?_
        refine a_iconst (v := nI 1) dX3_readFor_116 rfl (by decide) ?_
        refine a_iand dX3_readFor_117 rfl ?_
        refine a_iadd dX3_readFor_118 rfl ?_
        refine a_iadd dX3_readFor_119 rfl ?_
        refine a_putI fp_RX3_30 dX3_readFor_120 rfl k_v0 rfl hf (fun h120 hf => ?_)
        exact AW.weak (wX3_readFor_123 l ih v0 v1 v2 v3 r99 v5 h120 _ k_v0 _ k_v1 _ k_v2 _ k_v3 hf) ⟨rfl, ⟨rfl, ⟨rfl, ⟨rfl, ⟨rfl, ⟨rfl, trivial⟩⟩⟩⟩⟩⟩
      exact AW.weak (wX3_readFor_123 l ih v0 v1 v2 v3 r67 v5 h67 _ k_v0 _ k_v1 _ k_v2 _ k_v3 hf) ⟨rfl, ⟨rfl, ⟨rfl, ⟨rfl, ⟨rfl, ⟨rfl, trivial⟩⟩⟩⟩⟩⟩
    exact AW.weak (wX3_readFor_129 l v0 v4 h _ k_v0 hf) ⟨rfl, ⟨rfl, trivial⟩⟩
set_option maxRecDepth 100000 in
set_option maxHeartbeats 4000000 in
theorem sX3_readFor (l : Launch) {Γ : Gm} {h h' : AH} {v0 : Nat} {v1 : Nat} {v2 : Nat} {v3 : Nat} {r : Int32} {n_v0 : Nat} (k_v0 : Γ[v0]? = some (3, n_v0)) {n_v1 : Nat} (k_v1 : Γ[v1]? = some (5, n_v1)) {n_v2 : Nat} (k_v2 : Γ[v2]? = some (4, n_v2)) {n_v3 : Nat} (k_v3 : Γ[v3]? = some (6, n_v3)) (hf : fX3_readFor Γ v0 v1 v2 v3 h = some (r, h')) : AR l yX3_readFor mX3_readFor [.ref v0, .ref v1, .ref v2, .ref v3] Γ h (some (.int r), Γ, h') := by
  refine AR.of [some (.ref v0), some (.ref v1), some (.ref v2), some (.ref v3), none, none, none] (by decide +kernel) rfl (fun z => by cases z) (Nat.le_of_ble_eq_true rfl) ⟨rfl, ⟨rfl, ⟨rfl, ⟨rfl, trivial⟩⟩⟩⟩ ?_
  unfold fX3_readFor at hf
  refine a_aload_n dX3_readFor_0 rfl rfl ?_
  refine a_aload_n dX3_readFor_1 rfl rfl ?_
  obtain ⟨r2, h2, hc2, hf⟩ := am_bind_some hf
  refine a_callV (As := [.ref v1]) (r1 := (none, Γ, h2)) (sX4_begin l k_v2 k_v1 hc2) ccX4_begin tw_542 tw_350 tw_351 (ci := 4) rfl (by decide) ⟨Nat.le_of_ble_eq_true rfl, Nat.le_of_ble_eq_true rfl, Nat.le_of_ble_eq_true rfl, Nat.le_of_ble_eq_true rfl⟩ dX3_readFor_2 rfl k_v2 rfl (Nat.le_of_ble_eq_true rfl) rfl rfl (fun hr2 => ?_)
  refine a_aload_n dX3_readFor_5 rfl rfl ?_
  obtain ⟨r6, h6, hc6, hf⟩ := am_bind_some hf
  refine a_callV (As := []) (r1 := (none, Γ, h6)) (sX6_clear l k_v3 hc6) ccX6_clear tw_543 tw_370 tw_371 (ci := 6) rfl (by decide) ⟨Nat.le_of_ble_eq_true rfl, Nat.le_of_ble_eq_true rfl, Nat.le_of_ble_eq_true rfl, Nat.le_of_ble_eq_true rfl⟩ dX3_readFor_6 rfl k_v3 rfl (Nat.le_of_ble_eq_true rfl) rfl rfl (fun hr6 => ?_)
  refine a_aload_n dX3_readFor_9 rfl rfl ?_
  refine a_iconst (v := nI 0) dX3_readFor_10 rfl (by decide) ?_
  refine a_putZ fp_RX3_20 dX3_readFor_11 rfl k_v0 rfl (by decide) hf (fun h11 hf => ?_)
  refine a_aload_n dX3_readFor_14 rfl rfl ?_
  refine a_iconst (v := nI 0) dX3_readFor_15 rfl (by decide) ?_
  refine a_putZ fp_RX3_24 dX3_readFor_16 rfl k_v0 rfl (by decide) hf (fun h16 hf => ?_)
  refine a_aload_n dX3_readFor_19 rfl rfl ?_
  refine a_iconst (v := nI 0) dX3_readFor_20 rfl (by decide) ?_
  refine a_putZ fp_RX3_27 dX3_readFor_21 rfl k_v0 rfl (by decide) hf (fun h21 hf => ?_)
  refine a_aload_n dX3_readFor_24 rfl rfl ?_
  refine a_bipush (v := nI 12) dX3_readFor_25 rfl (by decide) ?_
  refine a_putI fp_RX3_30 dX3_readFor_27 rfl k_v0 rfl hf (fun h27 hf => ?_)
  refine a_aload_n dX3_readFor_30 rfl rfl ?_
  obtain ⟨r31, h31, hc31, hf⟩ := am_bind_some hf
  refine a_callV (As := []) (r1 := (some (.int r31), Γ, h31)) (sX3_frontFault l k_v0 hc31) ccX3_frontFault tw_544 tw_546 tp_2 (ci := 3) rfl (by decide) ⟨Nat.le_of_ble_eq_true rfl, Nat.le_of_ble_eq_true rfl, Nat.le_of_ble_eq_true rfl, Nat.le_of_ble_eq_true rfl⟩ dX3_readFor_31 rfl k_v0 rfl (Nat.le_of_ble_eq_true rfl) rfl rfl (fun hr31 => ?_)
  refine a_istore (L' := [some (.ref v0), some (.ref v1), some (.ref v2), some (.ref v3), some (.int r31), none, none]) dX3_readFor_34 rfl (Nat.le_of_ble_eq_true rfl) (fun _ _ hv => by cases hv; rfl) rfl ?_
  refine a_iconst (v := nI 0) dX3_readFor_36 rfl (by decide) ?_
  refine a_istore (L' := [some (.ref v0), some (.ref v1), some (.ref v2), some (.ref v3), some (.int r31), some (.int (nI 0)), none]) dX3_readFor_37 rfl (Nat.le_of_ble_eq_true rfl) (fun _ _ hv => by cases hv; rfl) rfl ?_
  exact AW.weak (wX3_readFor_39 l am_fuel v0 v1 v2 v3 r31 (nI 0) h31 _ k_v0 _ k_v1 _ k_v2 _ k_v3 hf) ⟨rfl, ⟨rfl, ⟨rfl, ⟨rfl, ⟨rfl, ⟨rfl, trivial⟩⟩⟩⟩⟩⟩
set_option maxRecDepth 100000 in
set_option maxHeartbeats 4000000 in
theorem sX4_bits (l : Launch) {Γ : Gm} {h h' : AH} {v0 : Nat} {r : Int32} {n_v0 : Nat} (k_v0 : Γ[v0]? = some (4, n_v0)) (hf : fX4_bits Γ v0 h = some (r, h')) : AR l yX4_bits mX4_bits [.ref v0] Γ h (some (.int r), Γ, h') := by
  refine AR.of [some (.ref v0)] (by decide +kernel) rfl (fun z => by cases z) (Nat.le_of_ble_eq_true rfl) ⟨rfl, trivial⟩ ?_
  unfold fX4_bits at hf
  refine a_aload_n dX4_bits_0 rfl rfl ?_
  refine a_bipush (v := nI 17) dX4_bits_1 rfl (by decide) ?_
  obtain ⟨r3, h3, hc3, hf⟩ := am_bind_some hf
  refine a_callV (As := [.int (nI 17)]) (r1 := (some (.int r3), Γ, h3)) (sX4_byteAt l k_v0 hc3) ccX4_byteAt tw_512 tw_389 tw_390 (ci := 4) rfl (by decide) ⟨Nat.le_of_ble_eq_true rfl, Nat.le_of_ble_eq_true rfl, Nat.le_of_ble_eq_true rfl, Nat.le_of_ble_eq_true rfl⟩ dX4_bits_3 rfl k_v0 rfl (Nat.le_of_ble_eq_true rfl) rfl rfl (fun hr3 => ?_)
  refine a_iconst (v := nI 3) dX4_bits_6 rfl (by decide) ?_
  refine a_iand dX4_bits_7 rfl ?_
  cases hf
  exact a_iret dX4_bits_8 rfl rfl rfl (by decide)
set_option maxRecDepth 100000 in
set_option maxHeartbeats 4000000 in
theorem sX4_setBits (l : Launch) {Γ : Gm} {h h' : AH} {v0 : Nat} {v1 : Int32} {r : Unit} {n_v0 : Nat} (k_v0 : Γ[v0]? = some (4, n_v0)) (hf : fX4_setBits Γ v0 v1 h = some (r, h')) : AR l yX4_setBits mX4_setBits [.ref v0, .int v1] Γ h (none, Γ, h') := by
  refine AR.of [some (.ref v0), some (.int v1)] (by decide +kernel) rfl (fun z => by cases z) (Nat.le_of_ble_eq_true rfl) ⟨rfl, ⟨rfl, trivial⟩⟩ ?_
  unfold fX4_setBits at hf
  refine a_aload_n dX4_setBits_0 rfl rfl ?_
  refine a_bipush (v := nI 17) dX4_setBits_1 rfl (by decide) ?_
  refine a_aload_n dX4_setBits_3 rfl rfl ?_
  refine a_bipush (v := nI 17) dX4_setBits_4 rfl (by decide) ?_
  obtain ⟨r6, h6, hc6, hf⟩ := am_bind_some hf
  refine a_callV (As := [.int (nI 17)]) (r1 := (some (.int r6), Γ, h6)) (sX4_byteAt l k_v0 hc6) ccX4_byteAt tw_512 tw_389 tw_390 (ci := 4) rfl (by decide) ⟨Nat.le_of_ble_eq_true rfl, Nat.le_of_ble_eq_true rfl, Nat.le_of_ble_eq_true rfl, Nat.le_of_ble_eq_true rfl⟩ dX4_setBits_6 rfl k_v0 rfl (Nat.le_of_ble_eq_true rfl) rfl rfl (fun hr6 => ?_)
  refine a_bipush (v := (-4 : Int32)) dX4_setBits_9 rfl (by decide) ?_
  refine a_iand dX4_setBits_11 rfl ?_
  refine a_iload_n dX4_setBits_12 rfl rfl ?_
  refine a_iconst (v := nI 3) dX4_setBits_13 rfl (by decide) ?_
  refine a_iand dX4_setBits_14 rfl ?_
  refine a_ior dX4_setBits_15 rfl ?_
  obtain ⟨r16, h16, hc16, hf⟩ := am_bind_some hf
  refine a_callV (As := [.int (nI 17), .int ((r6 &&& ((-4 : Int32))) ||| (v1 &&& (nI 3)))]) (r1 := (none, Γ, h16)) (sX4_setByte l k_v0 hc16) ccX4_setByte tw_357 tw_358 tw_359 (ci := 4) rfl (by decide) ⟨Nat.le_of_ble_eq_true rfl, Nat.le_of_ble_eq_true rfl, Nat.le_of_ble_eq_true rfl, Nat.le_of_ble_eq_true rfl⟩ dX4_setBits_16 rfl k_v0 rfl (Nat.le_of_ble_eq_true rfl) rfl rfl (fun hr16 => ?_)
  cases hf
  exact a_ret dX4_setBits_19 rfl rfl rfl
set_option maxRecDepth 100000 in
set_option maxHeartbeats 4000000 in
theorem wX4_tellMemory_2 (l : Launch) {Γ : Gm} {r : Unit} {h' : AH} : ∀ (z : Nat) (v0 : Nat) (v1 : Nat) (v2 : Int32) (h : AH), ∀ n_v0 : Nat, Γ[v0]? = some (4, n_v0) → ∀ n_v1 : Nat, Γ[v1]? = some (0, n_v1) → fX4_tellMemory_2 Γ z v0 v1 v2 h = some (r, h') → AW l mX4_tellMemory (none, Γ, h') 0 0 2 [some (.ref v0), some (.ref v1), some (.int v2)] [] Γ h := by
  intro z
  induction z with
  | zero => intro v0 v1 v2 h n_v0 k_v0 n_v1 k_v1 hf; cases hf
  | succ z ih =>
    intro v0 v1 v2 h n_v0 k_v0 n_v1 k_v1 hf
    unfold fX4_tellMemory_2 at hf
    refine a_iload_n dX4_tellMemory_2 rfl rfl ?_
    refine a_aload_n dX4_tellMemory_3 rfl rfl ?_
    refine a_getI fl_RX4_21 dX4_tellMemory_4 rfl k_v0 rfl ?_
    refine a_icmp_ge (t := 25) dX4_tellMemory_7 rfl rfl hf (fun _ hf => ?_) (fun _ hf => ?_)
    · cases hf
      exact a_ret dX4_tellMemory_25 rfl rfl rfl
    refine a_aload_n dX4_tellMemory_10 rfl rfl ?_
    refine a_aload_n dX4_tellMemory_11 rfl rfl ?_
    refine a_iload_n dX4_tellMemory_12 rfl rfl ?_
    obtain ⟨r13, h13, hc13, hf⟩ := am_bind_some hf
    refine a_callV (As := [.int v2]) (r1 := (some (.int r13), Γ, h13)) (sX4_byteAt l k_v0 hc13) ccX4_byteAt tw_512 tw_389 tw_390 (ci := 4) rfl (by decide) ⟨Nat.le_of_ble_eq_true rfl, Nat.le_of_ble_eq_true rfl, Nat.le_of_ble_eq_true rfl, Nat.le_of_ble_eq_true rfl⟩ dX4_tellMemory_13 rfl k_v0 rfl (Nat.le_of_ble_eq_true rfl) rfl rfl (fun hr13 => ?_)
    obtain ⟨r16, h16, hc16, hf⟩ := am_bind_some hf
    refine a_callV (As := [.int r13]) (r1 := (none, Γ, h16)) (sX0_add l k_v1 hc16) ccX0_add tw_513 tw_290 tw_291 (ci := 0) rfl (by decide) ⟨Nat.le_of_ble_eq_true rfl, Nat.le_of_ble_eq_true rfl, Nat.le_of_ble_eq_true rfl, Nat.le_of_ble_eq_true rfl⟩ dX4_tellMemory_16 rfl k_v1 rfl (Nat.le_of_ble_eq_true rfl) rfl rfl (fun hr16 => ?_)
    refine a_iinc (v := v2 + nI 1) (L' := [some (.ref v0), some (.ref v1), some (.int (v2 + nI 1))]) dX4_tellMemory_19 rfl rfl rfl (Nat.le_of_ble_eq_true rfl) (fun _ _ hv => by cases hv; rfl) rfl ?_
    refine a_goto (t := 2) dX4_tellMemory_22 rfl ?_
    exact AW.weak (ih v0 v1 (v2 + nI 1) h16 _ k_v0 _ k_v1 hf) ⟨rfl, ⟨rfl, ⟨rfl, trivial⟩⟩⟩
set_option maxRecDepth 100000 in
set_option maxHeartbeats 4000000 in
theorem sX4_tellMemory (l : Launch) {Γ : Gm} {h h' : AH} {v0 : Nat} {v1 : Nat} {r : Unit} {n_v0 : Nat} (k_v0 : Γ[v0]? = some (4, n_v0)) {n_v1 : Nat} (k_v1 : Γ[v1]? = some (0, n_v1)) (hf : fX4_tellMemory Γ v0 v1 h = some (r, h')) : AR l yX4_tellMemory mX4_tellMemory [.ref v0, .ref v1] Γ h (none, Γ, h') := by
  refine AR.of [some (.ref v0), some (.ref v1), none] (by decide +kernel) rfl (fun z => by cases z) (Nat.le_of_ble_eq_true rfl) ⟨rfl, ⟨rfl, trivial⟩⟩ ?_
  unfold fX4_tellMemory at hf
  refine a_iconst (v := nI 0) dX4_tellMemory_0 rfl (by decide) ?_
  refine a_istore_n (L' := [some (.ref v0), some (.ref v1), some (.int (nI 0))]) dX4_tellMemory_1 rfl (Nat.le_of_ble_eq_true rfl) (fun _ _ hv => by cases hv; rfl) rfl ?_
  exact AW.weak (wX4_tellMemory_2 l am_fuel v0 v1 (nI 0) h _ k_v0 _ k_v1 hf) ⟨rfl, ⟨rfl, ⟨rfl, trivial⟩⟩⟩
set_option maxRecDepth 100000 in
set_option maxHeartbeats 4000000 in
theorem wX4_tellZeros_2 (l : Launch) {Γ : Gm} {r : Unit} {h' : AH} : ∀ (z : Nat) (v1 : Nat) (v2 : Int32) (h : AH), ∀ n_v1 : Nat, Γ[v1]? = some (0, n_v1) → fX4_tellZeros_2 Γ z v1 v2 h = some (r, h') → AW l mX4_tellZeros (none, Γ, h') 0 0 2 [none, some (.ref v1), some (.int v2)] [] Γ h := by
  intro z
  induction z with
  | zero => intro v1 v2 h n_v1 k_v1 hf; cases hf
  | succ z ih =>
    intro v1 v2 h n_v1 k_v1 hf
    unfold fX4_tellZeros_2 at hf
    refine a_iload_n dX4_tellZeros_2 rfl rfl ?_
    refine a_if_le (t := 33) dX4_tellZeros_3 rfl rfl hf (fun _ hf => ?_) (fun _ hf => ?_)
    · cases hf
      exact a_ret dX4_tellZeros_33 rfl rfl rfl
    refine a_aload_n dX4_tellZeros_6 rfl rfl ?_
    refine a_iconst (v := nI 0) dX4_tellZeros_7 rfl (by decide) ?_
    obtain ⟨r8, h8, hc8, hf⟩ := am_bind_some hf
    refine a_callV (As := [.int (nI 0)]) (r1 := (none, Γ, h8)) (sX0_add l k_v1 hc8) ccX0_add tw_513 tw_290 tw_291 (ci := 0) rfl (by decide) ⟨Nat.le_of_ble_eq_true rfl, Nat.le_of_ble_eq_true rfl, Nat.le_of_ble_eq_true rfl, Nat.le_of_ble_eq_true rfl⟩ dX4_tellZeros_8 rfl k_v1 rfl (Nat.le_of_ble_eq_true rfl) rfl rfl (fun hr8 => ?_)
    refine a_aload_n dX4_tellZeros_11 rfl rfl ?_
    refine a_iload_n dX4_tellZeros_12 rfl rfl ?_
    refine a_sipush (v := nI 256) dX4_tellZeros_13 rfl (by decide) ?_
    refine a_min dX4_tellZeros_16 rfl tw_521 tw_346 tw_4 tw_347 ⟨Nat.le_of_ble_eq_true rfl, Nat.le_of_ble_eq_true rfl, Nat.le_of_ble_eq_true rfl, Nat.le_of_ble_eq_true rfl⟩ ?_
    refine a_iconst (v := nI 1) dX4_tellZeros_19 rfl (by decide) ?_
    refine a_isub dX4_tellZeros_20 rfl ?_
    obtain ⟨r21, h21, hc21, hf⟩ := am_bind_some hf
    refine a_callV (As := [.int ((am_min v2 (nI 256)) - (nI 1))]) (r1 := (none, Γ, h21)) (sX0_add l k_v1 hc21) ccX0_add tw_513 tw_290 tw_291 (ci := 0) rfl (by decide) ⟨Nat.le_of_ble_eq_true rfl, Nat.le_of_ble_eq_true rfl, Nat.le_of_ble_eq_true rfl, Nat.le_of_ble_eq_true rfl⟩ dX4_tellZeros_21 rfl k_v1 rfl (Nat.le_of_ble_eq_true rfl) rfl rfl (fun hr21 => ?_)
    refine a_iincW (v := v2 + (-256 : Int32)) (L' := [none, some (.ref v1), some (.int (v2 + (-256 : Int32)))]) dX4_tellZeros_24 rfl rfl rfl (Nat.le_of_ble_eq_true rfl) (fun _ _ hv => by cases hv; rfl) rfl ?_
    refine a_goto (t := 2) dX4_tellZeros_30 rfl ?_
    exact AW.weak (ih v1 (v2 + (-256 : Int32)) h21 _ k_v1 hf) ⟨rfl, ⟨rfl, trivial⟩⟩
set_option maxRecDepth 100000 in
set_option maxHeartbeats 4000000 in
theorem sX4_tellZeros (l : Launch) {Γ : Gm} {h h' : AH} {v0 : Int32} {v1 : Nat} {r : Unit} {n_v1 : Nat} (k_v1 : Γ[v1]? = some (0, n_v1)) (hf : fX4_tellZeros Γ v0 v1 h = some (r, h')) : AR l yX4_tellZeros mX4_tellZeros [.int v0, .ref v1] Γ h (none, Γ, h') := by
  refine AR.of [some (.int v0), some (.ref v1), none] (by decide +kernel) rfl (fun z => by cases z) (Nat.le_of_ble_eq_true rfl) ⟨rfl, ⟨rfl, trivial⟩⟩ ?_
  unfold fX4_tellZeros at hf
  refine a_iload_n dX4_tellZeros_0 rfl rfl ?_
  refine a_istore_n (L' := [some (.int v0), some (.ref v1), some (.int v0)]) dX4_tellZeros_1 rfl (Nat.le_of_ble_eq_true rfl) (fun _ _ hv => by cases hv; rfl) rfl ?_
  exact AW.weak (wX4_tellZeros_2 l am_fuel v1 v0 h _ k_v1 hf) ⟨rfl, ⟨rfl, trivial⟩⟩
set_option maxRecDepth 100000 in
set_option maxHeartbeats 4000000 in
theorem wX4_tellRuns_53 (l : Launch) {Γ : Gm} {r : Unit} {h' : AH} {k5 : Nat → Nat → Nat → Int32 → Int32 → AH → Option (Unit × AH)} (hk5 : ∀ v0 v1 v2 v3 v4 (h : AH), ∀ n_v0 : Nat, Γ[v0]? = some (4, n_v0) → ∀ n_v1 : Nat, Γ[v1]? = some (5, n_v1) → ∀ n_v2 : Nat, Γ[v2]? = some (0, n_v2) → k5 v0 v1 v2 v3 v4 h = some (r, h') → AW l mX4_tellRuns (none, Γ, h') 0 0 5 [some (.ref v0), some (.ref v1), some (.ref v2), some (.int v3), some (.int v4), none] [] Γ h) (v0 : Nat) (v1 : Nat) (v2 : Nat) (v3 : Int32) (v4 : Int32) (h : AH) : ∀ n_v0 : Nat, Γ[v0]? = some (4, n_v0) → ∀ n_v1 : Nat, Γ[v1]? = some (5, n_v1) → ∀ n_v2 : Nat, Γ[v2]? = some (0, n_v2) → fX4_tellRuns_53 Γ k5 v0 v1 v2 v3 v4 h = some (r, h') → AW l mX4_tellRuns (none, Γ, h') 0 0 53 [some (.ref v0), some (.ref v1), some (.ref v2), some (.int v3), some (.int v4), none] [] Γ h := by
  intro n_v0 k_v0 n_v1 k_v1 n_v2 k_v2 hf
  unfold fX4_tellRuns_53 at hf
  refine a_iinc (v := v4 + nI 1) (L' := [some (.ref v0), some (.ref v1), some (.ref v2), some (.int v3), some (.int (v4 + nI 1)), none]) dX4_tellRuns_53 rfl rfl rfl (Nat.le_of_ble_eq_true rfl) (fun _ _ hv => by cases hv; rfl) rfl ?_
  refine a_goto (t := 5) dX4_tellRuns_56 rfl ?_
  exact AW.weak (hk5 v0 v1 v2 v3 (v4 + nI 1) h _ k_v0 _ k_v1 _ k_v2 hf) ⟨rfl, ⟨rfl, ⟨rfl, ⟨rfl, ⟨rfl, trivial⟩⟩⟩⟩⟩
set_option maxRecDepth 100000 in
set_option maxHeartbeats 4000000 in
theorem wX4_tellRuns_5 (l : Launch) {Γ : Gm} {r : Unit} {h' : AH} : ∀ (z : Nat) (v0 : Nat) (v1 : Nat) (v2 : Nat) (v3 : Int32) (v4 : Int32) (h : AH), ∀ n_v0 : Nat, Γ[v0]? = some (4, n_v0) → ∀ n_v1 : Nat, Γ[v1]? = some (5, n_v1) → ∀ n_v2 : Nat, Γ[v2]? = some (0, n_v2) → fX4_tellRuns_5 Γ z v0 v1 v2 v3 v4 h = some (r, h') → AW l mX4_tellRuns (none, Γ, h') 0 0 5 [some (.ref v0), some (.ref v1), some (.ref v2), some (.int v3), some (.int v4), none] [] Γ h := by
  intro z
  induction z with
  | zero => intro v0 v1 v2 v3 v4 h n_v0 k_v0 n_v1 k_v1 n_v2 k_v2 hf; cases hf
  | succ z ih =>
    intro v0 v1 v2 v3 v4 h n_v0 k_v0 n_v1 k_v1 n_v2 k_v2 hf
    unfold fX4_tellRuns_5 at hf
    refine a_iload dX4_tellRuns_5 rfl rfl ?_
    refine a_aload_n dX4_tellRuns_7 rfl rfl ?_
    refine a_getI fl_RX4_21 dX4_tellRuns_8 rfl k_v0 rfl ?_
    refine a_icmp_ge (t := 59) dX4_tellRuns_11 rfl rfl hf (fun _ hf => ?_) (fun _ hf => ?_)
    · cases hf
      exact a_ret dX4_tellRuns_59 rfl rfl rfl
    refine a_aload_n dX4_tellRuns_14 rfl rfl ?_
    refine a_iload dX4_tellRuns_15 rfl rfl ?_
    obtain ⟨r17, h17, hc17, hf⟩ := am_bind_some hf
    refine a_callV (As := [.int v4]) (r1 := (some (.int r17), Γ, h17)) (sX4_byteAt l k_v0 hc17) ccX4_byteAt tw_512 tw_389 tw_390 (ci := 4) rfl (by decide) ⟨Nat.le_of_ble_eq_true rfl, Nat.le_of_ble_eq_true rfl, Nat.le_of_ble_eq_true rfl, Nat.le_of_ble_eq_true rfl⟩ dX4_tellRuns_17 rfl k_v0 rfl (Nat.le_of_ble_eq_true rfl) rfl rfl (fun hr17 => ?_)
    refine a_aload_n dX4_tellRuns_20 rfl rfl ?_
    refine a_iload dX4_tellRuns_21 rfl rfl ?_
    obtain ⟨r23, h23, hc23, hf⟩ := am_bind_some hf
    refine a_callV (As := [.int v4]) (r1 := (some (.int r23), Γ, h23)) (sX5_byteAt l k_v1 hc23) ccX5_byteAt tw_353 tw_354 tw_355 (ci := 5) rfl (by decide) ⟨Nat.le_of_ble_eq_true rfl, Nat.le_of_ble_eq_true rfl, Nat.le_of_ble_eq_true rfl, Nat.le_of_ble_eq_true rfl⟩ dX4_tellRuns_23 rfl k_v1 rfl (Nat.le_of_ble_eq_true rfl) rfl rfl (fun hr23 => ?_)
    refine a_ixor dX4_tellRuns_26 rfl ?_
    refine a_nmI hf (fun x27 hf => ?_)
    refine a_istore (L' := [some (.ref v0), some (.ref v1), some (.ref v2), some (.int v3), some (.int v4), some (.int x27)]) dX4_tellRuns_27 rfl (Nat.le_of_ble_eq_true rfl) (fun _ _ hv => by cases hv; rfl) rfl ?_
    refine a_iload dX4_tellRuns_29 rfl rfl ?_
    refine a_if_ne (t := 40) dX4_tellRuns_31 rfl rfl hf (fun _ hf => ?_) (fun _ hf => ?_)
    · refine a_iinc (v := v3 + nI 1) (L' := [some (.ref v0), some (.ref v1), some (.ref v2), some (.int (v3 + nI 1)), some (.int v4), some (.int x27)]) dX4_tellRuns_34 rfl rfl rfl (Nat.le_of_ble_eq_true rfl) (fun _ _ hv => by cases hv; rfl) rfl ?_
      refine a_goto (t := 53) dX4_tellRuns_37 rfl ?_
      exact AW.weak (wX4_tellRuns_53 l ih v0 v1 v2 (v3 + nI 1) v4 h23 _ k_v0 _ k_v1 _ k_v2 hf) ⟨rfl, ⟨rfl, ⟨rfl, ⟨rfl, ⟨rfl, trivial⟩⟩⟩⟩⟩
    refine a_iload_n dX4_tellRuns_40 rfl rfl ?_
    refine a_aload_n dX4_tellRuns_41 rfl rfl ?_
    obtain ⟨r42, h42, hc42, hf⟩ := am_bind_some hf
    refine a_callS (As := [.int v3, .ref v2]) (r1 := (none, Γ, h42)) (sX4_tellZeros l k_v2 hc42) ccX4_tellZeros tw_518 tw_519 ⟨Nat.le_of_ble_eq_true rfl, Nat.le_of_ble_eq_true rfl, Nat.le_of_ble_eq_true rfl, Nat.le_of_ble_eq_true rfl⟩ dX4_tellRuns_42 rfl rfl (Nat.le_of_ble_eq_true rfl) rfl rfl (fun hr42 => ?_)
    refine a_aload_n dX4_tellRuns_45 rfl rfl ?_
    refine a_iload dX4_tellRuns_46 rfl rfl ?_
    obtain ⟨r48, h48, hc48, hf⟩ := am_bind_some hf
    refine a_callV (As := [.int x27]) (r1 := (none, Γ, h48)) (sX0_add l k_v2 hc48) ccX0_add tw_513 tw_290 tw_291 (ci := 0) rfl (by decide) ⟨Nat.le_of_ble_eq_true rfl, Nat.le_of_ble_eq_true rfl, Nat.le_of_ble_eq_true rfl, Nat.le_of_ble_eq_true rfl⟩ dX4_tellRuns_48 rfl k_v2 rfl (Nat.le_of_ble_eq_true rfl) rfl rfl (fun hr48 => ?_)
    refine a_iconst (v := nI 0) dX4_tellRuns_51 rfl (by decide) ?_
    refine a_istore_n (L' := [some (.ref v0), some (.ref v1), some (.ref v2), some (.int (nI 0)), some (.int v4), some (.int x27)]) dX4_tellRuns_52 rfl (Nat.le_of_ble_eq_true rfl) (fun _ _ hv => by cases hv; rfl) rfl ?_
    exact AW.weak (wX4_tellRuns_53 l ih v0 v1 v2 (nI 0) v4 h48 _ k_v0 _ k_v1 _ k_v2 hf) ⟨rfl, ⟨rfl, ⟨rfl, ⟨rfl, ⟨rfl, trivial⟩⟩⟩⟩⟩
set_option maxRecDepth 100000 in
set_option maxHeartbeats 4000000 in
theorem sX4_tellRuns (l : Launch) {Γ : Gm} {h h' : AH} {v0 : Nat} {v1 : Nat} {v2 : Nat} {r : Unit} {n_v0 : Nat} (k_v0 : Γ[v0]? = some (4, n_v0)) {n_v1 : Nat} (k_v1 : Γ[v1]? = some (5, n_v1)) {n_v2 : Nat} (k_v2 : Γ[v2]? = some (0, n_v2)) (hf : fX4_tellRuns Γ v0 v1 v2 h = some (r, h')) : AR l yX4_tellRuns mX4_tellRuns [.ref v0, .ref v1, .ref v2] Γ h (none, Γ, h') := by
  refine AR.of [some (.ref v0), some (.ref v1), some (.ref v2), none, none, none] (by decide +kernel) rfl (fun z => by cases z) (Nat.le_of_ble_eq_true rfl) ⟨rfl, ⟨rfl, ⟨rfl, trivial⟩⟩⟩ ?_
  unfold fX4_tellRuns at hf
  refine a_iconst (v := nI 0) dX4_tellRuns_0 rfl (by decide) ?_
  refine a_istore_n (L' := [some (.ref v0), some (.ref v1), some (.ref v2), some (.int (nI 0)), none, none]) dX4_tellRuns_1 rfl (Nat.le_of_ble_eq_true rfl) (fun _ _ hv => by cases hv; rfl) rfl ?_
  refine a_iconst (v := nI 0) dX4_tellRuns_2 rfl (by decide) ?_
  refine a_istore (L' := [some (.ref v0), some (.ref v1), some (.ref v2), some (.int (nI 0)), some (.int (nI 0)), none]) dX4_tellRuns_3 rfl (Nat.le_of_ble_eq_true rfl) (fun _ _ hv => by cases hv; rfl) rfl ?_
  exact AW.weak (wX4_tellRuns_5 l am_fuel v0 v1 v2 (nI 0) (nI 0) h _ k_v0 _ k_v1 _ k_v2 hf) ⟨rfl, ⟨rfl, ⟨rfl, ⟨rfl, ⟨rfl, trivial⟩⟩⟩⟩⟩
