set_option maxRecDepth 100000 in
set_option maxHeartbeats 4000000 in
theorem wX4_takeFrame_145 (l : Launch) {Γ : Gm} {r : Int32} {h' : AH} (v4 : Int32) (v6 : Int32) (v7 : Int32) (h : AH) : fX4_takeFrame_145 Γ v4 v6 v7 h = some (r, h') → AW l mX4_takeFrame (some (.int r), Γ, h') 0 0 145 [none, none, none, none, some (.int v4), none, some (.int v6), some (.int v7), none, none, none] [] Γ h := by
  intro hf
  unfold fX4_takeFrame_145 at hf
  refine a_iload dX4_takeFrame_145 rfl rfl ?_
  refine a_iconst (v := nI 2) dX4_takeFrame_147 rfl (by decide) ?_
  refine a_iload dX4_takeFrame_148 rfl rfl ?_
  refine a_iload dX4_takeFrame_150 rfl rfl ?_
  refine a_iadd dX4_takeFrame_152 rfl ?_
  refine a_imul dX4_takeFrame_153 rfl ?_
  refine a_iadd dX4_takeFrame_154 rfl ?_
  cases hf
  exact a_iret dX4_takeFrame_155 rfl rfl rfl (by decide)
set_option maxRecDepth 100000 in
set_option maxHeartbeats 4000000 in
theorem wX4_takeFrame_139 (l : Launch) {Γ : Gm} {r : Int32} {h' : AH} {k84 : Nat → Int32 → Int32 → Int32 → Nat → Int32 → AH → Option (Int32 × AH)} (hk84 : ∀ v1 v4 v6 v7 v8 v9 (h : AH), ∀ n_v1 : Nat, Γ[v1]? = some (0, n_v1) → ∀ n_v8 : Nat, Γ[v8]? = some (1, n_v8) → k84 v1 v4 v6 v7 v8 v9 h = some (r, h') → AW l mX4_takeFrame (some (.int r), Γ, h') 0 0 84 [none, some (.ref v1), none, none, some (.int v4), none, some (.int v6), some (.int v7), some (.ref v8), some (.int v9), none] [] Γ h) (v1 : Nat) (v4 : Int32) (v6 : Int32) (v7 : Int32) (v8 : Nat) (v9 : Int32) (h : AH) : ∀ n_v1 : Nat, Γ[v1]? = some (0, n_v1) → ∀ n_v8 : Nat, Γ[v8]? = some (1, n_v8) → fX4_takeFrame_139 Γ k84 v1 v4 v6 v7 v8 v9 h = some (r, h') → AW l mX4_takeFrame (some (.int r), Γ, h') 0 0 139 [none, some (.ref v1), none, none, some (.int v4), none, some (.int v6), some (.int v7), some (.ref v8), some (.int v9), none] [] Γ h := by
  intro n_v1 k_v1 n_v8 k_v8 hf
  unfold fX4_takeFrame_139 at hf
  refine a_iinc (v := v9 + nI 1) (L' := [none, some (.ref v1), none, none, some (.int v4), none, some (.int v6), some (.int v7), some (.ref v8), some (.int (v9 + nI 1)), none]) dX4_takeFrame_139 rfl rfl rfl (Nat.le_of_ble_eq_true rfl) (fun _ _ hv => by cases hv; rfl) rfl ?_
  refine a_goto (t := 84) dX4_takeFrame_142 rfl ?_
  exact AW.weak (hk84 v1 v4 v6 v7 v8 (v9 + nI 1) h _ k_v1 _ k_v8 hf) ⟨rfl, ⟨rfl, ⟨rfl, ⟨rfl, ⟨rfl, ⟨rfl, trivial⟩⟩⟩⟩⟩⟩
set_option maxRecDepth 100000 in
set_option maxHeartbeats 4000000 in
theorem wX4_takeFrame_84 (l : Launch) {Γ : Gm} {r : Int32} {h' : AH} : ∀ (z : Nat) (v1 : Nat) (v4 : Int32) (v6 : Int32) (v7 : Int32) (v8 : Nat) (v9 : Int32) (h : AH), ∀ n_v1 : Nat, Γ[v1]? = some (0, n_v1) → ∀ n_v8 : Nat, Γ[v8]? = some (1, n_v8) → fX4_takeFrame_84 Γ z v1 v4 v6 v7 v8 v9 h = some (r, h') → AW l mX4_takeFrame (some (.int r), Γ, h') 0 0 84 [none, some (.ref v1), none, none, some (.int v4), none, some (.int v6), some (.int v7), some (.ref v8), some (.int v9), none] [] Γ h := by
  intro z
  induction z with
  | zero => intro v1 v4 v6 v7 v8 v9 h n_v1 k_v1 n_v8 k_v8 hf; cases hf
  | succ z ih =>
    intro v1 v4 v6 v7 v8 v9 h n_v1 k_v1 n_v8 k_v8 hf
    unfold fX4_takeFrame_84 at hf
    refine a_aload dX4_takeFrame_84 rfl rfl ?_
    refine a_ifnullR dX4_takeFrame_86 rfl ?_
    refine a_iload dX4_takeFrame_89 rfl rfl ?_
    refine a_iload dX4_takeFrame_91 rfl rfl ?_
    refine a_iload dX4_takeFrame_93 rfl rfl ?_
    refine a_iadd dX4_takeFrame_95 rfl ?_
    refine a_icmp_ge (t := 145) dX4_takeFrame_96 rfl rfl hf (fun _ hf => ?_) (fun _ hf => ?_)
    · exact AW.weak (wX4_takeFrame_145 l v4 v6 v7 h hf) ⟨rfl, ⟨rfl, ⟨rfl, trivial⟩⟩⟩
    refine a_aload_n dX4_takeFrame_99 rfl rfl ?_
    refine a_iload dX4_takeFrame_100 rfl rfl ?_
    refine a_iconst (v := nI 2) dX4_takeFrame_102 rfl (by decide) ?_
    refine a_iload dX4_takeFrame_103 rfl rfl ?_
    refine a_imul dX4_takeFrame_105 rfl ?_
    refine a_iadd dX4_takeFrame_106 rfl ?_
    refine a_iconst (v := nI 2) dX4_takeFrame_107 rfl (by decide) ?_
    obtain ⟨r108, h108, hc108, hf⟩ := am_bind_some hf
    refine a_callV (As := [.int (v7 + ((nI 2) * v9)), .int (nI 2)]) (r1 := (some (.int r108), Γ, h108)) (sX0_number l k_v1 hc108) ccX0_number tw_604 tw_552 tw_553 (ci := 0) rfl (by decide) ⟨Nat.le_of_ble_eq_true rfl, Nat.le_of_ble_eq_true rfl, Nat.le_of_ble_eq_true rfl, Nat.le_of_ble_eq_true rfl⟩ dX4_takeFrame_108 rfl k_v1 rfl (Nat.le_of_ble_eq_true rfl) rfl rfl (fun hr108 => ?_)
    refine a_istore (L' := [none, some (.ref v1), none, none, some (.int v4), none, some (.int v6), some (.int v7), some (.ref v8), some (.int v9), some (.int r108)]) dX4_takeFrame_111 rfl (Nat.le_of_ble_eq_true rfl) (fun _ _ hv => by cases hv; rfl) rfl ?_
    refine a_iload dX4_takeFrame_113 rfl rfl ?_
    refine a_iload dX4_takeFrame_115 rfl rfl ?_
    refine a_icmp_ge (t := 132) dX4_takeFrame_117 rfl rfl hf (fun _ hf => ?_) (fun _ hf => ?_)
    · refine a_aload dX4_takeFrame_132 rfl rfl ?_
      refine a_iload dX4_takeFrame_134 rfl rfl ?_
      obtain ⟨r136, h136, hc136, hf⟩ := am_bind_some hf
      refine a_callV (As := [.int r108]) (r1 := (none, Γ, h136)) (sX1_stackWord l k_v8 hc136) ccX1_stackWord tw_617 tw_437 tw_438 (ci := 1) rfl (by decide) ⟨Nat.le_of_ble_eq_true rfl, Nat.le_of_ble_eq_true rfl, Nat.le_of_ble_eq_true rfl, Nat.le_of_ble_eq_true rfl⟩ dX4_takeFrame_136 rfl k_v8 rfl (Nat.le_of_ble_eq_true rfl) rfl rfl (fun hr136 => ?_)
      exact AW.weak (wX4_takeFrame_139 l ih v1 v4 v6 v7 v8 v9 h136 _ k_v1 _ k_v8 hf) ⟨rfl, ⟨rfl, ⟨rfl, ⟨rfl, ⟨rfl, ⟨rfl, trivial⟩⟩⟩⟩⟩⟩
    refine a_aload dX4_takeFrame_120 rfl rfl ?_
    refine a_iload dX4_takeFrame_122 rfl rfl ?_
    refine a_iload dX4_takeFrame_124 rfl rfl ?_
    obtain ⟨r126, h126, hc126, hf⟩ := am_bind_some hf
    refine a_callV (As := [.int v9, .int r108]) (r1 := (none, Γ, h126)) (sX1_setWord l k_v8 hc126) ccX1_setWord tw_616 tw_429 tw_430 (ci := 1) rfl (by decide) ⟨Nat.le_of_ble_eq_true rfl, Nat.le_of_ble_eq_true rfl, Nat.le_of_ble_eq_true rfl, Nat.le_of_ble_eq_true rfl⟩ dX4_takeFrame_126 rfl k_v8 rfl (Nat.le_of_ble_eq_true rfl) rfl rfl (fun hr126 => ?_)
    refine a_goto (t := 139) dX4_takeFrame_129 rfl ?_
    exact AW.weak (wX4_takeFrame_139 l ih v1 v4 v6 v7 v8 v9 h126 _ k_v1 _ k_v8 hf) ⟨rfl, ⟨rfl, ⟨rfl, ⟨rfl, ⟨rfl, ⟨rfl, trivial⟩⟩⟩⟩⟩⟩
set_option maxRecDepth 100000 in
set_option maxHeartbeats 4000000 in
theorem wX4_takeFrame_32 (l : Launch) {Γ : Gm} {r : Int32} {h' : AH} (v0 : Nat) (v1 : Nat) (v2 : Int32) (v4 : Int32) (s0 : Int32) (h : AH) : ∀ n_v0 : Nat, Γ[v0]? = some (4, n_v0) → ∀ n_v1 : Nat, Γ[v1]? = some (0, n_v1) → fX4_takeFrame_32 Γ v0 v1 v2 v4 s0 h = some (r, h') → AW l mX4_takeFrame (some (.int r), Γ, h') 0 0 32 [some (.ref v0), some (.ref v1), some (.int v2), none, some (.int v4), none, none, none, none, none, none] [.int s0] Γ h := by
  intro n_v0 k_v0 n_v1 k_v1 hf
  unfold fX4_takeFrame_32 at hf
  refine a_istore (L' := [some (.ref v0), some (.ref v1), some (.int v2), none, some (.int v4), some (.int s0), none, none, none, none, none]) dX4_takeFrame_32 rfl (Nat.le_of_ble_eq_true rfl) (fun _ _ hv => by cases hv; rfl) rfl ?_
  refine a_aload_n dX4_takeFrame_34 rfl rfl ?_
  refine a_iload_n dX4_takeFrame_35 rfl rfl ?_
  refine a_bipush (v := nI 6) dX4_takeFrame_36 rfl (by decide) ?_
  refine a_iadd dX4_takeFrame_38 rfl ?_
  refine a_iconst (v := nI 2) dX4_takeFrame_39 rfl (by decide) ?_
  obtain ⟨r40, h40, hc40, hf⟩ := am_bind_some hf
  refine a_callV (As := [.int (v2 + (nI 6)), .int (nI 2)]) (r1 := (some (.int r40), Γ, h40)) (sX0_number l k_v1 hc40) ccX0_number tw_604 tw_552 tw_553 (ci := 0) rfl (by decide) ⟨Nat.le_of_ble_eq_true rfl, Nat.le_of_ble_eq_true rfl, Nat.le_of_ble_eq_true rfl, Nat.le_of_ble_eq_true rfl⟩ dX4_takeFrame_40 rfl k_v1 rfl (Nat.le_of_ble_eq_true rfl) rfl rfl (fun hr40 => ?_)
  refine a_istore (L' := [some (.ref v0), some (.ref v1), some (.int v2), none, some (.int v4), some (.int s0), some (.int r40), none, none, none, none]) dX4_takeFrame_43 rfl (Nat.le_of_ble_eq_true rfl) (fun _ _ hv => by cases hv; rfl) rfl ?_
  refine a_aload_n dX4_takeFrame_45 rfl rfl ?_
  refine a_aload_n dX4_takeFrame_46 rfl rfl ?_
  refine a_iload_n dX4_takeFrame_47 rfl rfl ?_
  refine a_iconst (v := nI 3) dX4_takeFrame_48 rfl (by decide) ?_
  obtain ⟨r49, h49, hc49, hf⟩ := am_bind_some hf
  refine a_callV (As := [.int v2, .int (nI 3)]) (r1 := (some (.int r49), Γ, h49)) (sX0_number l k_v1 hc49) ccX0_number tw_604 tw_552 tw_553 (ci := 0) rfl (by decide) ⟨Nat.le_of_ble_eq_true rfl, Nat.le_of_ble_eq_true rfl, Nat.le_of_ble_eq_true rfl, Nat.le_of_ble_eq_true rfl⟩ dX4_takeFrame_49 rfl k_v1 rfl (Nat.le_of_ble_eq_true rfl) rfl rfl (fun hr49 => ?_)
  refine a_iload dX4_takeFrame_52 rfl rfl ?_
  refine a_aload_n dX4_takeFrame_54 rfl rfl ?_
  refine a_iload_n dX4_takeFrame_55 rfl rfl ?_
  refine a_iconst (v := nI 5) dX4_takeFrame_56 rfl (by decide) ?_
  refine a_iadd dX4_takeFrame_57 rfl ?_
  obtain ⟨r58, h58, hc58, hf⟩ := am_bind_some hf
  refine a_callV (As := [.int (v2 + (nI 5))]) (r1 := (some (.int r58), Γ, h58)) (sX0_at l k_v1 hc58) ccX0_at tw_584 tw_309 tw_310 (ci := 0) rfl (by decide) ⟨Nat.le_of_ble_eq_true rfl, Nat.le_of_ble_eq_true rfl, Nat.le_of_ble_eq_true rfl, Nat.le_of_ble_eq_true rfl⟩ dX4_takeFrame_58 rfl k_v1 rfl (Nat.le_of_ble_eq_true rfl) rfl rfl (fun hr58 => ?_)
  obtain ⟨r61, h61, hc61, hf⟩ := am_bind_some hf
  refine a_callS (As := [.int r58]) (r1 := (some (.int r61), Γ, h61)) (sJ6_bitCount_0f7a4 l hc61) ccJ6_bitCount_0f7a4 tw_609 tw_610 ⟨Nat.le_of_ble_eq_true rfl, Nat.le_of_ble_eq_true rfl, Nat.le_of_ble_eq_true rfl, Nat.le_of_ble_eq_true rfl⟩ dX4_takeFrame_61 rfl rfl (Nat.le_of_ble_eq_true rfl) rfl rfl (fun hr61 => ?_)
  refine a_iload dX4_takeFrame_64 rfl rfl ?_
  obtain ⟨r66, h66, hc66, hf⟩ := am_bind_some hf
  refine a_callV (As := [.int r49, .int s0, .int r61, .int v4]) (r1 := (none, Γ, h66)) (sX4_addFrame l k_v0 hc66) ccX4_addFrame tw_361 tw_362 tw_363 (ci := 4) rfl (by decide) ⟨Nat.le_of_ble_eq_true rfl, Nat.le_of_ble_eq_true rfl, Nat.le_of_ble_eq_true rfl, Nat.le_of_ble_eq_true rfl⟩ dX4_takeFrame_66 rfl k_v0 rfl (Nat.le_of_ble_eq_true rfl) rfl rfl (fun hr66 => ?_)
  refine a_iload_n dX4_takeFrame_69 rfl rfl ?_
  refine a_bipush (v := nI 8) dX4_takeFrame_70 rfl (by decide) ?_
  refine a_iadd dX4_takeFrame_72 rfl ?_
  refine a_nmI hf (fun x73 hf => ?_)
  refine a_istore (L' := [some (.ref v0), some (.ref v1), some (.int v2), none, some (.int v4), some (.int s0), some (.int r40), some (.int x73), none, none, none]) dX4_takeFrame_73 rfl (Nat.le_of_ble_eq_true rfl) (fun _ _ hv => by cases hv; rfl) rfl ?_
  refine a_aload_n dX4_takeFrame_75 rfl rfl ?_
  obtain ⟨r76, h76, hc76, hf⟩ := am_bind_some hf
  refine a_callV (As := []) (r1 := (some (am_o r76), Γ, h76)) (sX4_newest l k_v0 hc76) ccX4_newest tw_615 tw_412 tw_413 (ci := 4) rfl (by decide) ⟨Nat.le_of_ble_eq_true rfl, Nat.le_of_ble_eq_true rfl, Nat.le_of_ble_eq_true rfl, Nat.le_of_ble_eq_true rfl⟩ dX4_takeFrame_76 rfl k_v0 rfl (Nat.le_of_ble_eq_true rfl) rfl rfl (fun hr76 => ?_)
  cases r76 with
  | none =>
    refine AW.null ?_
    cases hf
  | some b76 =>
    obtain ⟨n_b76, k_b76⟩ := hr76.1 b76 rfl (by decide)
    refine AW.refo ?_
    refine a_astore (L' := [some (.ref v0), some (.ref v1), some (.int v2), none, some (.int v4), some (.int s0), some (.int r40), some (.int x73), some (.ref b76), none, none]) dX4_takeFrame_79 rfl (Nat.le_of_ble_eq_true rfl) (fun _ _ hv => by cases hv; rfl) rfl ?_
    refine a_iconst (v := nI 0) dX4_takeFrame_81 rfl (by decide) ?_
    refine a_istore (L' := [some (.ref v0), some (.ref v1), some (.int v2), none, some (.int v4), some (.int s0), some (.int r40), some (.int x73), some (.ref b76), some (.int (nI 0)), none]) dX4_takeFrame_82 rfl (Nat.le_of_ble_eq_true rfl) (fun _ _ hv => by cases hv; rfl) rfl ?_
    exact AW.weak (wX4_takeFrame_84 l am_fuel v1 v4 r40 x73 b76 (nI 0) h76 _ k_v1 _ k_b76 hf) ⟨rfl, ⟨rfl, ⟨rfl, ⟨rfl, ⟨rfl, ⟨rfl, trivial⟩⟩⟩⟩⟩⟩
set_option maxRecDepth 100000 in
set_option maxHeartbeats 4000000 in
theorem sX4_takeFrame (l : Launch) {Γ : Gm} {h h' : AH} {v0 : Nat} {v1 : Nat} {v2 : Int32} {r : Int32} {n_v0 : Nat} (k_v0 : Γ[v0]? = some (4, n_v0)) {n_v1 : Nat} (k_v1 : Γ[v1]? = some (0, n_v1)) (hf : fX4_takeFrame Γ v0 v1 v2 h = some (r, h')) : AR l yX4_takeFrame mX4_takeFrame [.ref v0, .ref v1, .int v2] Γ h (some (.int r), Γ, h') := by
  refine AR.of [some (.ref v0), some (.ref v1), some (.int v2), none, none, none, none, none, none, none, none] (by decide +kernel) rfl (fun z => by cases z) (Nat.le_of_ble_eq_true rfl) ⟨rfl, ⟨rfl, ⟨rfl, trivial⟩⟩⟩ ?_
  unfold fX4_takeFrame at hf
  refine a_aload_n dX4_takeFrame_0 rfl rfl ?_
  refine a_iload_n dX4_takeFrame_1 rfl rfl ?_
  refine a_iconst (v := nI 3) dX4_takeFrame_2 rfl (by decide) ?_
  refine a_iadd dX4_takeFrame_3 rfl ?_
  obtain ⟨r4, h4, hc4, hf⟩ := am_bind_some hf
  refine a_callV (As := [.int (v2 + (nI 3))]) (r1 := (some (.int r4), Γ, h4)) (sX0_at l k_v1 hc4) ccX0_at tw_584 tw_309 tw_310 (ci := 0) rfl (by decide) ⟨Nat.le_of_ble_eq_true rfl, Nat.le_of_ble_eq_true rfl, Nat.le_of_ble_eq_true rfl, Nat.le_of_ble_eq_true rfl⟩ dX4_takeFrame_4 rfl k_v1 rfl (Nat.le_of_ble_eq_true rfl) rfl rfl (fun hr4 => ?_)
  refine a_istore_n (L' := [some (.ref v0), some (.ref v1), some (.int v2), some (.int r4), none, none, none, none, none, none, none]) dX4_takeFrame_7 rfl (Nat.le_of_ble_eq_true rfl) (fun _ _ hv => by cases hv; rfl) rfl ?_
  refine a_iload_n dX4_takeFrame_8 rfl rfl ?_
  refine a_bipush (v := nI 15) dX4_takeFrame_9 rfl (by decide) ?_
  refine a_iand dX4_takeFrame_11 rfl ?_
  refine a_nmI hf (fun x12 hf => ?_)
  refine a_istore (L' := [some (.ref v0), some (.ref v1), some (.int v2), some (.int r4), some (.int x12), none, none, none, none, none, none]) dX4_takeFrame_12 rfl (Nat.le_of_ble_eq_true rfl) (fun _ _ hv => by cases hv; rfl) rfl ?_
  refine a_iload_n dX4_takeFrame_14 rfl rfl ?_
  refine a_bipush (v := nI 16) dX4_takeFrame_15 rfl (by decide) ?_
  refine a_icmp_lt (t := 25) dX4_takeFrame_17 rfl rfl hf (fun _ hf => ?_) (fun _ hf => ?_)
  · refine a_aload_n dX4_takeFrame_25 rfl rfl ?_
    refine a_iload_n dX4_takeFrame_26 rfl rfl ?_
    refine a_iconst (v := nI 4) dX4_takeFrame_27 rfl (by decide) ?_
    refine a_iadd dX4_takeFrame_28 rfl ?_
    obtain ⟨r29, h29, hc29, hf⟩ := am_bind_some hf
    refine a_callV (As := [.int (v2 + (nI 4))]) (r1 := (some (.int r29), Γ, h29)) (sX0_at l k_v1 hc29) ccX0_at tw_584 tw_309 tw_310 (ci := 0) rfl (by decide) ⟨Nat.le_of_ble_eq_true rfl, Nat.le_of_ble_eq_true rfl, Nat.le_of_ble_eq_true rfl, Nat.le_of_ble_eq_true rfl⟩ dX4_takeFrame_29 rfl k_v1 rfl (Nat.le_of_ble_eq_true rfl) rfl rfl (fun hr29 => ?_)
    exact AW.weak (wX4_takeFrame_32 l v0 v1 v2 x12 r29 h29 _ k_v0 _ k_v1 hf) ⟨rfl, ⟨rfl, ⟨rfl, ⟨rfl, trivial⟩⟩⟩⟩
  refine a_bipush (v := (-2 : Int32)) dX4_takeFrame_20 rfl (by decide) ?_
  refine a_goto (t := 32) dX4_takeFrame_22 rfl ?_
  exact AW.weak (wX4_takeFrame_32 l v0 v1 v2 x12 ((-2 : Int32)) h4 _ k_v0 _ k_v1 hf) ⟨rfl, ⟨rfl, ⟨rfl, ⟨rfl, trivial⟩⟩⟩⟩
set_option maxRecDepth 100000 in
set_option maxHeartbeats 4000000 in
theorem wX4_takeFrames_31 (l : Launch) {Γ : Gm} {r : Int32} {h' : AH} {k11 : Nat → Nat → Int32 → Int32 → Int32 → AH → Option (Int32 × AH)} (hk11 : ∀ v0 v1 v3 v4 v5 (h : AH), ∀ n_v0 : Nat, Γ[v0]? = some (4, n_v0) → ∀ n_v1 : Nat, Γ[v1]? = some (0, n_v1) → k11 v0 v1 v3 v4 v5 h = some (r, h') → AW l mX4_takeFrames (some (.int r), Γ, h') 0 0 11 [some (.ref v0), some (.ref v1), none, some (.int v3), some (.int v4), some (.int v5), none] [] Γ h) (v0 : Nat) (v1 : Nat) (v3 : Int32) (v4 : Int32) (v5 : Int32) (h : AH) : ∀ n_v0 : Nat, Γ[v0]? = some (4, n_v0) → ∀ n_v1 : Nat, Γ[v1]? = some (0, n_v1) → fX4_takeFrames_31 Γ k11 v0 v1 v3 v4 v5 h = some (r, h') → AW l mX4_takeFrames (some (.int r), Γ, h') 0 0 31 [some (.ref v0), some (.ref v1), none, some (.int v3), some (.int v4), some (.int v5), none] [] Γ h := by
  intro n_v0 k_v0 n_v1 k_v1 hf
  unfold fX4_takeFrames_31 at hf
  refine a_aload_n dX4_takeFrames_31 rfl rfl ?_
  refine a_aload_n dX4_takeFrames_32 rfl rfl ?_
  refine a_iload dX4_takeFrames_33 rfl rfl ?_
  refine a_iload_n dX4_takeFrames_35 rfl rfl ?_
  obtain ⟨r36, h36, hc36, hf⟩ := am_bind_some hf
  refine a_callV (As := [.ref v1, .int v4, .int v3]) (r1 := (some (.int r36), Γ, h36)) (sX4_frameFault l k_v0 k_v1 hc36) ccX4_frameFault tw_594 tw_596 tp_7 (ci := 4) rfl (by decide) ⟨Nat.le_of_ble_eq_true rfl, Nat.le_of_ble_eq_true rfl, Nat.le_of_ble_eq_true rfl, Nat.le_of_ble_eq_true rfl⟩ dX4_takeFrames_36 rfl k_v0 rfl (Nat.le_of_ble_eq_true rfl) rfl rfl (fun hr36 => ?_)
  refine a_istore (L' := [some (.ref v0), some (.ref v1), none, some (.int v3), some (.int v4), some (.int v5), some (.int r36)]) dX4_takeFrames_39 rfl (Nat.le_of_ble_eq_true rfl) (fun _ _ hv => by cases hv; rfl) rfl ?_
  refine a_iload dX4_takeFrames_41 rfl rfl ?_
  refine a_if_eq (t := 49) dX4_takeFrames_43 rfl rfl hf (fun _ hf => ?_) (fun _ hf => ?_)
  · refine a_aload_n dX4_takeFrames_49 rfl rfl ?_
    refine a_aload_n dX4_takeFrames_50 rfl rfl ?_
    refine a_iload dX4_takeFrames_51 rfl rfl ?_
    obtain ⟨r53, h53, hc53, hf⟩ := am_bind_some hf
    refine a_callV (As := [.ref v1, .int v4]) (r1 := (some (.int r53), Γ, h53)) (sX4_takeFrame l k_v0 k_v1 hc53) ccX4_takeFrame tw_605 tw_607 tp_8 (ci := 4) rfl (by decide) ⟨Nat.le_of_ble_eq_true rfl, Nat.le_of_ble_eq_true rfl, Nat.le_of_ble_eq_true rfl, Nat.le_of_ble_eq_true rfl⟩ dX4_takeFrames_53 rfl k_v0 rfl (Nat.le_of_ble_eq_true rfl) rfl rfl (fun hr53 => ?_)
    refine a_istore (L' := [some (.ref v0), some (.ref v1), none, some (.int v3), some (.int r53), some (.int v5), some (.int r36)]) dX4_takeFrames_56 rfl (Nat.le_of_ble_eq_true rfl) (fun _ _ hv => by cases hv; rfl) rfl ?_
    refine a_iinc (v := v5 + nI 1) (L' := [some (.ref v0), some (.ref v1), none, some (.int v3), some (.int r53), some (.int (v5 + nI 1)), some (.int r36)]) dX4_takeFrames_58 rfl rfl rfl (Nat.le_of_ble_eq_true rfl) (fun _ _ hv => by cases hv; rfl) rfl ?_
    refine a_goto (t := 11) dX4_takeFrames_61 rfl ?_
    exact AW.weak (hk11 v0 v1 v3 r53 (v5 + nI 1) h53 _ k_v0 _ k_v1 hf) ⟨rfl, ⟨rfl, ⟨rfl, ⟨rfl, ⟨rfl, trivial⟩⟩⟩⟩⟩
  refine a_iload dX4_takeFrames_46 rfl rfl ?_
  cases hf
  exact a_iret dX4_takeFrames_48 rfl rfl rfl (by decide)
set_option maxRecDepth 100000 in
set_option maxHeartbeats 4000000 in
theorem wX4_takeFrames_11 (l : Launch) {Γ : Gm} {r : Int32} {h' : AH} : ∀ (z : Nat) (v0 : Nat) (v1 : Nat) (v3 : Int32) (v4 : Int32) (v5 : Int32) (h : AH), ∀ n_v0 : Nat, Γ[v0]? = some (4, n_v0) → ∀ n_v1 : Nat, Γ[v1]? = some (0, n_v1) → fX4_takeFrames_11 Γ z v0 v1 v3 v4 v5 h = some (r, h') → AW l mX4_takeFrames (some (.int r), Γ, h') 0 0 11 [some (.ref v0), some (.ref v1), none, some (.int v3), some (.int v4), some (.int v5), none] [] Γ h := by
  intro z
  induction z with
  | zero => intro v0 v1 v3 v4 v5 h n_v0 k_v0 n_v1 k_v1 hf; cases hf
  | succ z ih =>
    intro v0 v1 v3 v4 v5 h n_v0 k_v0 n_v1 k_v1 hf
    unfold fX4_takeFrames_11 at hf
    refine a_iload dX4_takeFrames_11 rfl rfl ?_
    refine a_bipush (v := nI 20) dX4_takeFrames_13 rfl (by decide) ?_
    refine a_icmp_ge (t := 64) dX4_takeFrames_15 rfl rfl hf (fun _ hf => ?_) (fun _ hf => ?_)
    · refine a_iload dX4_takeFrames_64 rfl rfl ?_
      refine a_iload_n dX4_takeFrames_66 rfl rfl ?_
      refine a_icmp_ge (t := 80) dX4_takeFrames_67 rfl rfl hf (fun _ hf => ?_) (fun _ hf => ?_)
      · refine a_iconst (v := nI 0) dX4_takeFrames_80 rfl (by decide) ?_
        cases hf
        exact a_iret dX4_takeFrames_81 rfl rfl rfl (by decide)
      refine a_bipush (v := nI 9) dX4_takeFrames_70 rfl (by decide) ?_
      refine a_iload dX4_takeFrames_72 rfl rfl ?_
      obtain ⟨r74, h74, hc74, hf⟩ := am_bind_some hf
      refine a_callSN (As := [.int (nI 9), .int v4]) (r1 := (some (.int r74), Γ, h74)) (sX8_fault l hc74) ccX8_fault tn_585 tw_549 ⟨Nat.le_of_ble_eq_true rfl, Nat.le_of_ble_eq_true rfl, Nat.le_of_ble_eq_true rfl, Nat.le_of_ble_eq_true rfl⟩ dX4_takeFrames_74 rfl rfl (Nat.le_of_ble_eq_true rfl) rfl rfl (fun hr74 => ?_)
      refine a_goto (t := 81) dX4_takeFrames_77 rfl ?_
      cases hf
      exact a_iret dX4_takeFrames_81 rfl rfl rfl (by decide)
    refine a_iload dX4_takeFrames_18 rfl rfl ?_
    refine a_if_le (t := 31) dX4_takeFrames_20 rfl rfl hf (fun _ hf => ?_) (fun _ hf => ?_)
    · exact AW.weak (wX4_takeFrames_31 l ih v0 v1 v3 v4 v5 h _ k_v0 _ k_v1 hf) ⟨rfl, ⟨rfl, ⟨rfl, ⟨rfl, ⟨rfl, trivial⟩⟩⟩⟩⟩
    refine a_iload dX4_takeFrames_23 rfl rfl ?_
    refine a_iload_n dX4_takeFrames_25 rfl rfl ?_
    refine a_icmp_lt (t := 31) dX4_takeFrames_26 rfl rfl hf (fun _ hf => ?_) (fun _ hf => ?_)
    · exact AW.weak (wX4_takeFrames_31 l ih v0 v1 v3 v4 v5 h _ k_v0 _ k_v1 hf) ⟨rfl, ⟨rfl, ⟨rfl, ⟨rfl, ⟨rfl, trivial⟩⟩⟩⟩⟩
    refine a_iconst (v := nI 0) dX4_takeFrames_29 rfl (by decide) ?_
    cases hf
    exact a_iret dX4_takeFrames_30 rfl rfl rfl (by decide)
set_option maxRecDepth 100000 in
set_option maxHeartbeats 4000000 in
theorem sX4_takeFrames (l : Launch) {Γ : Gm} {h h' : AH} {v0 : Nat} {v1 : Nat} {v2 : Int32} {v3 : Int32} {r : Int32} {n_v0 : Nat} (k_v0 : Γ[v0]? = some (4, n_v0)) {n_v1 : Nat} (k_v1 : Γ[v1]? = some (0, n_v1)) (hf : fX4_takeFrames Γ v0 v1 v2 v3 h = some (r, h')) : AR l yX4_takeFrames mX4_takeFrames [.ref v0, .ref v1, .int v2, .int v3] Γ h (some (.int r), Γ, h') := by
  refine AR.of [some (.ref v0), some (.ref v1), some (.int v2), some (.int v3), none, none, none] (by decide +kernel) rfl (fun z => by cases z) (Nat.le_of_ble_eq_true rfl) ⟨rfl, ⟨rfl, ⟨rfl, ⟨rfl, trivial⟩⟩⟩⟩ ?_
  unfold fX4_takeFrames at hf
  refine a_aload_n dX4_takeFrames_0 rfl rfl ?_
  refine a_iconst (v := nI 0) dX4_takeFrames_1 rfl (by decide) ?_
  refine a_putI fp_RX4_28 dX4_takeFrames_2 rfl k_v0 rfl hf (fun h2 hf => ?_)
  refine a_iload_n dX4_takeFrames_5 rfl rfl ?_
  refine a_istore (L' := [some (.ref v0), some (.ref v1), some (.int v2), some (.int v3), some (.int v2), none, none]) dX4_takeFrames_6 rfl (Nat.le_of_ble_eq_true rfl) (fun _ _ hv => by cases hv; rfl) rfl ?_
  refine a_iconst (v := nI 0) dX4_takeFrames_8 rfl (by decide) ?_
  refine a_istore (L' := [some (.ref v0), some (.ref v1), some (.int v2), some (.int v3), some (.int v2), some (.int (nI 0)), none]) dX4_takeFrames_9 rfl (Nat.le_of_ble_eq_true rfl) (fun _ _ hv => by cases hv; rfl) rfl ?_
  exact AW.weak (wX4_takeFrames_11 l am_fuel v0 v1 v3 v2 (nI 0) h2 _ k_v0 _ k_v1 hf) ⟨rfl, ⟨rfl, ⟨rfl, ⟨rfl, ⟨rfl, trivial⟩⟩⟩⟩⟩
set_option maxRecDepth 100000 in
set_option maxHeartbeats 4000000 in
theorem sX4_byteAt (l : Launch) {Γ : Gm} {h h' : AH} {v0 : Nat} {v1 : Int32} {r : Int32} {n_v0 : Nat} (k_v0 : Γ[v0]? = some (4, n_v0)) (hf : fX4_byteAt Γ v0 v1 h = some (r, h')) : AR l yX4_byteAt mX4_byteAt [.ref v0, .int v1] Γ h (some (.int r), Γ, h') := by
  refine AR.of [some (.ref v0), some (.int v1)] (by decide +kernel) rfl (fun z => by cases z) (Nat.le_of_ble_eq_true rfl) ⟨rfl, ⟨rfl, trivial⟩⟩ ?_
  unfold fX4_byteAt at hf
  refine a_iload_n dX4_byteAt_0 rfl rfl ?_
  refine a_if_lt (t := 30) dX4_byteAt_1 rfl rfl hf (fun _ hf => ?_) (fun _ hf => ?_)
  · refine a_iconst (v := nI 0) dX4_byteAt_30 rfl (by decide) ?_
    cases hf
    exact a_iret dX4_byteAt_31 rfl rfl rfl (by decide)
  refine a_iload_n dX4_byteAt_4 rfl rfl ?_
  refine a_aload_n dX4_byteAt_5 rfl rfl ?_
  refine a_getI fl_RX4_21 dX4_byteAt_6 rfl k_v0 rfl ?_
  refine a_icmp_ge (t := 30) dX4_byteAt_9 rfl rfl hf (fun _ hf => ?_) (fun _ hf => ?_)
  · refine a_iconst (v := nI 0) dX4_byteAt_30 rfl (by decide) ?_
    cases hf
    exact a_iret dX4_byteAt_31 rfl rfl rfl (by decide)
  refine a_iload_n dX4_byteAt_12 rfl rfl ?_
  refine a_aload_n dX4_byteAt_13 rfl rfl ?_
  refine a_getR fl_RX4_9 dX4_byteAt_14 rfl k_v0 rfl (by decide) hf (fun b14 n_b14 _ k_b14 hf => ?_)
  refine a_alen dX4_byteAt_17 rfl k_b14 ?_
  refine a_icmp_ge (t := 30) dX4_byteAt_18 rfl rfl hf (fun _ hf => ?_) (fun _ hf => ?_)
  · refine a_iconst (v := nI 0) dX4_byteAt_30 rfl (by decide) ?_
    cases hf
    exact a_iret dX4_byteAt_31 rfl rfl rfl (by decide)
  refine a_aload_n dX4_byteAt_21 rfl rfl ?_
  refine a_getR fl_RX4_9 dX4_byteAt_22 rfl k_v0 rfl (by decide) hf (fun b22 n_b22 _ k_b22 hf => ?_)
  refine a_iload_n dX4_byteAt_25 rfl rfl ?_
  refine a_iald dX4_byteAt_26 rfl k_b22 hf (fun hf => ?_)
  refine a_goto (t := 31) dX4_byteAt_27 rfl ?_
  cases hf
  exact a_iret dX4_byteAt_31 rfl rfl rfl (by decide)
set_option maxRecDepth 100000 in
set_option maxHeartbeats 4000000 in
theorem wX4_takeRuns_110 (l : Launch) {Γ : Gm} {r : Int32} {h' : AH} {k6 : Nat → Nat → Int32 → Int32 → Int32 → AH → Option (Int32 × AH)} (hk6 : ∀ v0 v1 v3 v4 v5 (h : AH), ∀ n_v0 : Nat, Γ[v0]? = some (4, n_v0) → ∀ n_v1 : Nat, Γ[v1]? = some (0, n_v1) → k6 v0 v1 v3 v4 v5 h = some (r, h') → AW l mX4_takeRuns (some (.int r), Γ, h') 0 0 6 [some (.ref v0), some (.ref v1), none, some (.int v3), some (.int v4), some (.int v5), none, none] [] Γ h) (v0 : Nat) (v1 : Nat) (v3 : Int32) (v4 : Int32) (v5 : Int32) (v7 : Int32) (h : AH) : ∀ n_v0 : Nat, Γ[v0]? = some (4, n_v0) → ∀ n_v1 : Nat, Γ[v1]? = some (0, n_v1) → fX4_takeRuns_110 Γ k6 v0 v1 v3 v4 v5 v7 h = some (r, h') → AW l mX4_takeRuns (some (.int r), Γ, h') 0 0 110 [some (.ref v0), some (.ref v1), none, some (.int v3), some (.int v4), some (.int v5), none, some (.int v7)] [] Γ h := by
  intro n_v0 k_v0 n_v1 k_v1 hf
  unfold fX4_takeRuns_110 at hf
  refine a_iload dX4_takeRuns_110 rfl rfl ?_
  refine a_iload dX4_takeRuns_112 rfl rfl ?_
  refine a_iadd dX4_takeRuns_114 rfl ?_
  refine a_nmI hf (fun x115 hf => ?_)
  refine a_istore (L' := [some (.ref v0), some (.ref v1), none, some (.int v3), some (.int x115), some (.int v5), none, some (.int v7)]) dX4_takeRuns_115 rfl (Nat.le_of_ble_eq_true rfl) (fun _ _ hv => by cases hv; rfl) rfl ?_
  refine a_iinc (v := v5 + nI 1) (L' := [some (.ref v0), some (.ref v1), none, some (.int v3), some (.int x115), some (.int (v5 + nI 1)), none, some (.int v7)]) dX4_takeRuns_117 rfl rfl rfl (Nat.le_of_ble_eq_true rfl) (fun _ _ hv => by cases hv; rfl) rfl ?_
  refine a_goto (t := 6) dX4_takeRuns_120 rfl ?_
  exact AW.weak (hk6 v0 v1 v3 x115 (v5 + nI 1) h _ k_v0 _ k_v1 hf) ⟨rfl, ⟨rfl, ⟨rfl, ⟨rfl, ⟨rfl, trivial⟩⟩⟩⟩⟩
set_option maxRecDepth 100000 in
set_option maxHeartbeats 4000000 in
theorem wX4_takeRuns_62 (l : Launch) {Γ : Gm} {r : Int32} {h' : AH} {k6 : Nat → Nat → Int32 → Int32 → Int32 → AH → Option (Int32 × AH)} (hk6 : ∀ v0 v1 v3 v4 v5 (h : AH), ∀ n_v0 : Nat, Γ[v0]? = some (4, n_v0) → ∀ n_v1 : Nat, Γ[v1]? = some (0, n_v1) → k6 v0 v1 v3 v4 v5 h = some (r, h') → AW l mX4_takeRuns (some (.int r), Γ, h') 0 0 6 [some (.ref v0), some (.ref v1), none, some (.int v3), some (.int v4), some (.int v5), none, none] [] Γ h) (v0 : Nat) (v1 : Nat) (v3 : Int32) (v4 : Int32) (v5 : Int32) (v6 : Int32) (s0 : Int32) (h : AH) : ∀ n_v0 : Nat, Γ[v0]? = some (4, n_v0) → ∀ n_v1 : Nat, Γ[v1]? = some (0, n_v1) → fX4_takeRuns_62 Γ k6 v0 v1 v3 v4 v5 v6 s0 h = some (r, h') → AW l mX4_takeRuns (some (.int r), Γ, h') 0 0 62 [some (.ref v0), some (.ref v1), none, some (.int v3), some (.int v4), some (.int v5), some (.int v6), none] [.int s0] Γ h := by
  intro n_v0 k_v0 n_v1 k_v1 hf
  unfold fX4_takeRuns_62 at hf
  refine a_istore (L' := [some (.ref v0), some (.ref v1), none, some (.int v3), some (.int v4), some (.int v5), some (.int v6), some (.int s0)]) dX4_takeRuns_62 rfl (Nat.le_of_ble_eq_true rfl) (fun _ _ hv => by cases hv; rfl) rfl ?_
  refine a_iload dX4_takeRuns_64 rfl rfl ?_
  refine a_iload dX4_takeRuns_66 rfl rfl ?_
  refine a_iadd dX4_takeRuns_68 rfl ?_
  refine a_aload_n dX4_takeRuns_69 rfl rfl ?_
  refine a_getI fl_RX4_21 dX4_takeRuns_70 rfl k_v0 rfl ?_
  refine a_icmp_le (t := 84) dX4_takeRuns_73 rfl rfl hf (fun _ hf => ?_) (fun _ hf => ?_)
  · refine a_iload dX4_takeRuns_84 rfl rfl ?_
    refine a_if_ne (t := 95) dX4_takeRuns_86 rfl rfl hf (fun _ hf => ?_) (fun _ hf => ?_)
    · refine a_iinc (v := v5 + nI 1) (L' := [some (.ref v0), some (.ref v1), none, some (.int v3), some (.int v4), some (.int (v5 + nI 1)), some (.int v6), some (.int s0)]) dX4_takeRuns_89 rfl rfl rfl (Nat.le_of_ble_eq_true rfl) (fun _ _ hv => by cases hv; rfl) rfl ?_
      refine a_goto (t := 110) dX4_takeRuns_92 rfl ?_
      exact AW.weak (wX4_takeRuns_110 l hk6 v0 v1 v3 v4 (v5 + nI 1) s0 h _ k_v0 _ k_v1 hf) ⟨rfl, ⟨rfl, ⟨rfl, ⟨rfl, ⟨rfl, ⟨rfl, trivial⟩⟩⟩⟩⟩⟩
    refine a_aload_n dX4_takeRuns_95 rfl rfl ?_
    refine a_iload dX4_takeRuns_96 rfl rfl ?_
    refine a_aload_n dX4_takeRuns_98 rfl rfl ?_
    refine a_iload dX4_takeRuns_99 rfl rfl ?_
    obtain ⟨r101, h101, hc101, hf⟩ := am_bind_some hf
    refine a_callV (As := [.int v4]) (r1 := (some (.int r101), Γ, h101)) (sX4_byteAt l k_v0 hc101) ccX4_byteAt tw_512 tw_389 tw_390 (ci := 4) rfl (by decide) ⟨Nat.le_of_ble_eq_true rfl, Nat.le_of_ble_eq_true rfl, Nat.le_of_ble_eq_true rfl, Nat.le_of_ble_eq_true rfl⟩ dX4_takeRuns_101 rfl k_v0 rfl (Nat.le_of_ble_eq_true rfl) rfl rfl (fun hr101 => ?_)
    refine a_iload dX4_takeRuns_104 rfl rfl ?_
    refine a_ixor dX4_takeRuns_106 rfl ?_
    obtain ⟨r107, h107, hc107, hf⟩ := am_bind_some hf
    refine a_callV (As := [.int v4, .int (r101 ^^^ v6)]) (r1 := (none, Γ, h107)) (sX4_setByte l k_v0 hc107) ccX4_setByte tw_357 tw_358 tw_359 (ci := 4) rfl (by decide) ⟨Nat.le_of_ble_eq_true rfl, Nat.le_of_ble_eq_true rfl, Nat.le_of_ble_eq_true rfl, Nat.le_of_ble_eq_true rfl⟩ dX4_takeRuns_107 rfl k_v0 rfl (Nat.le_of_ble_eq_true rfl) rfl rfl (fun hr107 => ?_)
    exact AW.weak (wX4_takeRuns_110 l hk6 v0 v1 v3 v4 v5 s0 h107 _ k_v0 _ k_v1 hf) ⟨rfl, ⟨rfl, ⟨rfl, ⟨rfl, ⟨rfl, ⟨rfl, trivial⟩⟩⟩⟩⟩⟩
  refine a_bipush (v := nI 7) dX4_takeRuns_76 rfl (by decide) ?_
  refine a_iload dX4_takeRuns_78 rfl rfl ?_
  obtain ⟨r80, h80, hc80, hf⟩ := am_bind_some hf
  refine a_callSN (As := [.int (nI 7), .int v5]) (r1 := (some (.int r80), Γ, h80)) (sX8_fault l hc80) ccX8_fault tn_585 tw_549 ⟨Nat.le_of_ble_eq_true rfl, Nat.le_of_ble_eq_true rfl, Nat.le_of_ble_eq_true rfl, Nat.le_of_ble_eq_true rfl⟩ dX4_takeRuns_80 rfl rfl (Nat.le_of_ble_eq_true rfl) rfl rfl (fun hr80 => ?_)
  cases hf
  exact a_iret dX4_takeRuns_83 rfl rfl rfl (by decide)
set_option maxRecDepth 100000 in
set_option maxHeartbeats 4000000 in
theorem wX4_takeRuns_43 (l : Launch) {Γ : Gm} {r : Int32} {h' : AH} {k6 : Nat → Nat → Int32 → Int32 → Int32 → AH → Option (Int32 × AH)} (hk6 : ∀ v0 v1 v3 v4 v5 (h : AH), ∀ n_v0 : Nat, Γ[v0]? = some (4, n_v0) → ∀ n_v1 : Nat, Γ[v1]? = some (0, n_v1) → k6 v0 v1 v3 v4 v5 h = some (r, h') → AW l mX4_takeRuns (some (.int r), Γ, h') 0 0 6 [some (.ref v0), some (.ref v1), none, some (.int v3), some (.int v4), some (.int v5), none, none] [] Γ h) (v0 : Nat) (v1 : Nat) (v3 : Int32) (v4 : Int32) (v5 : Int32) (v6 : Int32) (h : AH) : ∀ n_v0 : Nat, Γ[v0]? = some (4, n_v0) → ∀ n_v1 : Nat, Γ[v1]? = some (0, n_v1) → fX4_takeRuns_43 Γ k6 v0 v1 v3 v4 v5 v6 h = some (r, h') → AW l mX4_takeRuns (some (.int r), Γ, h') 0 0 43 [some (.ref v0), some (.ref v1), none, some (.int v3), some (.int v4), some (.int v5), some (.int v6), none] [] Γ h := by
  intro n_v0 k_v0 n_v1 k_v1 hf
  unfold fX4_takeRuns_43 at hf
  refine a_iload dX4_takeRuns_43 rfl rfl ?_
  refine a_if_ne (t := 61) dX4_takeRuns_45 rfl rfl hf (fun _ hf => ?_) (fun _ hf => ?_)
  · refine a_aload_n dX4_takeRuns_48 rfl rfl ?_
    refine a_iload dX4_takeRuns_49 rfl rfl ?_
    refine a_iconst (v := nI 1) dX4_takeRuns_51 rfl (by decide) ?_
    refine a_iadd dX4_takeRuns_52 rfl ?_
    obtain ⟨r53, h53, hc53, hf⟩ := am_bind_some hf
    refine a_callV (As := [.int (v5 + (nI 1))]) (r1 := (some (.int r53), Γ, h53)) (sX0_at l k_v1 hc53) ccX0_at tw_584 tw_309 tw_310 (ci := 0) rfl (by decide) ⟨Nat.le_of_ble_eq_true rfl, Nat.le_of_ble_eq_true rfl, Nat.le_of_ble_eq_true rfl, Nat.le_of_ble_eq_true rfl⟩ dX4_takeRuns_53 rfl k_v1 rfl (Nat.le_of_ble_eq_true rfl) rfl rfl (fun hr53 => ?_)
    refine a_iconst (v := nI 1) dX4_takeRuns_56 rfl (by decide) ?_
    refine a_iadd dX4_takeRuns_57 rfl ?_
    refine a_goto (t := 62) dX4_takeRuns_58 rfl ?_
    exact AW.weak (wX4_takeRuns_62 l hk6 v0 v1 v3 v4 v5 v6 (r53 + (nI 1)) h53 _ k_v0 _ k_v1 hf) ⟨rfl, ⟨rfl, ⟨rfl, ⟨rfl, ⟨rfl, ⟨rfl, trivial⟩⟩⟩⟩⟩⟩
  refine a_iconst (v := nI 1) dX4_takeRuns_61 rfl (by decide) ?_
  exact AW.weak (wX4_takeRuns_62 l hk6 v0 v1 v3 v4 v5 v6 (nI 1) h _ k_v0 _ k_v1 hf) ⟨rfl, ⟨rfl, ⟨rfl, ⟨rfl, ⟨rfl, ⟨rfl, trivial⟩⟩⟩⟩⟩⟩
set_option maxRecDepth 100000 in
set_option maxHeartbeats 4000000 in
theorem wX4_takeRuns_6 (l : Launch) {Γ : Gm} {r : Int32} {h' : AH} : ∀ (z : Nat) (v0 : Nat) (v1 : Nat) (v3 : Int32) (v4 : Int32) (v5 : Int32) (h : AH), ∀ n_v0 : Nat, Γ[v0]? = some (4, n_v0) → ∀ n_v1 : Nat, Γ[v1]? = some (0, n_v1) → fX4_takeRuns_6 Γ z v0 v1 v3 v4 v5 h = some (r, h') → AW l mX4_takeRuns (some (.int r), Γ, h') 0 0 6 [some (.ref v0), some (.ref v1), none, some (.int v3), some (.int v4), some (.int v5), none, none] [] Γ h := by
  intro z
  induction z with
  | zero => intro v0 v1 v3 v4 v5 h n_v0 k_v0 n_v1 k_v1 hf; cases hf
  | succ z ih =>
    intro v0 v1 v3 v4 v5 h n_v0 k_v0 n_v1 k_v1 hf
    unfold fX4_takeRuns_6 at hf
    refine a_iload dX4_takeRuns_6 rfl rfl ?_
    refine a_iload_n dX4_takeRuns_8 rfl rfl ?_
    refine a_icmp_ge (t := 123) dX4_takeRuns_9 rfl rfl hf (fun _ hf => ?_) (fun _ hf => ?_)
    · refine a_iconst (v := nI 0) dX4_takeRuns_123 rfl (by decide) ?_
      cases hf
      exact a_iret dX4_takeRuns_124 rfl rfl rfl (by decide)
    refine a_aload_n dX4_takeRuns_12 rfl rfl ?_
    refine a_iload dX4_takeRuns_13 rfl rfl ?_
    obtain ⟨r15, h15, hc15, hf⟩ := am_bind_some hf
    refine a_callV (As := [.int v5]) (r1 := (some (.int r15), Γ, h15)) (sX0_at l k_v1 hc15) ccX0_at tw_584 tw_309 tw_310 (ci := 0) rfl (by decide) ⟨Nat.le_of_ble_eq_true rfl, Nat.le_of_ble_eq_true rfl, Nat.le_of_ble_eq_true rfl, Nat.le_of_ble_eq_true rfl⟩ dX4_takeRuns_15 rfl k_v1 rfl (Nat.le_of_ble_eq_true rfl) rfl rfl (fun hr15 => ?_)
    refine a_istore (L' := [some (.ref v0), some (.ref v1), none, some (.int v3), some (.int v4), some (.int v5), some (.int r15), none]) dX4_takeRuns_18 rfl (Nat.le_of_ble_eq_true rfl) (fun _ _ hv => by cases hv; rfl) rfl ?_
    refine a_iload dX4_takeRuns_20 rfl rfl ?_
    refine a_if_ne (t := 43) dX4_takeRuns_22 rfl rfl hf (fun _ hf => ?_) (fun _ hf => ?_)
    · refine a_iload dX4_takeRuns_25 rfl rfl ?_
      refine a_iconst (v := nI 1) dX4_takeRuns_27 rfl (by decide) ?_
      refine a_iadd dX4_takeRuns_28 rfl ?_
      refine a_iload_n dX4_takeRuns_29 rfl rfl ?_
      refine a_icmp_lt (t := 43) dX4_takeRuns_30 rfl rfl hf (fun _ hf => ?_) (fun _ hf => ?_)
      · exact AW.weak (wX4_takeRuns_43 l ih v0 v1 v3 v4 v5 r15 h15 _ k_v0 _ k_v1 hf) ⟨rfl, ⟨rfl, ⟨rfl, ⟨rfl, ⟨rfl, ⟨rfl, trivial⟩⟩⟩⟩⟩⟩
      refine a_bipush (v := nI 7) dX4_takeRuns_33 rfl (by decide) ?_
      refine a_iload dX4_takeRuns_35 rfl rfl ?_
      refine a_iconst (v := nI 1) dX4_takeRuns_37 rfl (by decide) ?_
      refine a_iadd dX4_takeRuns_38 rfl ?_
      obtain ⟨r39, h39, hc39, hf⟩ := am_bind_some hf
      refine a_callSN (As := [.int (nI 7), .int (v5 + (nI 1))]) (r1 := (some (.int r39), Γ, h39)) (sX8_fault l hc39) ccX8_fault tn_585 tw_549 ⟨Nat.le_of_ble_eq_true rfl, Nat.le_of_ble_eq_true rfl, Nat.le_of_ble_eq_true rfl, Nat.le_of_ble_eq_true rfl⟩ dX4_takeRuns_39 rfl rfl (Nat.le_of_ble_eq_true rfl) rfl rfl (fun hr39 => ?_)
      cases hf
      exact a_iret dX4_takeRuns_42 rfl rfl rfl (by decide)
    exact AW.weak (wX4_takeRuns_43 l ih v0 v1 v3 v4 v5 r15 h15 _ k_v0 _ k_v1 hf) ⟨rfl, ⟨rfl, ⟨rfl, ⟨rfl, ⟨rfl, ⟨rfl, trivial⟩⟩⟩⟩⟩⟩
set_option maxRecDepth 100000 in
set_option maxHeartbeats 4000000 in
theorem sX4_takeRuns (l : Launch) {Γ : Gm} {h h' : AH} {v0 : Nat} {v1 : Nat} {v2 : Int32} {v3 : Int32} {r : Int32} {n_v0 : Nat} (k_v0 : Γ[v0]? = some (4, n_v0)) {n_v1 : Nat} (k_v1 : Γ[v1]? = some (0, n_v1)) (hf : fX4_takeRuns Γ v0 v1 v2 v3 h = some (r, h')) : AR l yX4_takeRuns mX4_takeRuns [.ref v0, .ref v1, .int v2, .int v3] Γ h (some (.int r), Γ, h') := by
  refine AR.of [some (.ref v0), some (.ref v1), some (.int v2), some (.int v3), none, none, none, none] (by decide +kernel) rfl (fun z => by cases z) (Nat.le_of_ble_eq_true rfl) ⟨rfl, ⟨rfl, ⟨rfl, ⟨rfl, trivial⟩⟩⟩⟩ ?_
  unfold fX4_takeRuns at hf
  refine a_iconst (v := nI 0) dX4_takeRuns_0 rfl (by decide) ?_
  refine a_istore (L' := [some (.ref v0), some (.ref v1), some (.int v2), some (.int v3), some (.int (nI 0)), none, none, none]) dX4_takeRuns_1 rfl (Nat.le_of_ble_eq_true rfl) (fun _ _ hv => by cases hv; rfl) rfl ?_
  refine a_iload_n dX4_takeRuns_3 rfl rfl ?_
  refine a_istore (L' := [some (.ref v0), some (.ref v1), some (.int v2), some (.int v3), some (.int (nI 0)), some (.int v2), none, none]) dX4_takeRuns_4 rfl (Nat.le_of_ble_eq_true rfl) (fun _ _ hv => by cases hv; rfl) rfl ?_
  exact AW.weak (wX4_takeRuns_6 l am_fuel v0 v1 v3 (nI 0) v2 h _ k_v0 _ k_v1 hf) ⟨rfl, ⟨rfl, ⟨rfl, ⟨rfl, ⟨rfl, trivial⟩⟩⟩⟩⟩
set_option maxRecDepth 100000 in
set_option maxHeartbeats 4000000 in
theorem sX2_takeLatest (l : Launch) {Γ : Gm} {h h' : AH} {v0 : Nat} {v1 : Nat} {v2 : Nat} {r : Unit} {n_v0 : Nat} (k_v0 : Γ[v0]? = some (2, n_v0)) {n_v1 : Nat} (k_v1 : Γ[v1]? = some (5, n_v1)) {n_v2 : Nat} (k_v2 : Γ[v2]? = some (4, n_v2)) (hf : fX2_takeLatest Γ v0 v1 v2 h = some (r, h')) : AR l yX2_takeLatest mX2_takeLatest [.ref v0, .ref v1, .ref v2] Γ h (none, Γ, h') := by
  refine AR.of [some (.ref v0), some (.ref v1), some (.ref v2), none, none, none] (by decide +kernel) rfl (fun z => by cases z) (Nat.le_of_ble_eq_true rfl) ⟨rfl, ⟨rfl, ⟨rfl, trivial⟩⟩⟩ ?_
  unfold fX2_takeLatest at hf
  refine a_aload_n dX2_takeLatest_0 rfl rfl ?_
  refine a_getI fl_RX2_30 dX2_takeLatest_1 rfl k_v0 rfl ?_
  refine a_iconst (v := nI 1) dX2_takeLatest_4 rfl (by decide) ?_
  refine a_isub dX2_takeLatest_5 rfl ?_
  refine a_nmI hf (fun x6 hf => ?_)
  refine a_istore_n (L' := [some (.ref v0), some (.ref v1), some (.ref v2), some (.int x6), none, none]) dX2_takeLatest_6 rfl (Nat.le_of_ble_eq_true rfl) (fun _ _ hv => by cases hv; rfl) rfl ?_
  refine a_iload_n dX2_takeLatest_7 rfl rfl ?_
  refine a_if_lt (t := 104) dX2_takeLatest_8 rfl rfl hf (fun _ hf => ?_) (fun _ hf => ?_)
  · cases hf
    exact a_ret dX2_takeLatest_104 rfl rfl rfl
  refine a_iload_n dX2_takeLatest_11 rfl rfl ?_
  refine a_bipush (v := nI 8) dX2_takeLatest_12 rfl (by decide) ?_
  refine a_icmp_ge (t := 104) dX2_takeLatest_14 rfl rfl hf (fun _ hf => ?_) (fun _ hf => ?_)
  · cases hf
    exact a_ret dX2_takeLatest_104 rfl rfl rfl
  refine a_aload_n dX2_takeLatest_17 rfl rfl ?_
  refine a_getR fl_RX2_14 dX2_takeLatest_18 rfl k_v0 rfl (by decide) hf (fun b18 n_b18 _ k_b18 hf => ?_)
  refine a_getI fl_RX2_40 dX2_takeLatest_21 rfl k_b18 rfl ?_
  refine a_aload_n dX2_takeLatest_24 rfl rfl ?_
  refine a_getR fl_RX2_24 dX2_takeLatest_25 rfl k_v0 rfl (by decide) hf (fun b25 n_b25 _ k_b25 hf => ?_)
  refine a_iload_n dX2_takeLatest_28 rfl rfl ?_
  refine a_iald dX2_takeLatest_29 rfl k_b25 hf (fun hf => ?_)
  refine a_isub dX2_takeLatest_30 rfl ?_
  refine a_nmI hf (fun x31 hf => ?_)
  refine a_istore (L' := [some (.ref v0), some (.ref v1), some (.ref v2), some (.int x6), some (.int x31), none]) dX2_takeLatest_31 rfl (Nat.le_of_ble_eq_true rfl) (fun _ _ hv => by cases hv; rfl) rfl ?_
  refine a_iload dX2_takeLatest_33 rfl rfl ?_
  refine a_aload_n dX2_takeLatest_35 rfl rfl ?_
  refine a_getR fl_RX2_20 dX2_takeLatest_36 rfl k_v0 rfl (by decide) hf (fun b36 n_b36 _ k_b36 hf => ?_)
  refine a_iload_n dX2_takeLatest_39 rfl rfl ?_
  refine a_iald dX2_takeLatest_40 rfl k_b36 hf (fun hf => ?_)
  refine a_iadd dX2_takeLatest_41 rfl ?_
  refine a_nmI hf (fun x42 hf => ?_)
  refine a_istore (L' := [some (.ref v0), some (.ref v1), some (.ref v2), some (.int x6), some (.int x31), some (.int x42)]) dX2_takeLatest_42 rfl (Nat.le_of_ble_eq_true rfl) (fun _ _ hv => by cases hv; rfl) rfl ?_
  refine a_aload_n dX2_takeLatest_44 rfl rfl ?_
  refine a_aload_n dX2_takeLatest_45 rfl rfl ?_
  obtain ⟨r46, h46, hc46, hf⟩ := am_bind_some hf
  refine a_callV (As := [.ref v1]) (r1 := (none, Γ, h46)) (sX4_begin l k_v2 k_v1 hc46) ccX4_begin tw_696 tw_350 tw_351 (ci := 4) rfl (by decide) ⟨Nat.le_of_ble_eq_true rfl, Nat.le_of_ble_eq_true rfl, Nat.le_of_ble_eq_true rfl, Nat.le_of_ble_eq_true rfl⟩ dX2_takeLatest_46 rfl k_v2 rfl (Nat.le_of_ble_eq_true rfl) rfl rfl (fun hr46 => ?_)
  refine a_aload_n dX2_takeLatest_49 rfl rfl ?_
  refine a_aload_n dX2_takeLatest_50 rfl rfl ?_
  refine a_getR fl_RX2_14 dX2_takeLatest_51 rfl k_v0 rfl (by decide) hf (fun b51 n_b51 _ k_b51 hf => ?_)
  refine a_iload dX2_takeLatest_54 rfl rfl ?_
  refine a_iload dX2_takeLatest_56 rfl rfl ?_
  obtain ⟨r58, h58, hc58, hf⟩ := am_bind_some hf
  refine a_callV (As := [.ref b51, .int x31, .int x42]) (r1 := (some (.int r58), Γ, h58)) (sX4_takeRuns l k_v2 k_b51 hc58) ccX4_takeRuns tw_697 tw_581 tw_582 (ci := 4) rfl (by decide) ⟨Nat.le_of_ble_eq_true rfl, Nat.le_of_ble_eq_true rfl, Nat.le_of_ble_eq_true rfl, Nat.le_of_ble_eq_true rfl⟩ dX2_takeLatest_58 rfl k_v2 rfl (Nat.le_of_ble_eq_true rfl) rfl rfl (fun hr58 => ?_)
  refine a_pop dX2_takeLatest_61 rfl rfl ?_
  refine a_aload_n dX2_takeLatest_62 rfl rfl ?_
  refine a_aload_n dX2_takeLatest_63 rfl rfl ?_
  refine a_getR fl_RX2_14 dX2_takeLatest_64 rfl k_v0 rfl (by decide) hf (fun b64 n_b64 _ k_b64 hf => ?_)
  refine a_iload dX2_takeLatest_67 rfl rfl ?_
  refine a_aload_n dX2_takeLatest_69 rfl rfl ?_
  refine a_getR fl_RX2_14 dX2_takeLatest_70 rfl k_v0 rfl (by decide) hf (fun b70 n_b70 _ k_b70 hf => ?_)
  refine a_getI fl_RX2_40 dX2_takeLatest_73 rfl k_b70 rfl ?_
  obtain ⟨r76, h76, hc76, hf⟩ := am_bind_some hf
  refine a_callV (As := [.ref b64, .int x42, .int (h58.1 b70 1)]) (r1 := (some (.int r76), Γ, h76)) (sX4_takeFrames l k_v2 k_b64 hc76) ccX4_takeFrames tw_698 tw_591 tw_592 (ci := 4) rfl (by decide) ⟨Nat.le_of_ble_eq_true rfl, Nat.le_of_ble_eq_true rfl, Nat.le_of_ble_eq_true rfl, Nat.le_of_ble_eq_true rfl⟩ dX2_takeLatest_76 rfl k_v2 rfl (Nat.le_of_ble_eq_true rfl) rfl rfl (fun hr76 => ?_)
  refine a_pop dX2_takeLatest_79 rfl rfl ?_
  refine a_aload_n dX2_takeLatest_80 rfl rfl ?_
  refine a_aload_n dX2_takeLatest_81 rfl rfl ?_
  refine a_getR fl_RX2_27 dX2_takeLatest_82 rfl k_v0 rfl (by decide) hf (fun b82 n_b82 _ k_b82 hf => ?_)
  refine a_iload_n dX2_takeLatest_85 rfl rfl ?_
  refine a_iald dX2_takeLatest_86 rfl k_b82 hf (fun hf => ?_)
  refine a_putI fp_RX2_70 dX2_takeLatest_87 rfl k_v2 rfl hf (fun h87 hf => ?_)
  refine a_aload_n dX2_takeLatest_90 rfl rfl ?_
  refine a_getR fl_RX2_14 dX2_takeLatest_91 rfl k_v0 rfl (by decide) hf (fun b91 n_b91 _ k_b91 hf => ?_)
  refine a_iload dX2_takeLatest_94 rfl rfl ?_
  obtain ⟨r96, h96, hc96, hf⟩ := am_bind_some hf
  refine a_callV (As := [.int x31]) (r1 := (none, Γ, h96)) (sX0_keepFirst l k_b91 hc96) ccX0_keepFirst tw_699 tw_301 tw_302 (ci := 0) rfl (by decide) ⟨Nat.le_of_ble_eq_true rfl, Nat.le_of_ble_eq_true rfl, Nat.le_of_ble_eq_true rfl, Nat.le_of_ble_eq_true rfl⟩ dX2_takeLatest_96 rfl k_b91 rfl (Nat.le_of_ble_eq_true rfl) rfl rfl (fun hr96 => ?_)
  refine a_aload_n dX2_takeLatest_99 rfl rfl ?_
  refine a_iload_n dX2_takeLatest_100 rfl rfl ?_
  refine a_putI fp_RX2_30 dX2_takeLatest_101 rfl k_v0 rfl hf (fun h101 hf => ?_)
  cases hf
  exact a_ret dX2_takeLatest_104 rfl rfl rfl
