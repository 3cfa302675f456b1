set_option maxRecDepth 100000 in
set_option maxHeartbeats 4000000 in
theorem wX8_save_110 (l : Launch) {Γ : Gm} {r : Int32} {h' : AH} (v0 : Nat) (h : AH) : ∀ n_v0 : Nat, Γ[v0]? = some (8, n_v0) → fX8_save_110 Γ v0 h = some (r, h') → AW l mX8_save (some (.int r), Γ, h') 0 0 110 [some (.ref v0), none] [] Γ h := by
  intro n_v0 k_v0 hf
  unfold fX8_save_110 at hf
  refine a_aload_n dX8_save_110 rfl rfl ?_
  refine a_getR fl_RX8_19 dX8_save_111 rfl k_v0 rfl (by decide) hf (fun b111 n_b111 _ k_b111 hf => ?_)
  obtain ⟨r114, h114, hc114, hf⟩ := am_bind_some hf
  refine a_callV (As := []) (r1 := (none, Γ, h114)) (sX7_closeChunk l k_b111 hc114) ccX7_closeChunk tw_497 tw_498 tw_499 (ci := 7) rfl (by decide) ⟨Nat.le_of_ble_eq_true rfl, Nat.le_of_ble_eq_true rfl, Nat.le_of_ble_eq_true rfl, Nat.le_of_ble_eq_true rfl⟩ dX8_save_114 rfl k_b111 rfl (Nat.le_of_ble_eq_true rfl) rfl rfl (fun hr114 => ?_)
  refine a_aload_n dX8_save_117 rfl rfl ?_
  refine a_getR fl_RX8_19 dX8_save_118 rfl k_v0 rfl (by decide) hf (fun b118 n_b118 _ k_b118 hf => ?_)
  refine a_ldc (v := nI 1400138611) dX8_save_121 rfl tw_522 ?_
  obtain ⟨r123, h123, hc123, hf⟩ := am_bind_some hf
  refine a_callV (As := [.int (nI 1400138611)]) (r1 := (none, Γ, h123)) (sX7_openChunk l k_b118 hc123) ccX7_openChunk tw_488 tw_489 tw_490 (ci := 7) rfl (by decide) ⟨Nat.le_of_ble_eq_true rfl, Nat.le_of_ble_eq_true rfl, Nat.le_of_ble_eq_true rfl, Nat.le_of_ble_eq_true rfl⟩ dX8_save_123 rfl k_b118 rfl (Nat.le_of_ble_eq_true rfl) rfl rfl (fun hr123 => ?_)
  refine a_aload_n dX8_save_126 rfl rfl ?_
  refine a_getR fl_RX8_62 dX8_save_127 rfl k_v0 rfl (by decide) hf (fun b127 n_b127 _ k_b127 hf => ?_)
  refine a_aload_n dX8_save_130 rfl rfl ?_
  refine a_getR fl_RX8_31 dX8_save_131 rfl k_v0 rfl (by decide) hf (fun b131 n_b131 _ k_b131 hf => ?_)
  obtain ⟨r134, h134, hc134, hf⟩ := am_bind_some hf
  refine a_callV (As := [.ref b131]) (r1 := (none, Γ, h134)) (sX4_tellFrames l k_b127 k_b131 hc134) ccX4_tellFrames tw_463 tw_464 tw_465 (ci := 4) rfl (by decide) ⟨Nat.le_of_ble_eq_true rfl, Nat.le_of_ble_eq_true rfl, Nat.le_of_ble_eq_true rfl, Nat.le_of_ble_eq_true rfl⟩ dX8_save_134 rfl k_b127 rfl (Nat.le_of_ble_eq_true rfl) rfl rfl (fun hr134 => ?_)
  refine a_aload_n dX8_save_137 rfl rfl ?_
  refine a_getR fl_RX8_19 dX8_save_138 rfl k_v0 rfl (by decide) hf (fun b138 n_b138 _ k_b138 hf => ?_)
  obtain ⟨r141, h141, hc141, hf⟩ := am_bind_some hf
  refine a_callV (As := []) (r1 := (none, Γ, h141)) (sX7_closeChunk l k_b138 hc141) ccX7_closeChunk tw_497 tw_498 tw_499 (ci := 7) rfl (by decide) ⟨Nat.le_of_ble_eq_true rfl, Nat.le_of_ble_eq_true rfl, Nat.le_of_ble_eq_true rfl, Nat.le_of_ble_eq_true rfl⟩ dX8_save_141 rfl k_b138 rfl (Nat.le_of_ble_eq_true rfl) rfl rfl (fun hr141 => ?_)
  refine a_aload_n dX8_save_144 rfl rfl ?_
  refine a_getR fl_RX8_19 dX8_save_145 rfl k_v0 rfl (by decide) hf (fun b145 n_b145 _ k_b145 hf => ?_)
  refine a_aload_n dX8_save_148 rfl rfl ?_
  refine a_getR fl_RX8_72 dX8_save_149 rfl k_v0 rfl (by decide) hf (fun b149 n_b149 _ k_b149 hf => ?_)
  obtain ⟨r152, h152, hc152, hf⟩ := am_bind_some hf
  refine a_callV (As := [.ref b149]) (r1 := (none, Γ, h152)) (sX7_addStrangers l k_b145 k_b149 hc152) ccX7_addStrangers tw_523 tw_524 tw_525 (ci := 7) rfl (by decide) ⟨Nat.le_of_ble_eq_true rfl, Nat.le_of_ble_eq_true rfl, Nat.le_of_ble_eq_true rfl, Nat.le_of_ble_eq_true rfl⟩ dX8_save_152 rfl k_b145 rfl (Nat.le_of_ble_eq_true rfl) rfl rfl (fun hr152 => ?_)
  refine a_aload_n dX8_save_155 rfl rfl ?_
  refine a_getR fl_RX8_19 dX8_save_156 rfl k_v0 rfl (by decide) hf (fun b156 n_b156 _ k_b156 hf => ?_)
  obtain ⟨r159, h159, hc159, hf⟩ := am_bind_some hf
  refine a_callV (As := []) (r1 := (none, Γ, h159)) (sX7_endFile l k_b156 hc159) ccX7_endFile tw_530 tw_531 tw_532 (ci := 7) rfl (by decide) ⟨Nat.le_of_ble_eq_true rfl, Nat.le_of_ble_eq_true rfl, Nat.le_of_ble_eq_true rfl, Nat.le_of_ble_eq_true rfl⟩ dX8_save_159 rfl k_b156 rfl (Nat.le_of_ble_eq_true rfl) rfl rfl (fun hr159 => ?_)
  refine a_aload_n dX8_save_162 rfl rfl ?_
  refine a_getR fl_RX8_31 dX8_save_163 rfl k_v0 rfl (by decide) hf (fun b163 n_b163 _ k_b163 hf => ?_)
  refine a_getI fl_RX8_101 dX8_save_166 rfl k_b163 rfl ?_
  cases hf
  exact a_iret dX8_save_169 rfl rfl rfl (by decide)
set_option maxRecDepth 100000 in
set_option maxHeartbeats 4000000 in
theorem wX8_save_74 (l : Launch) {Γ : Gm} {r : Int32} {h' : AH} (v0 : Nat) (v1 : Int32) (s0 : Nat) (s1 : Int32) (h : AH) : ∀ n_v0 : Nat, Γ[v0]? = some (8, n_v0) → ∀ n_s0 : Nat, Γ[s0]? = some (7, n_s0) → fX8_save_74 Γ v0 v1 s0 s1 h = some (r, h') → AW l mX8_save (some (.int r), Γ, h') 0 0 74 [some (.ref v0), some (.int v1)] [.int s1, .ref s0] Γ h := by
  intro n_v0 k_v0 n_s0 k_s0 hf
  unfold fX8_save_74 at hf
  obtain ⟨r74, h74, hc74, hf⟩ := am_bind_some hf
  refine a_callV (As := [.int s1]) (r1 := (none, Γ, h74)) (sX7_openChunk l k_s0 hc74) ccX7_openChunk tw_488 tw_489 tw_490 (ci := 7) rfl (by decide) ⟨Nat.le_of_ble_eq_true rfl, Nat.le_of_ble_eq_true rfl, Nat.le_of_ble_eq_true rfl, Nat.le_of_ble_eq_true rfl⟩ dX8_save_74 rfl k_s0 rfl (Nat.le_of_ble_eq_true rfl) rfl rfl (fun hr74 => ?_)
  refine a_iload_n dX8_save_77 rfl rfl ?_
  refine a_if_eq (t := 95) dX8_save_78 rfl rfl hf (fun _ hf => ?_) (fun _ hf => ?_)
  · refine a_aload_n dX8_save_95 rfl rfl ?_
    refine a_getR fl_RX8_62 dX8_save_96 rfl k_v0 rfl (by decide) hf (fun b96 n_b96 _ k_b96 hf => ?_)
    refine a_aload_n dX8_save_99 rfl rfl ?_
    refine a_getR fl_RX8_48 dX8_save_100 rfl k_v0 rfl (by decide) hf (fun b100 n_b100 _ k_b100 hf => ?_)
    refine a_aload_n dX8_save_103 rfl rfl ?_
    refine a_getR fl_RX8_31 dX8_save_104 rfl k_v0 rfl (by decide) hf (fun b104 n_b104 _ k_b104 hf => ?_)
    obtain ⟨r107, h107, hc107, hf⟩ := am_bind_some hf
    refine a_callV (As := [.ref b100, .ref b104]) (r1 := (none, Γ, h107)) (sX4_tellRuns l k_b96 k_b100 k_b104 hc107) ccX4_tellRuns tw_514 tw_515 tw_516 (ci := 4) rfl (by decide) ⟨Nat.le_of_ble_eq_true rfl, Nat.le_of_ble_eq_true rfl, Nat.le_of_ble_eq_true rfl, Nat.le_of_ble_eq_true rfl⟩ dX8_save_107 rfl k_b96 rfl (Nat.le_of_ble_eq_true rfl) rfl rfl (fun hr107 => ?_)
    exact AW.weak (wX8_save_110 l v0 h107 _ k_v0 hf) ⟨rfl, trivial⟩
  refine a_aload_n dX8_save_81 rfl rfl ?_
  refine a_getR fl_RX8_62 dX8_save_82 rfl k_v0 rfl (by decide) hf (fun b82 n_b82 _ k_b82 hf => ?_)
  refine a_aload_n dX8_save_85 rfl rfl ?_
  refine a_getR fl_RX8_31 dX8_save_86 rfl k_v0 rfl (by decide) hf (fun b86 n_b86 _ k_b86 hf => ?_)
  obtain ⟨r89, h89, hc89, hf⟩ := am_bind_some hf
  refine a_callV (As := [.ref b86]) (r1 := (none, Γ, h89)) (sX4_tellMemory l k_b82 k_b86 hc89) ccX4_tellMemory tw_508 tw_509 tw_510 (ci := 4) rfl (by decide) ⟨Nat.le_of_ble_eq_true rfl, Nat.le_of_ble_eq_true rfl, Nat.le_of_ble_eq_true rfl, Nat.le_of_ble_eq_true rfl⟩ dX8_save_89 rfl k_b82 rfl (Nat.le_of_ble_eq_true rfl) rfl rfl (fun hr89 => ?_)
  refine a_goto (t := 110) dX8_save_92 rfl ?_
  exact AW.weak (wX8_save_110 l v0 h89 _ k_v0 hf) ⟨rfl, trivial⟩
set_option maxRecDepth 100000 in
set_option maxHeartbeats 4000000 in
theorem sX8_save (l : Launch) {Γ : Gm} {h h' : AH} {v0 : Nat} {v1 : Int32} {r : Int32} {n_v0 : Nat} (k_v0 : Γ[v0]? = some (8, n_v0)) (hf : fX8_save Γ v0 v1 h = some (r, h')) : AR l yX8_save mX8_save [.ref v0, .int v1] Γ h (some (.int r), Γ, h') := by
  refine AR.of [some (.ref v0), some (.int v1)] (by decide +kernel) rfl (fun z => by cases z) (Nat.le_of_ble_eq_true rfl) ⟨rfl, ⟨rfl, trivial⟩⟩ ?_
  unfold fX8_save at hf
  refine a_aload_n dX8_save_0 rfl rfl ?_
  obtain ⟨r1, h1, hc1, hf⟩ := am_bind_some hf
  refine a_callV (As := []) (r1 := (some (.int r1), Γ, h1)) (sX8_noStory l k_v0 hc1) ccX8_noStory tw_384 tw_386 tp_1 (ci := 8) rfl (by decide) ⟨Nat.le_of_ble_eq_true rfl, Nat.le_of_ble_eq_true rfl, Nat.le_of_ble_eq_true rfl, Nat.le_of_ble_eq_true rfl⟩ dX8_save_1 rfl k_v0 rfl (Nat.le_of_ble_eq_true rfl) rfl rfl (fun hr1 => ?_)
  refine a_if_eq (t := 10) dX8_save_4 rfl rfl hf (fun _ hf => ?_) (fun _ hf => ?_)
  · refine a_aload_n dX8_save_10 rfl rfl ?_
    refine a_getR fl_RX8_19 dX8_save_11 rfl k_v0 rfl (by decide) hf (fun b11 n_b11 _ k_b11 hf => ?_)
    obtain ⟨r14, h14, hc14, hf⟩ := am_bind_some hf
    refine a_callV (As := []) (r1 := (none, Γ, h14)) (sX7_startFile l k_b11 hc14) ccX7_startFile tw_479 tw_480 tw_481 (ci := 7) rfl (by decide) ⟨Nat.le_of_ble_eq_true rfl, Nat.le_of_ble_eq_true rfl, Nat.le_of_ble_eq_true rfl, Nat.le_of_ble_eq_true rfl⟩ dX8_save_14 rfl k_b11 rfl (Nat.le_of_ble_eq_true rfl) rfl rfl (fun hr14 => ?_)
    refine a_aload_n dX8_save_17 rfl rfl ?_
    refine a_getR fl_RX8_19 dX8_save_18 rfl k_v0 rfl (by decide) hf (fun b18 n_b18 _ k_b18 hf => ?_)
    refine a_ldc (v := nI 1229351012) dX8_save_21 rfl tw_487 ?_
    obtain ⟨r23, h23, hc23, hf⟩ := am_bind_some hf
    refine a_callV (As := [.int (nI 1229351012)]) (r1 := (none, Γ, h23)) (sX7_openChunk l k_b18 hc23) ccX7_openChunk tw_488 tw_489 tw_490 (ci := 7) rfl (by decide) ⟨Nat.le_of_ble_eq_true rfl, Nat.le_of_ble_eq_true rfl, Nat.le_of_ble_eq_true rfl, Nat.le_of_ble_eq_true rfl⟩ dX8_save_23 rfl k_b18 rfl (Nat.le_of_ble_eq_true rfl) rfl rfl (fun hr23 => ?_)
    refine a_aload_n dX8_save_26 rfl rfl ?_
    refine a_getR fl_RX8_48 dX8_save_27 rfl k_v0 rfl (by decide) hf (fun b27 n_b27 _ k_b27 hf => ?_)
    refine a_aload_n dX8_save_30 rfl rfl ?_
    refine a_getR fl_RX8_31 dX8_save_31 rfl k_v0 rfl (by decide) hf (fun b31 n_b31 _ k_b31 hf => ?_)
    obtain ⟨r34, h34, hc34, hf⟩ := am_bind_some hf
    refine a_callV (As := [.ref b31]) (r1 := (none, Γ, h34)) (sX5_tellHead l k_b27 k_b31 hc34) ccX5_tellHead tw_492 tw_493 tw_494 (ci := 5) rfl (by decide) ⟨Nat.le_of_ble_eq_true rfl, Nat.le_of_ble_eq_true rfl, Nat.le_of_ble_eq_true rfl, Nat.le_of_ble_eq_true rfl⟩ dX8_save_34 rfl k_b27 rfl (Nat.le_of_ble_eq_true rfl) rfl rfl (fun hr34 => ?_)
    refine a_aload_n dX8_save_37 rfl rfl ?_
    refine a_getR fl_RX8_31 dX8_save_38 rfl k_v0 rfl (by decide) hf (fun b38 n_b38 _ k_b38 hf => ?_)
    refine a_aload_n dX8_save_41 rfl rfl ?_
    refine a_getR fl_RX8_62 dX8_save_42 rfl k_v0 rfl (by decide) hf (fun b42 n_b42 _ k_b42 hf => ?_)
    refine a_getI fl_RX8_144 dX8_save_45 rfl k_b42 rfl ?_
    refine a_iconst (v := nI 3) dX8_save_48 rfl (by decide) ?_
    obtain ⟨r49, h49, hc49, hf⟩ := am_bind_some hf
    refine a_callV (As := [.int (h34.1 b42 3), .int (nI 3)]) (r1 := (none, Γ, h49)) (sX0_addNumber l k_b38 hc49) ccX0_addNumber tw_285 tw_286 tw_287 (ci := 0) rfl (by decide) ⟨Nat.le_of_ble_eq_true rfl, Nat.le_of_ble_eq_true rfl, Nat.le_of_ble_eq_true rfl, Nat.le_of_ble_eq_true rfl⟩ dX8_save_49 rfl k_b38 rfl (Nat.le_of_ble_eq_true rfl) rfl rfl (fun hr49 => ?_)
    refine a_aload_n dX8_save_52 rfl rfl ?_
    refine a_getR fl_RX8_19 dX8_save_53 rfl k_v0 rfl (by decide) hf (fun b53 n_b53 _ k_b53 hf => ?_)
    obtain ⟨r56, h56, hc56, hf⟩ := am_bind_some hf
    refine a_callV (As := []) (r1 := (none, Γ, h56)) (sX7_closeChunk l k_b53 hc56) ccX7_closeChunk tw_497 tw_498 tw_499 (ci := 7) rfl (by decide) ⟨Nat.le_of_ble_eq_true rfl, Nat.le_of_ble_eq_true rfl, Nat.le_of_ble_eq_true rfl, Nat.le_of_ble_eq_true rfl⟩ dX8_save_56 rfl k_b53 rfl (Nat.le_of_ble_eq_true rfl) rfl rfl (fun hr56 => ?_)
    refine a_aload_n dX8_save_59 rfl rfl ?_
    refine a_getR fl_RX8_19 dX8_save_60 rfl k_v0 rfl (by decide) hf (fun b60 n_b60 _ k_b60 hf => ?_)
    refine a_iload_n dX8_save_63 rfl rfl ?_
    refine a_if_eq (t := 72) dX8_save_64 rfl rfl hf (fun _ hf => ?_) (fun _ hf => ?_)
    · refine a_ldc (v := nI 1129145709) dX8_save_72 rfl tw_507 ?_
      exact AW.weak (wX8_save_74 l v0 v1 b60 (nI 1129145709) h56 _ k_v0 _ k_b60 hf) ⟨rfl, ⟨rfl, trivial⟩⟩
    refine a_ldc (v := nI 1431135597) dX8_save_67 rfl tw_506 ?_
    refine a_goto (t := 74) dX8_save_69 rfl ?_
    exact AW.weak (wX8_save_74 l v0 v1 b60 (nI 1431135597) h56 _ k_v0 _ k_b60 hf) ⟨rfl, ⟨rfl, trivial⟩⟩
  refine a_bipush (v := (-4 : Int32)) dX8_save_7 rfl (by decide) ?_
  cases hf
  exact a_iret dX8_save_9 rfl rfl rfl (by decide)
set_option maxRecDepth 100000 in
set_option maxHeartbeats 4000000 in
theorem sX8_turnToComing (l : Launch) {Γ : Gm} {h h' : AH} {v0 : Nat} {r : Unit} {n_v0 : Nat} (k_v0 : Γ[v0]? = some (8, n_v0)) (hf : fX8_turnToComing Γ v0 h = some (r, h')) : AR l yX8_turnToComing mX8_turnToComing [.ref v0] Γ h (none, Γ, h') := by
  refine AR.of [some (.ref v0), none] (by decide +kernel) rfl (fun z => by cases z) (Nat.le_of_ble_eq_true rfl) ⟨rfl, trivial⟩ ?_
  unfold fX8_turnToComing at hf
  refine a_aload_n dX8_turnToComing_0 rfl rfl ?_
  refine a_getR fl_RX8_72 dX8_turnToComing_1 rfl k_v0 rfl (by decide) hf (fun b1 n_b1 _ k_b1 hf => ?_)
  refine a_astore_n (L' := [some (.ref v0), some (.ref b1)]) dX8_turnToComing_4 rfl (Nat.le_of_ble_eq_true rfl) (fun _ _ hv => by cases hv; rfl) rfl ?_
  refine a_aload_n dX8_turnToComing_5 rfl rfl ?_
  refine a_aload_n dX8_turnToComing_6 rfl rfl ?_
  refine a_getR fl_RX8_76 dX8_turnToComing_7 rfl k_v0 rfl (by decide) hf (fun b7 n_b7 _ k_b7 hf => ?_)
  refine a_putR fp_RX8_72 (fun z => by cases z) (fun _ => rfl) (fun _ => rfl) dX8_turnToComing_10 rfl k_v0 (by decide) k_b7 hf (fun h10 hf => ?_)
  refine a_aload_n dX8_turnToComing_13 rfl rfl ?_
  refine a_aload_n dX8_turnToComing_14 rfl rfl ?_
  refine a_putR fp_RX8_76 (fun z => by cases z) (fun _ => rfl) (fun _ => rfl) dX8_turnToComing_15 rfl k_v0 (by decide) k_b1 hf (fun h15 hf => ?_)
  cases hf
  exact a_ret dX8_turnToComing_18 rfl rfl rfl
set_option maxRecDepth 100000 in
set_option maxHeartbeats 4000000 in
theorem sX8_turnToSpare (l : Launch) {Γ : Gm} {h h' : AH} {v0 : Nat} {r : Unit} {n_v0 : Nat} (k_v0 : Γ[v0]? = some (8, n_v0)) (hf : fX8_turnToSpare Γ v0 h = some (r, h')) : AR l yX8_turnToSpare mX8_turnToSpare [.ref v0] Γ h (none, Γ, h') := by
  refine AR.of [some (.ref v0), none] (by decide +kernel) rfl (fun z => by cases z) (Nat.le_of_ble_eq_true rfl) ⟨rfl, trivial⟩ ?_
  unfold fX8_turnToSpare at hf
  refine a_aload_n dX8_turnToSpare_0 rfl rfl ?_
  refine a_getR fl_RX8_62 dX8_turnToSpare_1 rfl k_v0 rfl (by decide) hf (fun b1 n_b1 _ k_b1 hf => ?_)
  refine a_astore_n (L' := [some (.ref v0), some (.ref b1)]) dX8_turnToSpare_4 rfl (Nat.le_of_ble_eq_true rfl) (fun _ _ hv => by cases hv; rfl) rfl ?_
  refine a_aload_n dX8_turnToSpare_5 rfl rfl ?_
  refine a_getR fl_RX8_66 dX8_turnToSpare_6 rfl k_v0 rfl (by decide) hf (fun b6 n_b6 _ k_b6 hf => ?_)
  refine a_aload_n dX8_turnToSpare_9 rfl rfl ?_
  obtain ⟨r10, h10, hc10, hf⟩ := am_bind_some hf
  refine a_callV (As := []) (r1 := (some (.int r10), Γ, h10)) (sX4_bits l k_b1 hc10) ccX4_bits tw_627 tw_628 tw_629 (ci := 4) rfl (by decide) ⟨Nat.le_of_ble_eq_true rfl, Nat.le_of_ble_eq_true rfl, Nat.le_of_ble_eq_true rfl, Nat.le_of_ble_eq_true rfl⟩ dX8_turnToSpare_10 rfl k_b1 rfl (Nat.le_of_ble_eq_true rfl) rfl rfl (fun hr10 => ?_)
  obtain ⟨r13, h13, hc13, hf⟩ := am_bind_some hf
  refine a_callV (As := [.int r10]) (r1 := (none, Γ, h13)) (sX4_setBits l k_b6 hc13) ccX4_setBits tw_631 tw_632 tw_633 (ci := 4) rfl (by decide) ⟨Nat.le_of_ble_eq_true rfl, Nat.le_of_ble_eq_true rfl, Nat.le_of_ble_eq_true rfl, Nat.le_of_ble_eq_true rfl⟩ dX8_turnToSpare_13 rfl k_b6 rfl (Nat.le_of_ble_eq_true rfl) rfl rfl (fun hr13 => ?_)
  refine a_aload_n dX8_turnToSpare_16 rfl rfl ?_
  refine a_aload_n dX8_turnToSpare_17 rfl rfl ?_
  refine a_getR fl_RX8_66 dX8_turnToSpare_18 rfl k_v0 rfl (by decide) hf (fun b18 n_b18 _ k_b18 hf => ?_)
  refine a_putR fp_RX8_62 (fun z => by cases z) (fun _ => rfl) (fun _ => rfl) dX8_turnToSpare_21 rfl k_v0 (by decide) k_b18 hf (fun h21 hf => ?_)
  refine a_aload_n dX8_turnToSpare_24 rfl rfl ?_
  refine a_aload_n dX8_turnToSpare_25 rfl rfl ?_
  refine a_putR fp_RX8_66 (fun z => by cases z) (fun _ => rfl) (fun _ => rfl) dX8_turnToSpare_26 rfl k_v0 (by decide) k_b1 hf (fun h26 hf => ?_)
  cases hf
  exact a_ret dX8_turnToSpare_29 rfl rfl rfl
set_option maxRecDepth 100000 in
set_option maxHeartbeats 4000000 in
theorem wX8_restore_66 (l : Launch) {Γ : Gm} {r : Int32} {h' : AH} (v0 : Nat) (v1 : Int32) (s0 : Nat) (s1 : Int32) (h : AH) : ∀ n_v0 : Nat, Γ[v0]? = some (8, n_v0) → ∀ n_s0 : Nat, Γ[s0]? = some (8, n_s0) → fX8_restore_66 Γ v0 v1 s0 s1 h = some (r, h') → AW l mX8_restore (some (.int r), Γ, h') 0 0 66 [some (.ref v0), some (.int v1)] [.int s1, .ref s0] Γ h := by
  intro n_v0 k_v0 n_s0 k_s0 hf
  unfold fX8_restore_66 at hf
  refine a_putI fp_RX8_90 dX8_restore_66 rfl k_s0 rfl hf (fun h66 hf => ?_)
  refine a_iload_n dX8_restore_69 rfl rfl ?_
  refine a_if_eq (t := 81) dX8_restore_70 rfl rfl hf (fun _ hf => ?_) (fun _ hf => ?_)
  · refine a_aload_n dX8_restore_81 rfl rfl ?_
    obtain ⟨r82, h82, hc82, hf⟩ := am_bind_some hf
    refine a_callV (As := []) (r1 := (none, Γ, h82)) (sX8_turnToSpare l k_v0 hc82) ccX8_turnToSpare tw_623 tw_625 tp_9 (ci := 8) rfl (by decide) ⟨Nat.le_of_ble_eq_true rfl, Nat.le_of_ble_eq_true rfl, Nat.le_of_ble_eq_true rfl, Nat.le_of_ble_eq_true rfl⟩ dX8_restore_82 rfl k_v0 rfl (Nat.le_of_ble_eq_true rfl) rfl rfl (fun hr82 => ?_)
    refine a_aload_n dX8_restore_85 rfl rfl ?_
    obtain ⟨r86, h86, hc86, hf⟩ := am_bind_some hf
    refine a_callV (As := []) (r1 := (none, Γ, h86)) (sX8_turnToComing l k_v0 hc86) ccX8_turnToComing tw_635 tw_637 tp_10 (ci := 8) rfl (by decide) ⟨Nat.le_of_ble_eq_true rfl, Nat.le_of_ble_eq_true rfl, Nat.le_of_ble_eq_true rfl, Nat.le_of_ble_eq_true rfl⟩ dX8_restore_86 rfl k_v0 rfl (Nat.le_of_ble_eq_true rfl) rfl rfl (fun hr86 => ?_)
    refine a_iconst (v := nI 1) dX8_restore_89 rfl (by decide) ?_
    cases hf
    exact a_iret dX8_restore_90 rfl rfl rfl (by decide)
  refine a_bipush (v := (-10 : Int32)) dX8_restore_73 rfl (by decide) ?_
  refine a_aload_n dX8_restore_75 rfl rfl ?_
  refine a_getI fl_RX8_87 dX8_restore_76 rfl k_v0 rfl ?_
  refine a_isub dX8_restore_79 rfl ?_
  obtain ⟨rfl, rfl⟩ := Prod.mk.inj (Option.some.inj hf)
  exact a_iret dX8_restore_80 rfl rfl rfl (by decide)
set_option maxRecDepth 100000 in
set_option maxHeartbeats 4000000 in
theorem sX8_restore (l : Launch) {Γ : Gm} {h h' : AH} {v0 : Nat} {r : Int32} {n_v0 : Nat} (k_v0 : Γ[v0]? = some (8, n_v0)) (hf : fX8_restore Γ v0 h = some (r, h')) : AR l yX8_restore mX8_restore [.ref v0] Γ h (some (.int r), Γ, h') := by
  refine AR.of [some (.ref v0), none] (by decide +kernel) rfl (fun z => by cases z) (Nat.le_of_ble_eq_true rfl) ⟨rfl, trivial⟩ ?_
  unfold fX8_restore at hf
  refine a_aload_n dX8_restore_0 rfl rfl ?_
  obtain ⟨r1, h1, hc1, hf⟩ := am_bind_some hf
  refine a_callV (As := []) (r1 := (some (.int r1), Γ, h1)) (sX8_noStory l k_v0 hc1) ccX8_noStory tw_384 tw_386 tp_1 (ci := 8) rfl (by decide) ⟨Nat.le_of_ble_eq_true rfl, Nat.le_of_ble_eq_true rfl, Nat.le_of_ble_eq_true rfl, Nat.le_of_ble_eq_true rfl⟩ dX8_restore_1 rfl k_v0 rfl (Nat.le_of_ble_eq_true rfl) rfl rfl (fun hr1 => ?_)
  refine a_if_eq (t := 17) dX8_restore_4 rfl rfl hf (fun _ hf => ?_) (fun _ hf => ?_)
  · refine a_aload_n dX8_restore_17 rfl rfl ?_
    refine a_getR fl_RX8_12 dX8_restore_18 rfl k_v0 rfl (by decide) hf (fun b18 n_b18 _ k_b18 hf => ?_)
    refine a_aload_n dX8_restore_21 rfl rfl ?_
    refine a_getR fl_RX8_48 dX8_restore_22 rfl k_v0 rfl (by decide) hf (fun b22 n_b22 _ k_b22 hf => ?_)
    refine a_aload_n dX8_restore_25 rfl rfl ?_
    refine a_getR fl_RX8_66 dX8_restore_26 rfl k_v0 rfl (by decide) hf (fun b26 n_b26 _ k_b26 hf => ?_)
    refine a_aload_n dX8_restore_29 rfl rfl ?_
    refine a_getR fl_RX8_76 dX8_restore_30 rfl k_v0 rfl (by decide) hf (fun b30 n_b30 _ k_b30 hf => ?_)
    obtain ⟨r33, h33, hc33, hf⟩ := am_bind_some hf
    refine a_callV (As := [.ref b22, .ref b26, .ref b30]) (r1 := (some (.int r33), Γ, h33)) (sX3_readFor l k_b18 k_b22 k_b26 k_b30 hc33) ccX3_readFor tw_538 tw_539 tw_540 (ci := 3) rfl (by decide) ⟨Nat.le_of_ble_eq_true rfl, Nat.le_of_ble_eq_true rfl, Nat.le_of_ble_eq_true rfl, Nat.le_of_ble_eq_true rfl⟩ dX8_restore_33 rfl k_b18 rfl (Nat.le_of_ble_eq_true rfl) rfl rfl (fun hr33 => ?_)
    refine a_istore_n (L' := [some (.ref v0), some (.int r33)]) dX8_restore_36 rfl (Nat.le_of_ble_eq_true rfl) (fun _ _ hv => by cases hv; rfl) rfl ?_
    refine a_aload_n dX8_restore_37 rfl rfl ?_
    refine a_getR fl_RX8_27 dX8_restore_38 rfl k_v0 rfl (by decide) hf (fun b38 n_b38 _ k_b38 hf => ?_)
    obtain ⟨r41, h41, hc41, hf⟩ := am_bind_some hf
    refine a_callV (As := []) (r1 := (none, Γ, h41)) (sX0_clear l k_b38 hc41) ccX0_clear tw_379 tw_325 tw_326 (ci := 0) rfl (by decide) ⟨Nat.le_of_ble_eq_true rfl, Nat.le_of_ble_eq_true rfl, Nat.le_of_ble_eq_true rfl, Nat.le_of_ble_eq_true rfl⟩ dX8_restore_41 rfl k_b38 rfl (Nat.le_of_ble_eq_true rfl) rfl rfl (fun hr41 => ?_)
    refine a_aload_n dX8_restore_44 rfl rfl ?_
    refine a_iload_n dX8_restore_45 rfl rfl ?_
    refine a_bipush (v := nI 16) dX8_restore_46 rfl (by decide) ?_
    refine a_iushr dX8_restore_48 rfl ?_
    refine a_putI fp_RX8_87 dX8_restore_49 rfl k_v0 rfl hf (fun h49 hf => ?_)
    refine a_aload_n dX8_restore_52 rfl rfl ?_
    refine a_iload_n dX8_restore_53 rfl rfl ?_
    refine a_if_ne (t := 62) dX8_restore_54 rfl rfl hf (fun _ hf => ?_) (fun _ hf => ?_)
    · refine a_bipush (v := (-2 : Int32)) dX8_restore_57 rfl (by decide) ?_
      refine a_goto (t := 66) dX8_restore_59 rfl ?_
      exact AW.weak (wX8_restore_66 l v0 r33 v0 ((-2 : Int32)) h49 _ k_v0 _ k_v0 hf) ⟨rfl, ⟨rfl, trivial⟩⟩
    refine a_iload_n dX8_restore_62 rfl rfl ?_
    refine a_ldc (v := nI 65535) dX8_restore_63 rfl tw_423 ?_
    refine a_iand dX8_restore_65 rfl ?_
    exact AW.weak (wX8_restore_66 l v0 r33 v0 (r33 &&& (nI 65535)) h49 _ k_v0 _ k_v0 hf) ⟨rfl, ⟨rfl, trivial⟩⟩
  refine a_aload_n dX8_restore_7 rfl rfl ?_
  refine a_getR fl_RX8_27 dX8_restore_8 rfl k_v0 rfl (by decide) hf (fun b8 n_b8 _ k_b8 hf => ?_)
  obtain ⟨r11, h11, hc11, hf⟩ := am_bind_some hf
  refine a_callV (As := []) (r1 := (none, Γ, h11)) (sX0_clear l k_b8 hc11) ccX0_clear tw_379 tw_325 tw_326 (ci := 0) rfl (by decide) ⟨Nat.le_of_ble_eq_true rfl, Nat.le_of_ble_eq_true rfl, Nat.le_of_ble_eq_true rfl, Nat.le_of_ble_eq_true rfl⟩ dX8_restore_11 rfl k_b8 rfl (Nat.le_of_ble_eq_true rfl) rfl rfl (fun hr11 => ?_)
  refine a_bipush (v := (-4 : Int32)) dX8_restore_14 rfl (by decide) ?_
  cases hf
  exact a_iret dX8_restore_16 rfl rfl rfl (by decide)
set_option maxRecDepth 100000 in
set_option maxHeartbeats 4000000 in
theorem sX8_why (l : Launch) {Γ : Gm} {h h' : AH} {v0 : Nat} {v1 : Int32} {r : Int32} {n_v0 : Nat} (k_v0 : Γ[v0]? = some (8, n_v0)) (hf : fX8_why Γ v0 v1 h = some (r, h')) : AR l yX8_why mX8_why [.ref v0, .int v1] Γ h (some (.int r), Γ, h') := by
  refine AR.of [some (.ref v0), some (.int v1)] (by decide +kernel) rfl (fun z => by cases z) (Nat.le_of_ble_eq_true rfl) ⟨rfl, ⟨rfl, trivial⟩⟩ ?_
  unfold fX8_why at hf
  refine a_iload_n dX8_why_0 rfl rfl ?_
  refine am_if hf (fun hx hf => ?_) (fun hx0 hf => ?_)
  · refine a_lsw (off := 27) (t := 28) dX8_why_1 (by decide) (by rw [hx]; decide) rfl ?_
    refine a_aload_n dX8_why_28 rfl rfl ?_
    refine a_getI fl_RX8_87 dX8_why_29 rfl k_v0 rfl ?_
    cases hf
    exact a_iret dX8_why_32 rfl rfl rfl (by decide)
  refine am_if hf (fun hx hf => ?_) (fun hx1 hf => ?_)
  · refine a_lsw (off := 32) (t := 33) dX8_why_1 (by decide) (by rw [hx]; decide) rfl ?_
    refine a_aload_n dX8_why_33 rfl rfl ?_
    refine a_getI fl_RX8_90 dX8_why_34 rfl k_v0 rfl ?_
    cases hf
    exact a_iret dX8_why_37 rfl rfl rfl (by decide)
  refine a_lsw (off := 37) (t := 38) dX8_why_1 (by decide) (by show Op.lookupswitch.offset [(0, 27), (1, 32)] 37 _ = _; rw [lv_osw hx0 (by decide), lv_osw hx1 (by decide)]; rfl) rfl ?_
  refine a_iconst (v := (-1 : Int32)) dX8_why_38 rfl (by decide) ?_
  cases hf
  exact a_iret dX8_why_39 rfl rfl rfl (by decide)
set_option maxRecDepth 100000 in
set_option maxHeartbeats 4000000 in
theorem sX8_chunk (l : Launch) {Γ : Gm} {h h' : AH} {v0 : Nat} {v1 : Int32} {v2 : Int32} {r : Int32} {n_v0 : Nat} (k_v0 : Γ[v0]? = some (8, n_v0)) (hf : fX8_chunk Γ v0 v1 v2 h = some (r, h')) : AR l yX8_chunk mX8_chunk [.ref v0, .int v1, .int v2] Γ h (some (.int r), Γ, h') := by
  refine AR.of [some (.ref v0), some (.int v1), some (.int v2)] (by decide +kernel) rfl (fun z => by cases z) (Nat.le_of_ble_eq_true rfl) ⟨rfl, ⟨rfl, ⟨rfl, trivial⟩⟩⟩ ?_
  unfold fX8_chunk at hf
  refine a_iload_n dX8_chunk_0 rfl rfl ?_
  refine a_iconst (v := nI 2) dX8_chunk_1 rfl (by decide) ?_
  obtain ⟨r2, h2, hc2, hf⟩ := am_bind_some hf
  refine a_callS (As := [.int v2, .int (nI 2)]) (r1 := (some (.int r2), Γ, h2)) (sX8_within l hc2) ccX8_within tw_297 tw_298 ⟨Nat.le_of_ble_eq_true rfl, Nat.le_of_ble_eq_true rfl, Nat.le_of_ble_eq_true rfl, Nat.le_of_ble_eq_true rfl⟩ dX8_chunk_2 rfl rfl (Nat.le_of_ble_eq_true rfl) rfl rfl (fun hr2 => ?_)
  refine a_if_ne (t := 10) dX8_chunk_5 rfl rfl hf (fun _ hf => ?_) (fun _ hf => ?_)
  · refine a_iconst (v := (-1 : Int32)) dX8_chunk_8 rfl (by decide) ?_
    cases hf
    exact a_iret dX8_chunk_9 rfl rfl rfl (by decide)
  refine a_iload_n dX8_chunk_10 rfl rfl ?_
  refine a_aload_n dX8_chunk_11 rfl rfl ?_
  refine a_getR fl_RX8_19 dX8_chunk_12 rfl k_v0 rfl (by decide) hf (fun b12 n_b12 _ k_b12 hf => ?_)
  refine a_getI fl_RX8_241 dX8_chunk_15 rfl k_b12 rfl ?_
  refine a_iconst (v := nI 1) dX8_chunk_18 rfl (by decide) ?_
  refine a_isub dX8_chunk_19 rfl ?_
  obtain ⟨r20, h20, hc20, hf⟩ := am_bind_some hf
  refine a_callS (As := [.int v1, .int ((h2.1 b12 4) - (nI 1))]) (r1 := (some (.int r20), Γ, h20)) (sX8_within l hc20) ccX8_within tw_297 tw_298 ⟨Nat.le_of_ble_eq_true rfl, Nat.le_of_ble_eq_true rfl, Nat.le_of_ble_eq_true rfl, Nat.le_of_ble_eq_true rfl⟩ dX8_chunk_20 rfl rfl (Nat.le_of_ble_eq_true rfl) rfl rfl (fun hr20 => ?_)
  refine a_if_eq (t := 38) dX8_chunk_23 rfl rfl hf (fun _ hf => ?_) (fun _ hf => ?_)
  · refine a_bipush (v := (-2 : Int32)) dX8_chunk_38 rfl (by decide) ?_
    cases hf
    exact a_iret dX8_chunk_40 rfl rfl rfl (by decide)
  refine a_aload_n dX8_chunk_26 rfl rfl ?_
  refine a_getR fl_RX8_19 dX8_chunk_27 rfl k_v0 rfl (by decide) hf (fun b27 n_b27 _ k_b27 hf => ?_)
  refine a_iload_n dX8_chunk_30 rfl rfl ?_
  refine a_iload_n dX8_chunk_31 rfl rfl ?_
  obtain ⟨r32, h32, hc32, hf⟩ := am_bind_some hf
  refine a_callV (As := [.int v1, .int v2]) (r1 := (some (.int r32), Γ, h32)) (sX7_tellChunk l k_b27 hc32) ccX7_tellChunk tw_647 tw_648 tw_649 (ci := 7) rfl (by decide) ⟨Nat.le_of_ble_eq_true rfl, Nat.le_of_ble_eq_true rfl, Nat.le_of_ble_eq_true rfl, Nat.le_of_ble_eq_true rfl⟩ dX8_chunk_32 rfl k_b27 rfl (Nat.le_of_ble_eq_true rfl) rfl rfl (fun hr32 => ?_)
  refine a_goto (t := 40) dX8_chunk_35 rfl ?_
  cases hf
  exact a_iret dX8_chunk_40 rfl rfl rfl (by decide)
set_option maxRecDepth 100000 in
set_option maxHeartbeats 4000000 in
theorem wX8_write_28 (l : Launch) {Γ : Gm} {r : Int32} {h' : AH} (v0 : Nat) (s0 : Int32) (h : AH) : ∀ n_v0 : Nat, Γ[v0]? = some (8, n_v0) → fX8_write_28 Γ v0 s0 h = some (r, h') → AW l mX8_write (some (.int r), Γ, h') 0 0 28 [some (.ref v0), none] [.int s0] Γ h := by
  intro n_v0 k_v0 hf
  unfold fX8_write_28 at hf
  refine a_istore_n (L' := [some (.ref v0), some (.int s0)]) dX8_write_28 rfl (Nat.le_of_ble_eq_true rfl) (fun _ _ hv => by cases hv; rfl) rfl ?_
  refine a_aload_n dX8_write_29 rfl rfl ?_
  refine a_bipush (v := (-2 : Int32)) dX8_write_30 rfl (by decide) ?_
  refine a_putI fp_RX8_83 dX8_write_32 rfl k_v0 rfl hf (fun h32 hf => ?_)
  refine a_iload_n dX8_write_35 rfl rfl ?_
  refine a_if_eq (t := 41) dX8_write_36 rfl rfl hf (fun _ hf => ?_) (fun _ hf => ?_)
  · refine a_aload_n dX8_write_41 rfl rfl ?_
    refine a_getR fl_RX8_39 dX8_write_42 rfl k_v0 rfl (by decide) hf (fun b42 n_b42 _ k_b42 hf => ?_)
    refine a_aload_n dX8_write_45 rfl rfl ?_
    refine a_getR fl_RX8_31 dX8_write_46 rfl k_v0 rfl (by decide) hf (fun b46 n_b46 _ k_b46 hf => ?_)
    obtain ⟨r49, h49, hc49, hf⟩ := am_bind_some hf
    refine a_callV (As := [.ref b46]) (r1 := (none, Γ, h49)) (sX0_copyOf l k_b42 k_b46 hc49) ccX0_copyOf tw_320 tw_321 tw_322 (ci := 0) rfl (by decide) ⟨Nat.le_of_ble_eq_true rfl, Nat.le_of_ble_eq_true rfl, Nat.le_of_ble_eq_true rfl, Nat.le_of_ble_eq_true rfl⟩ dX8_write_49 rfl k_b42 rfl (Nat.le_of_ble_eq_true rfl) rfl rfl (fun hr49 => ?_)
    refine a_aload_n dX8_write_52 rfl rfl ?_
    refine a_iconst (v := nI 1) dX8_write_53 rfl (by decide) ?_
    refine a_putZ fp_RX8_79 dX8_write_54 rfl k_v0 rfl (by decide) hf (fun h54 hf => ?_)
    refine a_iconst (v := nI 1) dX8_write_57 rfl (by decide) ?_
    cases hf
    exact a_iret dX8_write_58 rfl rfl rfl (by decide)
  refine a_iconst (v := nI 0) dX8_write_39 rfl (by decide) ?_
  cases hf
  exact a_iret dX8_write_40 rfl rfl rfl (by decide)
set_option maxRecDepth 100000 in
set_option maxHeartbeats 4000000 in
theorem wX8_write_27 (l : Launch) {Γ : Gm} {r : Int32} {h' : AH} (v0 : Nat) (h : AH) : ∀ n_v0 : Nat, Γ[v0]? = some (8, n_v0) → fX8_write_27 Γ v0 h = some (r, h') → AW l mX8_write (some (.int r), Γ, h') 0 0 27 [some (.ref v0), none] [] Γ h := by
  intro n_v0 k_v0 hf
  unfold fX8_write_27 at hf
  refine a_iconst (v := nI 0) dX8_write_27 rfl (by decide) ?_
  exact AW.weak (wX8_write_28 l v0 (nI 0) h _ k_v0 hf) ⟨rfl, trivial⟩
set_option maxRecDepth 100000 in
set_option maxHeartbeats 4000000 in
theorem sX8_write (l : Launch) {Γ : Gm} {h h' : AH} {v0 : Nat} {r : Int32} {n_v0 : Nat} (k_v0 : Γ[v0]? = some (8, n_v0)) (hf : fX8_write Γ v0 h = some (r, h')) : AR l yX8_write mX8_write [.ref v0] Γ h (some (.int r), Γ, h') := by
  refine AR.of [some (.ref v0), none] (by decide +kernel) rfl (fun z => by cases z) (Nat.le_of_ble_eq_true rfl) ⟨rfl, trivial⟩ ?_
  unfold fX8_write at hf
  refine a_aload_n dX8_write_0 rfl rfl ?_
  refine a_getI fl_RX8_83 dX8_write_1 rfl k_v0 rfl ?_
  refine a_bipush (v := (-2 : Int32)) dX8_write_4 rfl (by decide) ?_
  refine a_icmp_eq (t := 27) dX8_write_6 rfl rfl hf (fun _ hf => ?_) (fun _ hf => ?_)
  · exact AW.weak (wX8_write_27 l v0 h _ k_v0 hf) ⟨rfl, trivial⟩
  refine a_aload_n dX8_write_9 rfl rfl ?_
  refine a_getR fl_RX8_31 dX8_write_10 rfl k_v0 rfl (by decide) hf (fun b10 n_b10 _ k_b10 hf => ?_)
  refine a_getI fl_RX8_101 dX8_write_13 rfl k_b10 rfl ?_
  refine a_aload_n dX8_write_16 rfl rfl ?_
  refine a_getI fl_RX8_83 dX8_write_17 rfl k_v0 rfl ?_
  refine a_icmp_le (t := 27) dX8_write_20 rfl rfl hf (fun _ hf => ?_) (fun _ hf => ?_)
  · exact AW.weak (wX8_write_27 l v0 h _ k_v0 hf) ⟨rfl, trivial⟩
  refine a_iconst (v := nI 1) dX8_write_23 rfl (by decide) ?_
  refine a_goto (t := 28) dX8_write_24 rfl ?_
  exact AW.weak (wX8_write_28 l v0 (nI 1) h _ k_v0 hf) ⟨rfl, trivial⟩
set_option maxRecDepth 100000 in
set_option maxHeartbeats 4000000 in
theorem sX8_cut (l : Launch) {Γ : Gm} {h h' : AH} {v0 : Nat} {v1 : Int32} {r : Int32} {n_v0 : Nat} (k_v0 : Γ[v0]? = some (8, n_v0)) (hf : fX8_cut Γ v0 v1 h = some (r, h')) : AR l yX8_cut mX8_cut [.ref v0, .int v1] Γ h (some (.int r), Γ, h') := by
  refine AR.of [some (.ref v0), some (.int v1)] (by decide +kernel) rfl (fun z => by cases z) (Nat.le_of_ble_eq_true rfl) ⟨rfl, ⟨rfl, trivial⟩⟩ ?_
  unfold fX8_cut at hf
  refine a_iload_n dX8_cut_0 rfl rfl ?_
  refine a_if_ge (t := 12) dX8_cut_1 rfl rfl hf (fun _ hf => ?_) (fun _ hf => ?_)
  · refine a_aload_n dX8_cut_12 rfl rfl ?_
    refine a_iload_n dX8_cut_13 rfl rfl ?_
    refine a_putI fp_RX8_83 dX8_cut_14 rfl k_v0 rfl hf (fun h14 hf => ?_)
    refine a_iconst (v := nI 1) dX8_cut_17 rfl (by decide) ?_
    cases hf
    exact a_iret dX8_cut_18 rfl rfl rfl (by decide)
  refine a_iload_n dX8_cut_4 rfl rfl ?_
  refine a_bipush (v := (-2 : Int32)) dX8_cut_5 rfl (by decide) ?_
  refine a_icmp_eq (t := 12) dX8_cut_7 rfl rfl hf (fun _ hf => ?_) (fun _ hf => ?_)
  · refine a_aload_n dX8_cut_12 rfl rfl ?_
    refine a_iload_n dX8_cut_13 rfl rfl ?_
    refine a_putI fp_RX8_83 dX8_cut_14 rfl k_v0 rfl hf (fun h14 hf => ?_)
    refine a_iconst (v := nI 1) dX8_cut_17 rfl (by decide) ?_
    cases hf
    exact a_iret dX8_cut_18 rfl rfl rfl (by decide)
  refine a_iconst (v := (-1 : Int32)) dX8_cut_10 rfl (by decide) ?_
  cases hf
  exact a_iret dX8_cut_11 rfl rfl rfl (by decide)
set_option maxRecDepth 100000 in
set_option maxHeartbeats 4000000 in
theorem sX8_load (l : Launch) {Γ : Gm} {h h' : AH} {v0 : Nat} {r : Int32} {n_v0 : Nat} (k_v0 : Γ[v0]? = some (8, n_v0)) (hf : fX8_load Γ v0 h = some (r, h')) : AR l yX8_load mX8_load [.ref v0] Γ h (some (.int r), Γ, h') := by
  refine AR.of [some (.ref v0)] (by decide +kernel) rfl (fun z => by cases z) (Nat.le_of_ble_eq_true rfl) ⟨rfl, trivial⟩ ?_
  unfold fX8_load at hf
  refine a_aload_n dX8_load_0 rfl rfl ?_
  refine a_getI fl_RX8_79 dX8_load_1 rfl k_v0 rfl ?_
  refine a_if_eq (t := 18) dX8_load_4 rfl rfl hf (fun _ hf => ?_) (fun _ hf => ?_)
  · refine a_bipush (v := (-2 : Int32)) dX8_load_18 rfl (by decide) ?_
    cases hf
    exact a_iret dX8_load_20 rfl rfl rfl (by decide)
  refine a_aload_n dX8_load_7 rfl rfl ?_
  refine a_aload_n dX8_load_8 rfl rfl ?_
  refine a_getR fl_RX8_39 dX8_load_9 rfl k_v0 rfl (by decide) hf (fun b9 n_b9 _ k_b9 hf => ?_)
  obtain ⟨r12, h12, hc12, hf⟩ := am_bind_some hf
  refine a_callV (As := [.ref b9]) (r1 := (some (.int r12), Γ, h12)) (sX8_fillTape l k_v0 k_b9 hc12) ccX8_fillTape tw_316 tw_318 tp_0 (ci := 8) rfl (by decide) ⟨Nat.le_of_ble_eq_true rfl, Nat.le_of_ble_eq_true rfl, Nat.le_of_ble_eq_true rfl, Nat.le_of_ble_eq_true rfl⟩ dX8_load_12 rfl k_v0 rfl (Nat.le_of_ble_eq_true rfl) rfl rfl (fun hr12 => ?_)
  refine a_goto (t := 20) dX8_load_15 rfl ?_
  cases hf
  exact a_iret dX8_load_20 rfl rfl rfl (by decide)
set_option maxRecDepth 100000 in
set_option maxHeartbeats 4000000 in
theorem sX8_weighNow (l : Launch) {Γ : Gm} {h h' : AH} {v0 : Nat} {r : Int32} {n_v0 : Nat} (k_v0 : Γ[v0]? = some (8, n_v0)) (hf : fX8_weighNow Γ v0 h = some (r, h')) : AR l yX8_weighNow mX8_weighNow [.ref v0] Γ h (some (.int r), Γ, h') := by
  refine AR.of [some (.ref v0), none] (by decide +kernel) rfl (fun z => by cases z) (Nat.le_of_ble_eq_true rfl) ⟨rfl, trivial⟩ ?_
  unfold fX8_weighNow at hf
  refine a_aload_n dX8_weighNow_0 rfl rfl ?_
  refine a_getR fl_RX8_42 dX8_weighNow_1 rfl k_v0 rfl (by decide) hf (fun b1 n_b1 _ k_b1 hf => ?_)
  obtain ⟨r4, h4, hc4, hf⟩ := am_bind_some hf
  refine a_callV (As := []) (r1 := (none, Γ, h4)) (sX0_clear l k_b1 hc4) ccX0_clear tw_379 tw_325 tw_326 (ci := 0) rfl (by decide) ⟨Nat.le_of_ble_eq_true rfl, Nat.le_of_ble_eq_true rfl, Nat.le_of_ble_eq_true rfl, Nat.le_of_ble_eq_true rfl⟩ dX8_weighNow_4 rfl k_b1 rfl (Nat.le_of_ble_eq_true rfl) rfl rfl (fun hr4 => ?_)
  refine a_aload_n dX8_weighNow_7 rfl rfl ?_
  refine a_getR fl_RX8_62 dX8_weighNow_8 rfl k_v0 rfl (by decide) hf (fun b8 n_b8 _ k_b8 hf => ?_)
  refine a_aload_n dX8_weighNow_11 rfl rfl ?_
  refine a_getR fl_RX8_48 dX8_weighNow_12 rfl k_v0 rfl (by decide) hf (fun b12 n_b12 _ k_b12 hf => ?_)
  refine a_aload_n dX8_weighNow_15 rfl rfl ?_
  refine a_getR fl_RX8_42 dX8_weighNow_16 rfl k_v0 rfl (by decide) hf (fun b16 n_b16 _ k_b16 hf => ?_)
  obtain ⟨r19, h19, hc19, hf⟩ := am_bind_some hf
  refine a_callV (As := [.ref b12, .ref b16]) (r1 := (none, Γ, h19)) (sX4_tellRuns l k_b8 k_b12 k_b16 hc19) ccX4_tellRuns tw_514 tw_515 tw_516 (ci := 4) rfl (by decide) ⟨Nat.le_of_ble_eq_true rfl, Nat.le_of_ble_eq_true rfl, Nat.le_of_ble_eq_true rfl, Nat.le_of_ble_eq_true rfl⟩ dX8_weighNow_19 rfl k_b8 rfl (Nat.le_of_ble_eq_true rfl) rfl rfl (fun hr19 => ?_)
  refine a_aload_n dX8_weighNow_22 rfl rfl ?_
  refine a_getR fl_RX8_42 dX8_weighNow_23 rfl k_v0 rfl (by decide) hf (fun b23 n_b23 _ k_b23 hf => ?_)
  refine a_getI fl_RX8_101 dX8_weighNow_26 rfl k_b23 rfl ?_
  refine a_nmI hf (fun x29 hf => ?_)
  refine a_istore_n (L' := [some (.ref v0), some (.int x29)]) dX8_weighNow_29 rfl (Nat.le_of_ble_eq_true rfl) (fun _ _ hv => by cases hv; rfl) rfl ?_
  refine a_aload_n dX8_weighNow_30 rfl rfl ?_
  refine a_getR fl_RX8_62 dX8_weighNow_31 rfl k_v0 rfl (by decide) hf (fun b31 n_b31 _ k_b31 hf => ?_)
  refine a_aload_n dX8_weighNow_34 rfl rfl ?_
  refine a_getR fl_RX8_42 dX8_weighNow_35 rfl k_v0 rfl (by decide) hf (fun b35 n_b35 _ k_b35 hf => ?_)
  obtain ⟨r38, h38, hc38, hf⟩ := am_bind_some hf
  refine a_callV (As := [.ref b35]) (r1 := (none, Γ, h38)) (sX4_tellFrames l k_b31 k_b35 hc38) ccX4_tellFrames tw_463 tw_464 tw_465 (ci := 4) rfl (by decide) ⟨Nat.le_of_ble_eq_true rfl, Nat.le_of_ble_eq_true rfl, Nat.le_of_ble_eq_true rfl, Nat.le_of_ble_eq_true rfl⟩ dX8_weighNow_38 rfl k_b31 rfl (Nat.le_of_ble_eq_true rfl) rfl rfl (fun hr38 => ?_)
  refine a_iload_n dX8_weighNow_41 rfl rfl ?_
  cases hf
  exact a_iret dX8_weighNow_42 rfl rfl rfl (by decide)
set_option maxRecDepth 100000 in
set_option maxHeartbeats 4000000 in
theorem sX8_keep (l : Launch) {Γ : Gm} {h h' : AH} {v0 : Nat} {r : Int32} {n_v0 : Nat} (k_v0 : Γ[v0]? = some (8, n_v0)) (hf : fX8_keep Γ v0 h = some (r, h')) : AR l yX8_keep mX8_keep [.ref v0] Γ h (some (.int r), Γ, h') := by
  refine AR.of [some (.ref v0), none] (by decide +kernel) rfl (fun z => by cases z) (Nat.le_of_ble_eq_true rfl) ⟨rfl, trivial⟩ ?_
  unfold fX8_keep at hf
  refine a_aload_n dX8_keep_0 rfl rfl ?_
  obtain ⟨r1, h1, hc1, hf⟩ := am_bind_some hf
  refine a_callV (As := []) (r1 := (some (.int r1), Γ, h1)) (sX8_noStory l k_v0 hc1) ccX8_noStory tw_384 tw_386 tp_1 (ci := 8) rfl (by decide) ⟨Nat.le_of_ble_eq_true rfl, Nat.le_of_ble_eq_true rfl, Nat.le_of_ble_eq_true rfl, Nat.le_of_ble_eq_true rfl⟩ dX8_keep_1 rfl k_v0 rfl (Nat.le_of_ble_eq_true rfl) rfl rfl (fun hr1 => ?_)
  refine a_if_eq (t := 10) dX8_keep_4 rfl rfl hf (fun _ hf => ?_) (fun _ hf => ?_)
  · refine a_aload_n dX8_keep_10 rfl rfl ?_
    obtain ⟨r11, h11, hc11, hf⟩ := am_bind_some hf
    refine a_callV (As := []) (r1 := (some (.int r11), Γ, h11)) (sX8_weighNow l k_v0 hc11) ccX8_weighNow tw_667 tw_669 tp_11 (ci := 8) rfl (by decide) ⟨Nat.le_of_ble_eq_true rfl, Nat.le_of_ble_eq_true rfl, Nat.le_of_ble_eq_true rfl, Nat.le_of_ble_eq_true rfl⟩ dX8_keep_11 rfl k_v0 rfl (Nat.le_of_ble_eq_true rfl) rfl rfl (fun hr11 => ?_)
    refine a_istore_n (L' := [some (.ref v0), some (.int r11)]) dX8_keep_14 rfl (Nat.le_of_ble_eq_true rfl) (fun _ _ hv => by cases hv; rfl) rfl ?_
    refine a_aload_n dX8_keep_15 rfl rfl ?_
    refine a_getR fl_RX8_42 dX8_keep_16 rfl k_v0 rfl (by decide) hf (fun b16 n_b16 _ k_b16 hf => ?_)
    refine a_getI fl_RX8_101 dX8_keep_19 rfl k_b16 rfl ?_
    refine a_aload_n dX8_keep_22 rfl rfl ?_
    refine a_getR fl_RX8_55 dX8_keep_23 rfl k_v0 rfl (by decide) hf (fun b23 n_b23 _ k_b23 hf => ?_)
    refine a_getI fl_RX8_252 dX8_keep_26 rfl k_b23 rfl ?_
    refine a_icmp_le (t := 35) dX8_keep_29 rfl rfl hf (fun _ hf => ?_) (fun _ hf => ?_)
    · refine a_aload_n dX8_keep_35 rfl rfl ?_
      refine a_getR fl_RX8_55 dX8_keep_36 rfl k_v0 rfl (by decide) hf (fun b36 n_b36 _ k_b36 hf => ?_)
      refine a_aload_n dX8_keep_39 rfl rfl ?_
      refine a_getR fl_RX8_42 dX8_keep_40 rfl k_v0 rfl (by decide) hf (fun b40 n_b40 _ k_b40 hf => ?_)
      refine a_iload_n dX8_keep_43 rfl rfl ?_
      refine a_aload_n dX8_keep_44 rfl rfl ?_
      refine a_getR fl_RX8_62 dX8_keep_45 rfl k_v0 rfl (by decide) hf (fun b45 n_b45 _ k_b45 hf => ?_)
      refine a_getI fl_RX8_144 dX8_keep_48 rfl k_b45 rfl ?_
      obtain ⟨r51, h51, hc51, hf⟩ := am_bind_some hf
      refine a_callV (As := [.ref b40, .int r11, .int (h11.1 b45 3)]) (r1 := (none, Γ, h51)) (sX2_add l k_b36 k_b40 hc51) ccX2_add tw_671 tw_672 tw_673 (ci := 2) rfl (by decide) ⟨Nat.le_of_ble_eq_true rfl, Nat.le_of_ble_eq_true rfl, Nat.le_of_ble_eq_true rfl, Nat.le_of_ble_eq_true rfl⟩ dX8_keep_51 rfl k_b36 rfl (Nat.le_of_ble_eq_true rfl) rfl rfl (fun hr51 => ?_)
      refine a_aload_n dX8_keep_54 rfl rfl ?_
      refine a_getR fl_RX8_55 dX8_keep_55 rfl k_v0 rfl (by decide) hf (fun b55 n_b55 _ k_b55 hf => ?_)
      refine a_getI fl_RX8_259 dX8_keep_58 rfl k_b55 rfl ?_
      cases hf
      exact a_iret dX8_keep_61 rfl rfl rfl (by decide)
    refine a_bipush (v := (-3 : Int32)) dX8_keep_32 rfl (by decide) ?_
    cases hf
    exact a_iret dX8_keep_34 rfl rfl rfl (by decide)
  refine a_bipush (v := (-4 : Int32)) dX8_keep_7 rfl (by decide) ?_
  cases hf
  exact a_iret dX8_keep_9 rfl rfl rfl (by decide)
