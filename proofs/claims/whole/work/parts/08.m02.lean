set_option maxRecDepth 100000 in
set_option maxHeartbeats 4000000 in
theorem wX1_tell_85 (l : Launch) {Γ : Gm} {r : Unit} {h' : AH} : ∀ (z : Nat) (v0 : Nat) (v1 : Nat) (v3 : Int32) (h : AH), ∀ n_v0 : Nat, Γ[v0]? = some (1, n_v0) → ∀ n_v1 : Nat, Γ[v1]? = some (0, n_v1) → fX1_tell_85 Γ z v0 v1 v3 h = some (r, h') → AW l mX1_tell (none, Γ, h') 0 0 85 [some (.ref v0), some (.ref v1), none, some (.int v3)] [] Γ h := by
  intro z
  induction z with
  | zero => intro v0 v1 v3 h n_v0 k_v0 n_v1 k_v1 hf; cases hf
  | succ z ih =>
    intro v0 v1 v3 h n_v0 k_v0 n_v1 k_v1 hf
    unfold fX1_tell_85 at hf
    refine a_iload_n dX1_tell_85 rfl rfl ?_
    refine a_aload_n dX1_tell_86 rfl rfl ?_
    obtain ⟨r87, h87, hc87, hf⟩ := am_bind_some hf
    refine a_callV (As := []) (r1 := (some (.int r87), Γ, h87)) (sX1_words l k_v0 hc87) ccX1_words tw_473 tw_446 tw_447 (ci := 1) rfl (by decide) ⟨Nat.le_of_ble_eq_true rfl, Nat.le_of_ble_eq_true rfl, Nat.le_of_ble_eq_true rfl, Nat.le_of_ble_eq_true rfl⟩ dX1_tell_87 rfl k_v0 rfl (Nat.le_of_ble_eq_true rfl) rfl rfl (fun hr87 => ?_)
    refine a_icmp_ge (t := 109) dX1_tell_90 rfl rfl hf (fun _ hf => ?_) (fun _ hf => ?_)
    · cases hf
      exact a_ret dX1_tell_109 rfl rfl rfl
    refine a_aload_n dX1_tell_93 rfl rfl ?_
    refine a_aload_n dX1_tell_94 rfl rfl ?_
    refine a_iload_n dX1_tell_95 rfl rfl ?_
    obtain ⟨r96, h96, hc96, hf⟩ := am_bind_some hf
    refine a_callV (As := [.int v3]) (r1 := (some (.int r96), Γ, h96)) (sX1_wordAt l k_v0 hc96) ccX1_wordAt tw_474 tw_425 tw_426 (ci := 1) rfl (by decide) ⟨Nat.le_of_ble_eq_true rfl, Nat.le_of_ble_eq_true rfl, Nat.le_of_ble_eq_true rfl, Nat.le_of_ble_eq_true rfl⟩ dX1_tell_96 rfl k_v0 rfl (Nat.le_of_ble_eq_true rfl) rfl rfl (fun hr96 => ?_)
    refine a_iconst (v := nI 2) dX1_tell_99 rfl (by decide) ?_
    obtain ⟨r100, h100, hc100, hf⟩ := am_bind_some hf
    refine a_callV (As := [.int r96, .int (nI 2)]) (r1 := (none, Γ, h100)) (sX0_addNumber l k_v1 hc100) ccX0_addNumber tw_471 tw_286 tw_287 (ci := 0) rfl (by decide) ⟨Nat.le_of_ble_eq_true rfl, Nat.le_of_ble_eq_true rfl, Nat.le_of_ble_eq_true rfl, Nat.le_of_ble_eq_true rfl⟩ dX1_tell_100 rfl k_v1 rfl (Nat.le_of_ble_eq_true rfl) rfl rfl (fun hr100 => ?_)
    refine a_iinc (v := v3 + nI 1) (L' := [some (.ref v0), some (.ref v1), none, some (.int (v3 + nI 1))]) dX1_tell_103 rfl rfl rfl (Nat.le_of_ble_eq_true rfl) (fun _ _ hv => by cases hv) rfl ?_
    refine a_goto (t := 85) dX1_tell_106 rfl ?_
    exact AW.weak (ih v0 v1 (v3 + nI 1) h100 _ k_v0 _ k_v1 hf) ⟨rfl, ⟨rfl, ⟨rfl, trivial⟩⟩⟩
set_option maxRecDepth 100000 in
set_option maxHeartbeats 4000000 in
theorem wX1_tell_59 (l : Launch) {Γ : Gm} {r : Unit} {h' : AH} (v0 : Nat) (v1 : Nat) (s0 : Nat) (s1 : Int32) (h : AH) : ∀ n_v0 : Nat, Γ[v0]? = some (1, n_v0) → ∀ n_v1 : Nat, Γ[v1]? = some (0, n_v1) → ∀ n_s0 : Nat, Γ[s0]? = some (0, n_s0) → fX1_tell_59 Γ v0 v1 s0 s1 h = some (r, h') → AW l mX1_tell (none, Γ, h') 0 0 59 [some (.ref v0), some (.ref v1), none, none] [.int s1, .ref s0] Γ h := by
  intro n_v0 k_v0 n_v1 k_v1 n_s0 k_s0 hf
  unfold fX1_tell_59 at hf
  obtain ⟨r59, h59, hc59, hf⟩ := am_bind_some hf
  refine a_callV (As := [.int s1]) (r1 := (none, Γ, h59)) (sX0_add l k_s0 hc59) ccX0_add tw_472 tw_290 tw_291 (ci := 0) rfl (by decide) ⟨Nat.le_of_ble_eq_true rfl, Nat.le_of_ble_eq_true rfl, Nat.le_of_ble_eq_true rfl, Nat.le_of_ble_eq_true rfl⟩ dX1_tell_59 rfl k_s0 rfl (Nat.le_of_ble_eq_true rfl) rfl rfl (fun hr59 => ?_)
  refine a_aload_n dX1_tell_62 rfl rfl ?_
  refine a_iconst (v := nI 1) dX1_tell_63 rfl (by decide) ?_
  refine a_aload_n dX1_tell_64 rfl rfl ?_
  refine a_getI fl_RX1_22 dX1_tell_65 rfl k_v0 rfl ?_
  refine a_ishl dX1_tell_68 rfl ?_
  refine a_iconst (v := nI 1) dX1_tell_69 rfl (by decide) ?_
  refine a_isub dX1_tell_70 rfl ?_
  obtain ⟨r71, h71, hc71, hf⟩ := am_bind_some hf
  refine a_callV (As := [.int ((am_shl (nI 1) (h59.1 v0 3)) - (nI 1))]) (r1 := (none, Γ, h71)) (sX0_add l k_v1 hc71) ccX0_add tw_472 tw_290 tw_291 (ci := 0) rfl (by decide) ⟨Nat.le_of_ble_eq_true rfl, Nat.le_of_ble_eq_true rfl, Nat.le_of_ble_eq_true rfl, Nat.le_of_ble_eq_true rfl⟩ dX1_tell_71 rfl k_v1 rfl (Nat.le_of_ble_eq_true rfl) rfl rfl (fun hr71 => ?_)
  refine a_aload_n dX1_tell_74 rfl rfl ?_
  refine a_aload_n dX1_tell_75 rfl rfl ?_
  refine a_getI fl_RX1_28 dX1_tell_76 rfl k_v0 rfl ?_
  refine a_iconst (v := nI 2) dX1_tell_79 rfl (by decide) ?_
  obtain ⟨r80, h80, hc80, hf⟩ := am_bind_some hf
  refine a_callV (As := [.int (h71.1 v0 5), .int (nI 2)]) (r1 := (none, Γ, h80)) (sX0_addNumber l k_v1 hc80) ccX0_addNumber tw_471 tw_286 tw_287 (ci := 0) rfl (by decide) ⟨Nat.le_of_ble_eq_true rfl, Nat.le_of_ble_eq_true rfl, Nat.le_of_ble_eq_true rfl, Nat.le_of_ble_eq_true rfl⟩ dX1_tell_80 rfl k_v1 rfl (Nat.le_of_ble_eq_true rfl) rfl rfl (fun hr80 => ?_)
  refine a_iconst (v := nI 0) dX1_tell_83 rfl (by decide) ?_
  refine a_istore_n (L' := [some (.ref v0), some (.ref v1), none, some (.int (nI 0))]) dX1_tell_84 rfl (Nat.le_of_ble_eq_true rfl) (fun _ _ hv => by cases hv) rfl ?_
  exact AW.weak (wX1_tell_85 l am_fuel v0 v1 (nI 0) h80 _ k_v0 _ k_v1 hf) ⟨rfl, ⟨rfl, ⟨rfl, trivial⟩⟩⟩
set_option maxRecDepth 100000 in
set_option maxHeartbeats 4000000 in
theorem wX1_tell_43 (l : Launch) {Γ : Gm} {r : Unit} {h' : AH} (v0 : Nat) (v1 : Nat) (v2 : Int32) (s0 : Nat) (s1 : Int32) (h : AH) : ∀ n_v0 : Nat, Γ[v0]? = some (1, n_v0) → ∀ n_v1 : Nat, Γ[v1]? = some (0, n_v1) → ∀ n_s0 : Nat, Γ[s0]? = some (0, n_s0) → fX1_tell_43 Γ v0 v1 v2 s0 s1 h = some (r, h') → AW l mX1_tell (none, Γ, h') 0 0 43 [some (.ref v0), some (.ref v1), some (.int v2), none] [.int s1, .ref s0] Γ h := by
  intro n_v0 k_v0 n_v1 k_v1 n_s0 k_s0 hf
  unfold fX1_tell_43 at hf
  obtain ⟨r43, h43, hc43, hf⟩ := am_bind_some hf
  refine a_callV (As := [.int s1]) (r1 := (none, Γ, h43)) (sX0_add l k_s0 hc43) ccX0_add tw_472 tw_290 tw_291 (ci := 0) rfl (by decide) ⟨Nat.le_of_ble_eq_true rfl, Nat.le_of_ble_eq_true rfl, Nat.le_of_ble_eq_true rfl, Nat.le_of_ble_eq_true rfl⟩ dX1_tell_43 rfl k_s0 rfl (Nat.le_of_ble_eq_true rfl) rfl rfl (fun hr43 => ?_)
  refine a_aload_n dX1_tell_46 rfl rfl ?_
  refine a_iload_n dX1_tell_47 rfl rfl ?_
  refine a_if_eq (t := 55) dX1_tell_48 rfl rfl hf (fun _ hf => ?_) (fun _ hf => ?_)
  · refine a_aload_n dX1_tell_55 rfl rfl ?_
    refine a_getI fl_RX1_19 dX1_tell_56 rfl k_v0 rfl ?_
    exact AW.weak (wX1_tell_59 l v0 v1 v1 (h43.1 v0 2) h43 _ k_v0 _ k_v1 _ k_v1 hf) ⟨rfl, ⟨rfl, trivial⟩⟩
  refine a_iconst (v := nI 0) dX1_tell_51 rfl (by decide) ?_
  refine a_goto (t := 59) dX1_tell_52 rfl ?_
  exact AW.weak (wX1_tell_59 l v0 v1 v1 (nI 0) h43 _ k_v0 _ k_v1 _ k_v1 hf) ⟨rfl, ⟨rfl, trivial⟩⟩
set_option maxRecDepth 100000 in
set_option maxHeartbeats 4000000 in
theorem wX1_tell_14 (l : Launch) {Γ : Gm} {r : Unit} {h' : AH} (v0 : Nat) (v1 : Nat) (s0 : Int32) (h : AH) : ∀ n_v0 : Nat, Γ[v0]? = some (1, n_v0) → ∀ n_v1 : Nat, Γ[v1]? = some (0, n_v1) → fX1_tell_14 Γ v0 v1 s0 h = some (r, h') → AW l mX1_tell (none, Γ, h') 0 0 14 [some (.ref v0), some (.ref v1), none, none] [.int s0] Γ h := by
  intro n_v0 k_v0 n_v1 k_v1 hf
  unfold fX1_tell_14 at hf
  refine a_istore_n (L' := [some (.ref v0), some (.ref v1), some (.int s0), none]) dX1_tell_14 rfl (Nat.le_of_ble_eq_true rfl) (fun _ _ hv => by cases hv; rfl) rfl ?_
  refine a_aload_n dX1_tell_15 rfl rfl ?_
  refine a_aload_n dX1_tell_16 rfl rfl ?_
  refine a_getI fl_RX1_15 dX1_tell_17 rfl k_v0 rfl ?_
  refine a_iconst (v := nI 3) dX1_tell_20 rfl (by decide) ?_
  obtain ⟨r21, h21, hc21, hf⟩ := am_bind_some hf
  refine a_callV (As := [.int (h.1 v0 1), .int (nI 3)]) (r1 := (none, Γ, h21)) (sX0_addNumber l k_v1 hc21) ccX0_addNumber tw_471 tw_286 tw_287 (ci := 0) rfl (by decide) ⟨Nat.le_of_ble_eq_true rfl, Nat.le_of_ble_eq_true rfl, Nat.le_of_ble_eq_true rfl, Nat.le_of_ble_eq_true rfl⟩ dX1_tell_21 rfl k_v1 rfl (Nat.le_of_ble_eq_true rfl) rfl rfl (fun hr21 => ?_)
  refine a_aload_n dX1_tell_24 rfl rfl ?_
  refine a_iload_n dX1_tell_25 rfl rfl ?_
  refine a_if_eq (t := 39) dX1_tell_26 rfl rfl hf (fun _ hf => ?_) (fun _ hf => ?_)
  · refine a_aload_n dX1_tell_39 rfl rfl ?_
    refine a_getI fl_RX1_25 dX1_tell_40 rfl k_v0 rfl ?_
    exact AW.weak (wX1_tell_43 l v0 v1 s0 v1 (h21.1 v0 4) h21 _ k_v0 _ k_v1 _ k_v1 hf) ⟨rfl, ⟨rfl, ⟨rfl, trivial⟩⟩⟩
  refine a_aload_n dX1_tell_29 rfl rfl ?_
  refine a_getI fl_RX1_25 dX1_tell_30 rfl k_v0 rfl ?_
  refine a_bipush (v := nI 16) dX1_tell_33 rfl (by decide) ?_
  refine a_iadd dX1_tell_35 rfl ?_
  refine a_goto (t := 43) dX1_tell_36 rfl ?_
  exact AW.weak (wX1_tell_43 l v0 v1 s0 v1 ((h21.1 v0 4) + (nI 16)) h21 _ k_v0 _ k_v1 _ k_v1 hf) ⟨rfl, ⟨rfl, ⟨rfl, trivial⟩⟩⟩
set_option maxRecDepth 100000 in
set_option maxHeartbeats 4000000 in
theorem sX1_tell (l : Launch) {Γ : Gm} {h h' : AH} {v0 : Nat} {v1 : Nat} {r : Unit} {n_v0 : Nat} (k_v0 : Γ[v0]? = some (1, n_v0)) {n_v1 : Nat} (k_v1 : Γ[v1]? = some (0, n_v1)) (hf : fX1_tell Γ v0 v1 h = some (r, h')) : AR l yX1_tell mX1_tell [.ref v0, .ref v1] Γ h (none, Γ, h') := by
  refine AR.of [some (.ref v0), some (.ref v1), none, none] (by decide +kernel) rfl (fun z => by cases z) (Nat.le_of_ble_eq_true rfl) ⟨rfl, ⟨rfl, trivial⟩⟩ ?_
  unfold fX1_tell at hf
  refine a_aload_n dX1_tell_0 rfl rfl ?_
  refine a_getI fl_RX1_19 dX1_tell_1 rfl k_v0 rfl ?_
  refine a_bipush (v := (-2 : Int32)) dX1_tell_4 rfl (by decide) ?_
  refine a_icmp_ne (t := 13) dX1_tell_6 rfl rfl hf (fun _ hf => ?_) (fun _ hf => ?_)
  · refine a_iconst (v := nI 1) dX1_tell_9 rfl (by decide) ?_
    refine a_goto (t := 14) dX1_tell_10 rfl ?_
    exact AW.weak (wX1_tell_14 l v0 v1 (nI 1) h _ k_v0 _ k_v1 hf) ⟨rfl, ⟨rfl, trivial⟩⟩
  refine a_iconst (v := nI 0) dX1_tell_13 rfl (by decide) ?_
  exact AW.weak (wX1_tell_14 l v0 v1 (nI 0) h _ k_v0 _ k_v1 hf) ⟨rfl, ⟨rfl, trivial⟩⟩
set_option maxRecDepth 100000 in
set_option maxHeartbeats 4000000 in
theorem sX2_clear (l : Launch) {Γ : Gm} {h h' : AH} {v0 : Nat} {r : Unit} {n_v0 : Nat} (k_v0 : Γ[v0]? = some (2, n_v0)) (hf : fX2_clear Γ v0 h = some (r, h')) : AR l yX2_clear mX2_clear [.ref v0] Γ h (none, Γ, h') := by
  refine AR.of [some (.ref v0)] (by decide +kernel) rfl (fun z => by cases z) (Nat.le_of_ble_eq_true rfl) ⟨rfl, trivial⟩ ?_
  unfold fX2_clear at hf
  refine a_aload_n dX2_clear_0 rfl rfl ?_
  refine a_getR fl_RX2_14 dX2_clear_1 rfl k_v0 rfl (by decide) hf (fun b1 n_b1 _ k_b1 hf => ?_)
  obtain ⟨r4, h4, hc4, hf⟩ := am_bind_some hf
  refine a_callV (As := []) (r1 := (none, Γ, h4)) (sX0_clear l k_b1 hc4) ccX0_clear tw_378 tw_325 tw_326 (ci := 0) rfl (by decide) ⟨Nat.le_of_ble_eq_true rfl, Nat.le_of_ble_eq_true rfl, Nat.le_of_ble_eq_true rfl, Nat.le_of_ble_eq_true rfl⟩ dX2_clear_4 rfl k_b1 rfl (Nat.le_of_ble_eq_true rfl) rfl rfl (fun hr4 => ?_)
  refine a_aload_n dX2_clear_7 rfl rfl ?_
  refine a_iconst (v := nI 0) dX2_clear_8 rfl (by decide) ?_
  refine a_putI fp_RX2_30 dX2_clear_9 rfl k_v0 rfl hf (fun h9 hf => ?_)
  cases hf
  exact a_ret dX2_clear_12 rfl rfl rfl
set_option maxRecDepth 100000 in
set_option maxHeartbeats 4000000 in
theorem wX2_dropEldest_32 (l : Launch) {Γ : Gm} {r : Unit} {h' : AH} : ∀ (z : Nat) (v0 : Nat) (v1 : Int32) (h : AH), ∀ n_v0 : Nat, Γ[v0]? = some (2, n_v0) → fX2_dropEldest_32 Γ z v0 v1 h = some (r, h') → AW l mX2_dropEldest (none, Γ, h') 0 0 32 [some (.ref v0), some (.int v1)] [] Γ h := by
  intro z
  induction z with
  | zero => intro v0 v1 h n_v0 k_v0 hf; cases hf
  | succ z ih =>
    intro v0 v1 h n_v0 k_v0 hf
    unfold fX2_dropEldest_32 at hf
    refine a_iload_n dX2_dropEldest_32 rfl rfl ?_
    refine a_aload_n dX2_dropEldest_33 rfl rfl ?_
    refine a_getI fl_RX2_30 dX2_dropEldest_34 rfl k_v0 rfl ?_
    refine a_icmp_ge (t := 94) dX2_dropEldest_37 rfl rfl hf (fun _ hf => ?_) (fun _ hf => ?_)
    · cases hf
      exact a_ret dX2_dropEldest_94 rfl rfl rfl
    refine a_iload_n dX2_dropEldest_40 rfl rfl ?_
    refine a_bipush (v := nI 7) dX2_dropEldest_41 rfl (by decide) ?_
    refine a_icmp_ge (t := 94) dX2_dropEldest_43 rfl rfl hf (fun _ hf => ?_) (fun _ hf => ?_)
    · cases hf
      exact a_ret dX2_dropEldest_94 rfl rfl rfl
    refine a_aload_n dX2_dropEldest_46 rfl rfl ?_
    refine a_getR fl_RX2_20 dX2_dropEldest_47 rfl k_v0 rfl (by decide) hf (fun b47 n_b47 _ k_b47 hf => ?_)
    refine a_iload_n dX2_dropEldest_50 rfl rfl ?_
    refine a_aload_n dX2_dropEldest_51 rfl rfl ?_
    refine a_getR fl_RX2_20 dX2_dropEldest_52 rfl k_v0 rfl (by decide) hf (fun b52 n_b52 _ k_b52 hf => ?_)
    refine a_iload_n dX2_dropEldest_55 rfl rfl ?_
    refine a_iconst (v := nI 1) dX2_dropEldest_56 rfl (by decide) ?_
    refine a_iadd dX2_dropEldest_57 rfl ?_
    refine a_iald dX2_dropEldest_58 rfl k_b52 hf (fun hf => ?_)
    refine a_iast dX2_dropEldest_59 rfl k_b47 hf (fun h59 hf => ?_)
    refine a_aload_n dX2_dropEldest_60 rfl rfl ?_
    refine a_getR fl_RX2_24 dX2_dropEldest_61 rfl k_v0 rfl (by decide) hf (fun b61 n_b61 _ k_b61 hf => ?_)
    refine a_iload_n dX2_dropEldest_64 rfl rfl ?_
    refine a_aload_n dX2_dropEldest_65 rfl rfl ?_
    refine a_getR fl_RX2_24 dX2_dropEldest_66 rfl k_v0 rfl (by decide) hf (fun b66 n_b66 _ k_b66 hf => ?_)
    refine a_iload_n dX2_dropEldest_69 rfl rfl ?_
    refine a_iconst (v := nI 1) dX2_dropEldest_70 rfl (by decide) ?_
    refine a_iadd dX2_dropEldest_71 rfl ?_
    refine a_iald dX2_dropEldest_72 rfl k_b66 hf (fun hf => ?_)
    refine a_iast dX2_dropEldest_73 rfl k_b61 hf (fun h73 hf => ?_)
    refine a_aload_n dX2_dropEldest_74 rfl rfl ?_
    refine a_getR fl_RX2_27 dX2_dropEldest_75 rfl k_v0 rfl (by decide) hf (fun b75 n_b75 _ k_b75 hf => ?_)
    refine a_iload_n dX2_dropEldest_78 rfl rfl ?_
    refine a_aload_n dX2_dropEldest_79 rfl rfl ?_
    refine a_getR fl_RX2_27 dX2_dropEldest_80 rfl k_v0 rfl (by decide) hf (fun b80 n_b80 _ k_b80 hf => ?_)
    refine a_iload_n dX2_dropEldest_83 rfl rfl ?_
    refine a_iconst (v := nI 1) dX2_dropEldest_84 rfl (by decide) ?_
    refine a_iadd dX2_dropEldest_85 rfl ?_
    refine a_iald dX2_dropEldest_86 rfl k_b80 hf (fun hf => ?_)
    refine a_iast dX2_dropEldest_87 rfl k_b75 hf (fun h87 hf => ?_)
    refine a_iinc (v := v1 + nI 1) (L' := [some (.ref v0), some (.int (v1 + nI 1))]) dX2_dropEldest_88 rfl rfl rfl (Nat.le_of_ble_eq_true rfl) (fun _ _ hv => by cases hv; rfl) rfl ?_
    refine a_goto (t := 32) dX2_dropEldest_91 rfl ?_
    exact AW.weak (ih v0 (v1 + nI 1) h87 _ k_v0 hf) ⟨rfl, ⟨rfl, trivial⟩⟩
set_option maxRecDepth 100000 in
set_option maxHeartbeats 4000000 in
theorem sX2_dropEldest (l : Launch) {Γ : Gm} {h h' : AH} {v0 : Nat} {r : Unit} {n_v0 : Nat} (k_v0 : Γ[v0]? = some (2, n_v0)) (hf : fX2_dropEldest Γ v0 h = some (r, h')) : AR l yX2_dropEldest mX2_dropEldest [.ref v0] Γ h (none, Γ, h') := by
  refine AR.of [some (.ref v0), none] (by decide +kernel) rfl (fun z => by cases z) (Nat.le_of_ble_eq_true rfl) ⟨rfl, trivial⟩ ?_
  unfold fX2_dropEldest at hf
  refine a_aload_n dX2_dropEldest_0 rfl rfl ?_
  refine a_getI fl_RX2_30 dX2_dropEldest_1 rfl k_v0 rfl ?_
  refine a_if_le (t := 94) dX2_dropEldest_4 rfl rfl hf (fun _ hf => ?_) (fun _ hf => ?_)
  · cases hf
    exact a_ret dX2_dropEldest_94 rfl rfl rfl
  refine a_aload_n dX2_dropEldest_7 rfl rfl ?_
  refine a_getR fl_RX2_14 dX2_dropEldest_8 rfl k_v0 rfl (by decide) hf (fun b8 n_b8 _ k_b8 hf => ?_)
  refine a_aload_n dX2_dropEldest_11 rfl rfl ?_
  refine a_getR fl_RX2_24 dX2_dropEldest_12 rfl k_v0 rfl (by decide) hf (fun b12 n_b12 _ k_b12 hf => ?_)
  refine a_iconst (v := nI 0) dX2_dropEldest_15 rfl (by decide) ?_
  refine a_iald dX2_dropEldest_16 rfl k_b12 hf (fun hf => ?_)
  obtain ⟨r17, h17, hc17, hf⟩ := am_bind_some hf
  refine a_callV (As := [.int (h.1 b12 (nI 0).toNatClampNeg)]) (r1 := (none, Γ, h17)) (sX0_dropFirst l k_b8 hc17) ccX0_dropFirst tw_683 tw_684 tw_685 (ci := 0) rfl (by decide) ⟨Nat.le_of_ble_eq_true rfl, Nat.le_of_ble_eq_true rfl, Nat.le_of_ble_eq_true rfl, Nat.le_of_ble_eq_true rfl⟩ dX2_dropEldest_17 rfl k_b8 rfl (Nat.le_of_ble_eq_true rfl) rfl rfl (fun hr17 => ?_)
  refine a_aload_n dX2_dropEldest_20 rfl rfl ?_
  refine a_dup dX2_dropEldest_21 rfl rfl ?_
  refine a_getI fl_RX2_30 dX2_dropEldest_22 rfl k_v0 rfl ?_
  refine a_iconst (v := nI 1) dX2_dropEldest_25 rfl (by decide) ?_
  refine a_isub dX2_dropEldest_26 rfl ?_
  refine a_putI fp_RX2_30 dX2_dropEldest_27 rfl k_v0 rfl hf (fun h27 hf => ?_)
  refine a_iconst (v := nI 0) dX2_dropEldest_30 rfl (by decide) ?_
  refine a_istore_n (L' := [some (.ref v0), some (.int (nI 0))]) dX2_dropEldest_31 rfl (Nat.le_of_ble_eq_true rfl) (fun _ _ hv => by cases hv; rfl) rfl ?_
  exact AW.weak (wX2_dropEldest_32 l am_fuel v0 (nI 0) h27 _ k_v0 hf) ⟨rfl, ⟨rfl, trivial⟩⟩
set_option maxRecDepth 100000 in
set_option maxHeartbeats 4000000 in
theorem wX2_shrink_27 (l : Launch) {Γ : Gm} {r : Unit} {h' : AH} {k2 : Nat → Int32 → Int32 → Int32 → AH → Option (Unit × AH)} (hk2 : ∀ v0 v1 v2 v3 (h : AH), ∀ n_v0 : Nat, Γ[v0]? = some (2, n_v0) → k2 v0 v1 v2 v3 h = some (r, h') → AW l mX2_shrink (none, Γ, h') 0 0 2 [some (.ref v0), some (.int v1), some (.int v2), some (.int v3)] [] Γ h) (v0 : Nat) (v1 : Int32) (v2 : Int32) (v3 : Int32) (h : AH) : ∀ n_v0 : Nat, Γ[v0]? = some (2, n_v0) → fX2_shrink_27 Γ k2 v0 v1 v2 v3 h = some (r, h') → AW l mX2_shrink (none, Γ, h') 0 0 27 [some (.ref v0), some (.int v1), some (.int v2), some (.int v3)] [] Γ h := by
  intro n_v0 k_v0 hf
  unfold fX2_shrink_27 at hf
  refine a_aload_n dX2_shrink_27 rfl rfl ?_
  obtain ⟨r28, h28, hc28, hf⟩ := am_bind_some hf
  refine a_callV (As := []) (r1 := (none, Γ, h28)) (sX2_dropEldest l k_v0 hc28) ccX2_dropEldest tw_679 tw_681 tp_12 (ci := 2) rfl (by decide) ⟨Nat.le_of_ble_eq_true rfl, Nat.le_of_ble_eq_true rfl, Nat.le_of_ble_eq_true rfl, Nat.le_of_ble_eq_true rfl⟩ dX2_shrink_28 rfl k_v0 rfl (Nat.le_of_ble_eq_true rfl) rfl rfl (fun hr28 => ?_)
  refine a_iinc (v := v3 + nI 1) (L' := [some (.ref v0), some (.int v1), some (.int v2), some (.int (v3 + nI 1))]) dX2_shrink_31 rfl rfl rfl (Nat.le_of_ble_eq_true rfl) (fun _ _ hv => by cases hv; rfl) rfl ?_
  refine a_goto (t := 2) dX2_shrink_34 rfl ?_
  exact AW.weak (hk2 v0 v1 v2 (v3 + nI 1) h28 _ k_v0 hf) ⟨rfl, ⟨rfl, ⟨rfl, ⟨rfl, trivial⟩⟩⟩⟩
set_option maxRecDepth 100000 in
set_option maxHeartbeats 4000000 in
theorem wX2_shrink_2 (l : Launch) {Γ : Gm} {r : Unit} {h' : AH} : ∀ (z : Nat) (v0 : Nat) (v1 : Int32) (v2 : Int32) (v3 : Int32) (h : AH), ∀ n_v0 : Nat, Γ[v0]? = some (2, n_v0) → fX2_shrink_2 Γ z v0 v1 v2 v3 h = some (r, h') → AW l mX2_shrink (none, Γ, h') 0 0 2 [some (.ref v0), some (.int v1), some (.int v2), some (.int v3)] [] Γ h := by
  intro z
  induction z with
  | zero => intro v0 v1 v2 v3 h n_v0 k_v0 hf; cases hf
  | succ z ih =>
    intro v0 v1 v2 v3 h n_v0 k_v0 hf
    unfold fX2_shrink_2 at hf
    refine a_iload_n dX2_shrink_2 rfl rfl ?_
    refine a_bipush (v := nI 8) dX2_shrink_3 rfl (by decide) ?_
    refine a_icmp_ge (t := 37) dX2_shrink_5 rfl rfl hf (fun _ hf => ?_) (fun _ hf => ?_)
    · cases hf
      exact a_ret dX2_shrink_37 rfl rfl rfl
    refine a_aload_n dX2_shrink_8 rfl rfl ?_
    refine a_getI fl_RX2_30 dX2_shrink_9 rfl k_v0 rfl ?_
    refine a_iload_n dX2_shrink_12 rfl rfl ?_
    refine a_icmp_gt (t := 27) dX2_shrink_13 rfl rfl hf (fun _ hf => ?_) (fun _ hf => ?_)
    · exact AW.weak (wX2_shrink_27 l ih v0 v1 v2 v3 h _ k_v0 hf) ⟨rfl, ⟨rfl, ⟨rfl, ⟨rfl, trivial⟩⟩⟩⟩
    refine a_aload_n dX2_shrink_16 rfl rfl ?_
    refine a_getR fl_RX2_14 dX2_shrink_17 rfl k_v0 rfl (by decide) hf (fun b17 n_b17 _ k_b17 hf => ?_)
    refine a_getI fl_RX2_40 dX2_shrink_20 rfl k_b17 rfl ?_
    refine a_iload_n dX2_shrink_23 rfl rfl ?_
    refine a_icmp_le (t := 37) dX2_shrink_24 rfl rfl hf (fun _ hf => ?_) (fun _ hf => ?_)
    · cases hf
      exact a_ret dX2_shrink_37 rfl rfl rfl
    exact AW.weak (wX2_shrink_27 l ih v0 v1 v2 v3 h _ k_v0 hf) ⟨rfl, ⟨rfl, ⟨rfl, ⟨rfl, trivial⟩⟩⟩⟩
set_option maxRecDepth 100000 in
set_option maxHeartbeats 4000000 in
theorem sX2_shrink (l : Launch) {Γ : Gm} {h h' : AH} {v0 : Nat} {v1 : Int32} {v2 : Int32} {r : Unit} {n_v0 : Nat} (k_v0 : Γ[v0]? = some (2, n_v0)) (hf : fX2_shrink Γ v0 v1 v2 h = some (r, h')) : AR l yX2_shrink mX2_shrink [.ref v0, .int v1, .int v2] Γ h (none, Γ, h') := by
  refine AR.of [some (.ref v0), some (.int v1), some (.int v2), none] (by decide +kernel) rfl (fun z => by cases z) (Nat.le_of_ble_eq_true rfl) ⟨rfl, ⟨rfl, ⟨rfl, trivial⟩⟩⟩ ?_
  unfold fX2_shrink at hf
  refine a_iconst (v := nI 0) dX2_shrink_0 rfl (by decide) ?_
  refine a_istore_n (L' := [some (.ref v0), some (.int v1), some (.int v2), some (.int (nI 0))]) dX2_shrink_1 rfl (Nat.le_of_ble_eq_true rfl) (fun _ _ hv => by cases hv; rfl) rfl ?_
  exact AW.weak (wX2_shrink_2 l am_fuel v0 v1 v2 (nI 0) h _ k_v0 hf) ⟨rfl, ⟨rfl, ⟨rfl, ⟨rfl, trivial⟩⟩⟩⟩
set_option maxRecDepth 100000 in
set_option maxHeartbeats 4000000 in
theorem sX2_add (l : Launch) {Γ : Gm} {h h' : AH} {v0 : Nat} {v1 : Nat} {v2 : Int32} {v3 : Int32} {r : Unit} {n_v0 : Nat} (k_v0 : Γ[v0]? = some (2, n_v0)) {n_v1 : Nat} (k_v1 : Γ[v1]? = some (0, n_v1)) (hf : fX2_add Γ v0 v1 v2 v3 h = some (r, h')) : AR l yX2_add mX2_add [.ref v0, .ref v1, .int v2, .int v3] Γ h (none, Γ, h') := by
  refine AR.of [some (.ref v0), some (.ref v1), some (.int v2), some (.int v3)] (by decide +kernel) rfl (fun z => by cases z) (Nat.le_of_ble_eq_true rfl) ⟨rfl, ⟨rfl, ⟨rfl, ⟨rfl, trivial⟩⟩⟩⟩ ?_
  unfold fX2_add at hf
  refine a_aload_n dX2_add_0 rfl rfl ?_
  refine a_bipush (v := nI 7) dX2_add_1 rfl (by decide) ?_
  refine a_aload_n dX2_add_3 rfl rfl ?_
  refine a_getI fl_RX2_34 dX2_add_4 rfl k_v0 rfl ?_
  refine a_aload_n dX2_add_7 rfl rfl ?_
  refine a_getI fl_RX2_40 dX2_add_8 rfl k_v1 rfl ?_
  refine a_isub dX2_add_11 rfl ?_
  obtain ⟨r12, h12, hc12, hf⟩ := am_bind_some hf
  refine a_callV (As := [.int (nI 7), .int ((h.1 v0 5) - (h.1 v1 1))]) (r1 := (none, Γ, h12)) (sX2_shrink l k_v0 hc12) ccX2_shrink tw_675 tw_676 tw_677 (ci := 2) rfl (by decide) ⟨Nat.le_of_ble_eq_true rfl, Nat.le_of_ble_eq_true rfl, Nat.le_of_ble_eq_true rfl, Nat.le_of_ble_eq_true rfl⟩ dX2_add_12 rfl k_v0 rfl (Nat.le_of_ble_eq_true rfl) rfl rfl (fun hr12 => ?_)
  refine a_aload_n dX2_add_15 rfl rfl ?_
  refine a_getI fl_RX2_30 dX2_add_16 rfl k_v0 rfl ?_
  refine a_if_lt (t := 87) dX2_add_19 rfl rfl hf (fun _ hf => ?_) (fun _ hf => ?_)
  · cases hf
    exact a_ret dX2_add_87 rfl rfl rfl
  refine a_aload_n dX2_add_22 rfl rfl ?_
  refine a_getI fl_RX2_30 dX2_add_23 rfl k_v0 rfl ?_
  refine a_bipush (v := nI 8) dX2_add_26 rfl (by decide) ?_
  refine a_icmp_ge (t := 87) dX2_add_28 rfl rfl hf (fun _ hf => ?_) (fun _ hf => ?_)
  · cases hf
    exact a_ret dX2_add_87 rfl rfl rfl
  refine a_aload_n dX2_add_31 rfl rfl ?_
  refine a_getR fl_RX2_14 dX2_add_32 rfl k_v0 rfl (by decide) hf (fun b32 n_b32 _ k_b32 hf => ?_)
  refine a_aload_n dX2_add_35 rfl rfl ?_
  refine a_iconst (v := nI 0) dX2_add_36 rfl (by decide) ?_
  refine a_aload_n dX2_add_37 rfl rfl ?_
  refine a_getI fl_RX2_40 dX2_add_38 rfl k_v1 rfl ?_
  obtain ⟨r41, h41, hc41, hf⟩ := am_bind_some hf
  refine a_callV (As := [.ref v1, .int (nI 0), .int (h12.1 v1 1)]) (r1 := (none, Γ, h41)) (sX0_addPart l k_b32 k_v1 hc41) ccX0_addPart tw_687 tw_329 tw_330 (ci := 0) rfl (by decide) ⟨Nat.le_of_ble_eq_true rfl, Nat.le_of_ble_eq_true rfl, Nat.le_of_ble_eq_true rfl, Nat.le_of_ble_eq_true rfl⟩ dX2_add_41 rfl k_b32 rfl (Nat.le_of_ble_eq_true rfl) rfl rfl (fun hr41 => ?_)
  refine a_aload_n dX2_add_44 rfl rfl ?_
  refine a_getR fl_RX2_20 dX2_add_45 rfl k_v0 rfl (by decide) hf (fun b45 n_b45 _ k_b45 hf => ?_)
  refine a_aload_n dX2_add_48 rfl rfl ?_
  refine a_getI fl_RX2_30 dX2_add_49 rfl k_v0 rfl ?_
  refine a_iload_n dX2_add_52 rfl rfl ?_
  refine a_iast dX2_add_53 rfl k_b45 hf (fun h53 hf => ?_)
  refine a_aload_n dX2_add_54 rfl rfl ?_
  refine a_getR fl_RX2_24 dX2_add_55 rfl k_v0 rfl (by decide) hf (fun b55 n_b55 _ k_b55 hf => ?_)
  refine a_aload_n dX2_add_58 rfl rfl ?_
  refine a_getI fl_RX2_30 dX2_add_59 rfl k_v0 rfl ?_
  refine a_aload_n dX2_add_62 rfl rfl ?_
  refine a_getI fl_RX2_40 dX2_add_63 rfl k_v1 rfl ?_
  refine a_iast dX2_add_66 rfl k_b55 hf (fun h66 hf => ?_)
  refine a_aload_n dX2_add_67 rfl rfl ?_
  refine a_getR fl_RX2_27 dX2_add_68 rfl k_v0 rfl (by decide) hf (fun b68 n_b68 _ k_b68 hf => ?_)
  refine a_aload_n dX2_add_71 rfl rfl ?_
  refine a_getI fl_RX2_30 dX2_add_72 rfl k_v0 rfl ?_
  refine a_iload_n dX2_add_75 rfl rfl ?_
  refine a_iast dX2_add_76 rfl k_b68 hf (fun h76 hf => ?_)
  refine a_aload_n dX2_add_77 rfl rfl ?_
  refine a_dup dX2_add_78 rfl rfl ?_
  refine a_getI fl_RX2_30 dX2_add_79 rfl k_v0 rfl ?_
  refine a_iconst (v := nI 1) dX2_add_82 rfl (by decide) ?_
  refine a_iadd dX2_add_83 rfl ?_
  refine a_putI fp_RX2_30 dX2_add_84 rfl k_v0 rfl hf (fun h84 hf => ?_)
  cases hf
  exact a_ret dX2_add_87 rfl rfl rfl
set_option maxRecDepth 100000 in
set_option maxHeartbeats 4000000 in
theorem wX4_addFrame_31 (l : Launch) {Γ : Gm} {r : Unit} {h' : AH} (v0 : Nat) (v1 : Int32) (v2 : Int32) (v3 : Int32) (v4 : Int32) (h : AH) : ∀ n_v0 : Nat, Γ[v0]? = some (4, n_v0) → fX4_addFrame_31 Γ v0 v1 v2 v3 v4 h = some (r, h') → AW l mX4_addFrame (none, Γ, h') 0 0 31 [some (.ref v0), some (.int v1), some (.int v2), some (.int v3), some (.int v4), none] [] Γ h := by
  intro n_v0 k_v0 hf
  unfold fX4_addFrame_31 at hf
  refine a_null dX4_addFrame_31 rfl ?_
  refine a_astoreN (L' := [some (.ref v0), some (.int v1), some (.int v2), some (.int v3), some (.int v4), some (.null)]) dX4_addFrame_32 rfl (Nat.le_of_ble_eq_true rfl) (fun _ _ hv => by cases hv; rfl) rfl ?_
  refine a_aloadN dX4_addFrame_34 rfl rfl ?_
  refine a_ifnullN (t := 59) dX4_addFrame_36 rfl ?_
  cases hf
  exact a_ret dX4_addFrame_59 rfl rfl rfl
set_option maxRecDepth 100000 in
set_option maxHeartbeats 4000000 in
theorem sX4_addFrame (l : Launch) {Γ : Gm} {h h' : AH} {v0 : Nat} {v1 : Int32} {v2 : Int32} {v3 : Int32} {v4 : Int32} {r : Unit} {n_v0 : Nat} (k_v0 : Γ[v0]? = some (4, n_v0)) (hf : fX4_addFrame Γ v0 v1 v2 v3 v4 h = some (r, h')) : AR l yX4_addFrame mX4_addFrame [.ref v0, .int v1, .int v2, .int v3, .int v4] Γ h (none, Γ, h') := by
  refine AR.of [some (.ref v0), some (.int v1), some (.int v2), some (.int v3), some (.int v4), none] (by decide +kernel) rfl (fun z => by cases z) (Nat.le_of_ble_eq_true rfl) ⟨rfl, ⟨rfl, ⟨rfl, ⟨rfl, ⟨rfl, trivial⟩⟩⟩⟩⟩ ?_
  unfold fX4_addFrame at hf
  refine a_aload_n dX4_addFrame_0 rfl rfl ?_
  refine a_getI fl_RX4_28 dX4_addFrame_1 rfl k_v0 rfl ?_
  refine a_if_lt (t := 31) dX4_addFrame_4 rfl rfl hf (fun _ hf => ?_) (fun _ hf => ?_)
  · exact AW.weak (wX4_addFrame_31 l v0 v1 v2 v3 v4 h _ k_v0 hf) ⟨rfl, ⟨rfl, ⟨rfl, ⟨rfl, ⟨rfl, trivial⟩⟩⟩⟩⟩
  refine a_aload_n dX4_addFrame_7 rfl rfl ?_
  refine a_getI fl_RX4_28 dX4_addFrame_8 rfl k_v0 rfl ?_
  refine a_aload_n dX4_addFrame_11 rfl rfl ?_
  refine a_getR fl_RX4_17 dX4_addFrame_12 rfl k_v0 rfl (by decide) hf (fun b12 n_b12 _ k_b12 hf => ?_)
  refine a_alenF dX4_addFrame_15 rfl k_b12 ?_
  refine a_icmp_ge (t := 31) dX4_addFrame_16 rfl rfl hf (fun _ hf => ?_) (fun _ hf => ?_)
  · exact AW.weak (wX4_addFrame_31 l v0 v1 v2 v3 v4 h _ k_v0 hf) ⟨rfl, ⟨rfl, ⟨rfl, ⟨rfl, ⟨rfl, trivial⟩⟩⟩⟩⟩
  refine a_aload_n dX4_addFrame_19 rfl rfl ?_
  refine a_getR fl_RX4_17 dX4_addFrame_20 rfl k_v0 rfl (by decide) hf (fun b20 n_b20 _ k_b20 hf => ?_)
  refine a_aload_n dX4_addFrame_23 rfl rfl ?_
  refine a_getI fl_RX4_28 dX4_addFrame_24 rfl k_v0 rfl ?_
  refine a_aald dX4_addFrame_27 rfl k_b20 hf (fun hf => ?_) (fun b27 n_b27 _ k_b27 hf => ?_)
  · refine a_goto (t := 32) dX4_addFrame_28 rfl ?_
    refine a_astoreN (L' := [some (.ref v0), some (.int v1), some (.int v2), some (.int v3), some (.int v4), some (.null)]) dX4_addFrame_32 rfl (Nat.le_of_ble_eq_true rfl) (fun _ _ hv => by cases hv; rfl) rfl ?_
    refine a_aloadN dX4_addFrame_34 rfl rfl ?_
    refine a_ifnullN (t := 59) dX4_addFrame_36 rfl ?_
    cases hf
    exact a_ret dX4_addFrame_59 rfl rfl rfl
  refine a_goto (t := 32) dX4_addFrame_28 rfl ?_
  refine a_astore (L' := [some (.ref v0), some (.int v1), some (.int v2), some (.int v3), some (.int v4), some (.ref b27)]) dX4_addFrame_32 rfl (Nat.le_of_ble_eq_true rfl) (fun _ _ hv => by cases hv; rfl) rfl ?_
  refine a_aload dX4_addFrame_34 rfl rfl ?_
  refine a_ifnullR dX4_addFrame_36 rfl ?_
  refine a_aload dX4_addFrame_39 rfl rfl ?_
  refine a_iload_n dX4_addFrame_41 rfl rfl ?_
  refine a_iload_n dX4_addFrame_42 rfl rfl ?_
  refine a_iload_n dX4_addFrame_43 rfl rfl ?_
  refine a_iload dX4_addFrame_44 rfl rfl ?_
  obtain ⟨r46, h46, hc46, hf⟩ := am_bind_some hf
  refine a_callV (As := [.int v1, .int v2, .int v3, .int v4]) (r1 := (none, Γ, h46)) (sX1_begin l k_b27 hc46) ccX1_begin tw_365 tw_366 tw_367 (ci := 1) rfl (by decide) ⟨Nat.le_of_ble_eq_true rfl, Nat.le_of_ble_eq_true rfl, Nat.le_of_ble_eq_true rfl, Nat.le_of_ble_eq_true rfl⟩ dX4_addFrame_46 rfl k_b27 rfl (Nat.le_of_ble_eq_true rfl) rfl rfl (fun hr46 => ?_)
  refine a_aload_n dX4_addFrame_49 rfl rfl ?_
  refine a_dup dX4_addFrame_50 rfl rfl ?_
  refine a_getI fl_RX4_28 dX4_addFrame_51 rfl k_v0 rfl ?_
  refine a_iconst (v := nI 1) dX4_addFrame_54 rfl (by decide) ?_
  refine a_iadd dX4_addFrame_55 rfl ?_
  refine a_putI fp_RX4_28 dX4_addFrame_56 rfl k_v0 rfl hf (fun h56 hf => ?_)
  cases hf
  exact a_ret dX4_addFrame_59 rfl rfl rfl
set_option maxRecDepth 100000 in
set_option maxHeartbeats 4000000 in
theorem sX4_setByte (l : Launch) {Γ : Gm} {h h' : AH} {v0 : Nat} {v1 : Int32} {v2 : Int32} {r : Unit} {n_v0 : Nat} (k_v0 : Γ[v0]? = some (4, n_v0)) (hf : fX4_setByte Γ v0 v1 v2 h = some (r, h')) : AR l yX4_setByte mX4_setByte [.ref v0, .int v1, .int v2] Γ h (none, Γ, h') := by
  refine AR.of [some (.ref v0), some (.int v1), some (.int v2)] (by decide +kernel) rfl (fun z => by cases z) (Nat.le_of_ble_eq_true rfl) ⟨rfl, ⟨rfl, ⟨rfl, trivial⟩⟩⟩ ?_
  unfold fX4_setByte at hf
  refine a_iload_n dX4_setByte_0 rfl rfl ?_
  refine a_if_lt (t := 28) dX4_setByte_1 rfl rfl hf (fun _ hf => ?_) (fun _ hf => ?_)
  · cases hf
    exact a_ret dX4_setByte_28 rfl rfl rfl
  refine a_iload_n dX4_setByte_4 rfl rfl ?_
  refine a_aload_n dX4_setByte_5 rfl rfl ?_
  refine a_getI fl_RX4_21 dX4_setByte_6 rfl k_v0 rfl ?_
  refine a_icmp_ge (t := 28) dX4_setByte_9 rfl rfl hf (fun _ hf => ?_) (fun _ hf => ?_)
  · cases hf
    exact a_ret dX4_setByte_28 rfl rfl rfl
  refine a_iload_n dX4_setByte_12 rfl rfl ?_
  refine a_aload_n dX4_setByte_13 rfl rfl ?_
  refine a_getR fl_RX4_9 dX4_setByte_14 rfl k_v0 rfl (by decide) hf (fun b14 n_b14 _ k_b14 hf => ?_)
  refine a_alen dX4_setByte_17 rfl k_b14 ?_
  refine a_icmp_ge (t := 28) dX4_setByte_18 rfl rfl hf (fun _ hf => ?_) (fun _ hf => ?_)
  · cases hf
    exact a_ret dX4_setByte_28 rfl rfl rfl
  refine a_aload_n dX4_setByte_21 rfl rfl ?_
  refine a_getR fl_RX4_9 dX4_setByte_22 rfl k_v0 rfl (by decide) hf (fun b22 n_b22 _ k_b22 hf => ?_)
  refine a_iload_n dX4_setByte_25 rfl rfl ?_
  refine a_iload_n dX4_setByte_26 rfl rfl ?_
  refine a_iast dX4_setByte_27 rfl k_b22 hf (fun h27 hf => ?_)
  cases hf
  exact a_ret dX4_setByte_28 rfl rfl rfl
set_option maxRecDepth 100000 in
set_option maxHeartbeats 4000000 in
theorem sX5_byteAt (l : Launch) {Γ : Gm} {h h' : AH} {v0 : Nat} {v1 : Int32} {r : Int32} {n_v0 : Nat} (k_v0 : Γ[v0]? = some (5, n_v0)) (hf : fX5_byteAt Γ v0 v1 h = some (r, h')) : AR l yX5_byteAt mX5_byteAt [.ref v0, .int v1] Γ h (some (.int r), Γ, h') := by
  refine AR.of [some (.ref v0), some (.int v1)] (by decide +kernel) rfl (fun z => by cases z) (Nat.le_of_ble_eq_true rfl) ⟨rfl, ⟨rfl, trivial⟩⟩ ?_
  unfold fX5_byteAt at hf
  refine a_iload_n dX5_byteAt_0 rfl rfl ?_
  refine a_if_lt (t := 30) dX5_byteAt_1 rfl rfl hf (fun _ hf => ?_) (fun _ hf => ?_)
  · refine a_iconst (v := nI 0) dX5_byteAt_30 rfl (by decide) ?_
    cases hf
    exact a_iret dX5_byteAt_31 rfl rfl rfl (by decide)
  refine a_iload_n dX5_byteAt_4 rfl rfl ?_
  refine a_aload_n dX5_byteAt_5 rfl rfl ?_
  refine a_getI fl_RX5_18 dX5_byteAt_6 rfl k_v0 rfl ?_
  refine a_icmp_ge (t := 30) dX5_byteAt_9 rfl rfl hf (fun _ hf => ?_) (fun _ hf => ?_)
  · refine a_iconst (v := nI 0) dX5_byteAt_30 rfl (by decide) ?_
    cases hf
    exact a_iret dX5_byteAt_31 rfl rfl rfl (by decide)
  refine a_iload_n dX5_byteAt_12 rfl rfl ?_
  refine a_aload_n dX5_byteAt_13 rfl rfl ?_
  refine a_getR fl_RX5_15 dX5_byteAt_14 rfl k_v0 rfl (by decide) hf (fun b14 n_b14 _ k_b14 hf => ?_)
  refine a_alen dX5_byteAt_17 rfl k_b14 ?_
  refine a_icmp_ge (t := 30) dX5_byteAt_18 rfl rfl hf (fun _ hf => ?_) (fun _ hf => ?_)
  · refine a_iconst (v := nI 0) dX5_byteAt_30 rfl (by decide) ?_
    cases hf
    exact a_iret dX5_byteAt_31 rfl rfl rfl (by decide)
  refine a_aload_n dX5_byteAt_21 rfl rfl ?_
  refine a_getR fl_RX5_15 dX5_byteAt_22 rfl k_v0 rfl (by decide) hf (fun b22 n_b22 _ k_b22 hf => ?_)
  refine a_iload_n dX5_byteAt_25 rfl rfl ?_
  refine a_iald dX5_byteAt_26 rfl k_b22 hf (fun hf => ?_)
  refine a_goto (t := 31) dX5_byteAt_27 rfl ?_
  cases hf
  exact a_iret dX5_byteAt_31 rfl rfl rfl (by decide)
