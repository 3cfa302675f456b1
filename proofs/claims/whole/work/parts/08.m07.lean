set_option maxRecDepth 100000 in
set_option maxHeartbeats 4000000 in
theorem wX4_tellFrames_25 (l : Launch) {Γ : Gm} {r : Unit} {h' : AH} {k2 : Nat → Nat → Int32 → AH → Option (Unit × AH)} (hk2 : ∀ v0 v1 v2 (h : AH), ∀ n_v0 : Nat, Γ[v0]? = some (4, n_v0) → ∀ n_v1 : Nat, Γ[v1]? = some (0, n_v1) → k2 v0 v1 v2 h = some (r, h') → AW l mX4_tellFrames (none, Γ, h') 0 0 2 [some (.ref v0), some (.ref v1), some (.int v2), none] [] Γ h) (v0 : Nat) (v1 : Nat) (v2 : Int32) (h : AH) : ∀ n_v0 : Nat, Γ[v0]? = some (4, n_v0) → ∀ n_v1 : Nat, Γ[v1]? = some (0, n_v1) → fX4_tellFrames_25 Γ k2 v0 v1 v2 h = some (r, h') → AW l mX4_tellFrames (none, Γ, h') 0 0 25 [some (.ref v0), some (.ref v1), some (.int v2), none] [] Γ h := by
  intro n_v0 k_v0 n_v1 k_v1 hf
  unfold fX4_tellFrames_25 at hf
  refine a_iinc (v := v2 + nI 1) (L' := [some (.ref v0), some (.ref v1), some (.int (v2 + nI 1)), none]) dX4_tellFrames_25 rfl rfl rfl (Nat.le_of_ble_eq_true rfl) (fun _ _ hv => by cases hv; rfl) rfl ?_
  refine a_goto (t := 2) dX4_tellFrames_28 rfl ?_
  exact AW.weak (hk2 v0 v1 (v2 + nI 1) h _ k_v0 _ k_v1 hf) ⟨rfl, ⟨rfl, ⟨rfl, trivial⟩⟩⟩
set_option maxRecDepth 100000 in
set_option maxHeartbeats 4000000 in
theorem wX4_tellFrames_2 (l : Launch) {Γ : Gm} {r : Unit} {h' : AH} : ∀ (z : Nat) (v0 : Nat) (v1 : Nat) (v2 : Int32) (h : AH), ∀ n_v0 : Nat, Γ[v0]? = some (4, n_v0) → ∀ n_v1 : Nat, Γ[v1]? = some (0, n_v1) → fX4_tellFrames_2 Γ z v0 v1 v2 h = some (r, h') → AW l mX4_tellFrames (none, Γ, h') 0 0 2 [some (.ref v0), some (.ref v1), some (.int v2), none] [] Γ h := by
  intro z
  induction z with
  | zero => intro v0 v1 v2 h n_v0 k_v0 n_v1 k_v1 hf; cases hf
  | succ z ih =>
    intro v0 v1 v2 h n_v0 k_v0 n_v1 k_v1 hf
    unfold fX4_tellFrames_2 at hf
    refine a_iload_n dX4_tellFrames_2 rfl rfl ?_
    refine a_aload_n dX4_tellFrames_3 rfl rfl ?_
    refine a_getI fl_RX4_28 dX4_tellFrames_4 rfl k_v0 rfl ?_
    refine a_icmp_ge (t := 31) dX4_tellFrames_7 rfl rfl hf (fun _ hf => ?_) (fun _ hf => ?_)
    · cases hf
      exact a_ret dX4_tellFrames_31 rfl rfl rfl
    refine a_aload_n dX4_tellFrames_10 rfl rfl ?_
    refine a_iload_n dX4_tellFrames_11 rfl rfl ?_
    obtain ⟨r12, h12, hc12, hf⟩ := am_bind_some hf
    refine a_callV (As := [.int v2]) (r1 := (some (am_o r12), Γ, h12)) (sX4_frameAt l k_v0 hc12) ccX4_frameAt tw_415 tw_416 tw_417 (ci := 4) rfl (by decide) ⟨Nat.le_of_ble_eq_true rfl, Nat.le_of_ble_eq_true rfl, Nat.le_of_ble_eq_true rfl, Nat.le_of_ble_eq_true rfl⟩ dX4_tellFrames_12 rfl k_v0 rfl (Nat.le_of_ble_eq_true rfl) rfl rfl (fun hr12 => ?_)
    cases r12 with
    | none =>
      refine AW.null ?_
      refine a_astore_nN (L' := [some (.ref v0), some (.ref v1), some (.int v2), some (.null)]) dX4_tellFrames_15 rfl (Nat.le_of_ble_eq_true rfl) (fun _ _ hv => by cases hv; rfl) rfl ?_
      refine a_aload_nN dX4_tellFrames_16 rfl rfl ?_
      refine a_ifnullN (t := 25) dX4_tellFrames_17 rfl ?_
      exact AW.weak (wX4_tellFrames_25 l ih v0 v1 v2 h12 _ k_v0 _ k_v1 hf) ⟨rfl, ⟨rfl, ⟨rfl, trivial⟩⟩⟩
    | some b12 =>
      obtain ⟨n_b12, k_b12⟩ := hr12.1 b12 rfl (by decide)
      refine AW.refo ?_
      simp only [Option.elim_some] at hf
      refine a_astore_n (L' := [some (.ref v0), some (.ref v1), some (.int v2), some (.ref b12)]) dX4_tellFrames_15 rfl (Nat.le_of_ble_eq_true rfl) (fun _ _ hv => by cases hv; rfl) rfl ?_
      refine a_aload_n dX4_tellFrames_16 rfl rfl ?_
      refine a_ifnullR dX4_tellFrames_17 rfl ?_
      refine a_aload_n dX4_tellFrames_20 rfl rfl ?_
      refine a_aload_n dX4_tellFrames_21 rfl rfl ?_
      obtain ⟨r22, h22, hc22, hf⟩ := am_bind_some hf
      refine a_callV (As := [.ref v1]) (r1 := (none, Γ, h22)) (sX1_tell l k_b12 k_v1 hc22) ccX1_tell tw_467 tw_468 tw_469 (ci := 1) rfl (by decide) ⟨Nat.le_of_ble_eq_true rfl, Nat.le_of_ble_eq_true rfl, Nat.le_of_ble_eq_true rfl, Nat.le_of_ble_eq_true rfl⟩ dX4_tellFrames_22 rfl k_b12 rfl (Nat.le_of_ble_eq_true rfl) rfl rfl (fun hr22 => ?_)
      exact AW.weak (wX4_tellFrames_25 l ih v0 v1 v2 h22 _ k_v0 _ k_v1 hf) ⟨rfl, ⟨rfl, ⟨rfl, trivial⟩⟩⟩
set_option maxRecDepth 100000 in
set_option maxHeartbeats 4000000 in
theorem sX4_tellFrames (l : Launch) {Γ : Gm} {h h' : AH} {v0 : Nat} {v1 : Nat} {r : Unit} {n_v0 : Nat} (k_v0 : Γ[v0]? = some (4, n_v0)) {n_v1 : Nat} (k_v1 : Γ[v1]? = some (0, n_v1)) (hf : fX4_tellFrames Γ v0 v1 h = some (r, h')) : AR l yX4_tellFrames mX4_tellFrames [.ref v0, .ref v1] Γ h (none, Γ, h') := by
  refine AR.of [some (.ref v0), some (.ref v1), none, none] (by decide +kernel) rfl (fun z => by cases z) (Nat.le_of_ble_eq_true rfl) ⟨rfl, ⟨rfl, trivial⟩⟩ ?_
  unfold fX4_tellFrames at hf
  refine a_iconst (v := nI 0) dX4_tellFrames_0 rfl (by decide) ?_
  refine a_istore_n (L' := [some (.ref v0), some (.ref v1), some (.int (nI 0)), none]) dX4_tellFrames_1 rfl (Nat.le_of_ble_eq_true rfl) (fun _ _ hv => by cases hv; rfl) rfl ?_
  exact AW.weak (wX4_tellFrames_2 l am_fuel v0 v1 (nI 0) h _ k_v0 _ k_v1 hf) ⟨rfl, ⟨rfl, ⟨rfl, trivial⟩⟩⟩
set_option maxRecDepth 100000 in
set_option maxHeartbeats 4000000 in
theorem wX5_takeFrom_48 (l : Launch) {Γ : Gm} {r : Unit} {h' : AH} : ∀ (z : Nat) (v0 : Nat) (v1 : Nat) (v2 : Int32) (h : AH), ∀ n_v0 : Nat, Γ[v0]? = some (5, n_v0) → ∀ n_v1 : Nat, Γ[v1]? = some (0, n_v1) → fX5_takeFrom_48 Γ z v0 v1 v2 h = some (r, h') → AW l mX5_takeFrom (none, Γ, h') 0 0 48 [some (.ref v0), some (.ref v1), some (.int v2)] [] Γ h := by
  intro z
  induction z with
  | zero => intro v0 v1 v2 h n_v0 k_v0 n_v1 k_v1 hf; cases hf
  | succ z ih =>
    intro v0 v1 v2 h n_v0 k_v0 n_v1 k_v1 hf
    unfold fX5_takeFrom_48 at hf
    refine a_iload_n dX5_takeFrom_48 rfl rfl ?_
    refine a_aload_n dX5_takeFrom_49 rfl rfl ?_
    refine a_getI fl_RX5_18 dX5_takeFrom_50 rfl k_v0 rfl ?_
    refine a_icmp_ge (t := 76) dX5_takeFrom_53 rfl rfl hf (fun _ hf => ?_) (fun _ hf => ?_)
    · cases hf
      exact a_ret dX5_takeFrom_76 rfl rfl rfl
    refine a_aload_n dX5_takeFrom_56 rfl rfl ?_
    refine a_getR fl_RX5_15 dX5_takeFrom_57 rfl k_v0 rfl (by decide) hf (fun b57 n_b57 _ k_b57 hf => ?_)
    refine a_iload_n dX5_takeFrom_60 rfl rfl ?_
    refine a_aload_n dX5_takeFrom_61 rfl rfl ?_
    refine a_bipush (v := nI 10) dX5_takeFrom_62 rfl (by decide) ?_
    refine a_iload_n dX5_takeFrom_64 rfl rfl ?_
    refine a_iadd dX5_takeFrom_65 rfl ?_
    obtain ⟨r66, h66, hc66, hf⟩ := am_bind_some hf
    refine a_callV (As := [.int ((nI 10) + v2)]) (r1 := (some (.int r66), Γ, h66)) (sX0_at l k_v1 hc66) ccX0_at tw_344 tw_309 tw_310 (ci := 0) rfl (by decide) ⟨Nat.le_of_ble_eq_true rfl, Nat.le_of_ble_eq_true rfl, Nat.le_of_ble_eq_true rfl, Nat.le_of_ble_eq_true rfl⟩ dX5_takeFrom_66 rfl k_v1 rfl (Nat.le_of_ble_eq_true rfl) rfl rfl (fun hr66 => ?_)
    refine a_iast dX5_takeFrom_69 rfl k_b57 hf (fun h69 hf => ?_)
    refine a_iinc (v := v2 + nI 1) (L' := [some (.ref v0), some (.ref v1), some (.int (v2 + nI 1))]) dX5_takeFrom_70 rfl rfl rfl (Nat.le_of_ble_eq_true rfl) (fun _ _ hv => by cases hv; rfl) rfl ?_
    refine a_goto (t := 48) dX5_takeFrom_73 rfl ?_
    exact AW.weak (ih v0 v1 (v2 + nI 1) h69 _ k_v0 _ k_v1 hf) ⟨rfl, ⟨rfl, ⟨rfl, trivial⟩⟩⟩
set_option maxRecDepth 100000 in
set_option maxHeartbeats 4000000 in
theorem wX5_takeFrom_2 (l : Launch) {Γ : Gm} {r : Unit} {h' : AH} : ∀ (z : Nat) (v0 : Nat) (v1 : Nat) (v2 : Int32) (h : AH), ∀ n_v0 : Nat, Γ[v0]? = some (5, n_v0) → ∀ n_v1 : Nat, Γ[v1]? = some (0, n_v1) → fX5_takeFrom_2 Γ z v0 v1 v2 h = some (r, h') → AW l mX5_takeFrom (none, Γ, h') 0 0 2 [some (.ref v0), some (.ref v1), some (.int v2)] [] Γ h := by
  intro z
  induction z with
  | zero => intro v0 v1 v2 h n_v0 k_v0 n_v1 k_v1 hf; cases hf
  | succ z ih =>
    intro v0 v1 v2 h n_v0 k_v0 n_v1 k_v1 hf
    unfold fX5_takeFrom_2 at hf
    refine a_iload_n dX5_takeFrom_2 rfl rfl ?_
    refine a_bipush (v := nI 10) dX5_takeFrom_3 rfl (by decide) ?_
    refine a_icmp_ge (t := 25) dX5_takeFrom_5 rfl rfl hf (fun _ hf => ?_) (fun _ hf => ?_)
    · refine a_aload_n dX5_takeFrom_25 rfl rfl ?_
      refine a_iconst (v := nI 0) dX5_takeFrom_26 rfl (by decide) ?_
      refine a_aload_n dX5_takeFrom_27 rfl rfl ?_
      refine a_getI fl_RX5_28 dX5_takeFrom_28 rfl k_v1 rfl ?_
      refine a_bipush (v := nI 10) dX5_takeFrom_31 rfl (by decide) ?_
      refine a_isub dX5_takeFrom_33 rfl ?_
      refine a_sipush (v := nI 1000) dX5_takeFrom_34 rfl (by decide) ?_
      refine a_min dX5_takeFrom_37 rfl tw_345 tw_346 tw_4 tw_347 ⟨Nat.le_of_ble_eq_true rfl, Nat.le_of_ble_eq_true rfl, Nat.le_of_ble_eq_true rfl, Nat.le_of_ble_eq_true rfl⟩ ?_
      refine a_max dX5_takeFrom_40 rfl tw_348 tw_35 tw_4 tw_36 ⟨Nat.le_of_ble_eq_true rfl, Nat.le_of_ble_eq_true rfl, Nat.le_of_ble_eq_true rfl, Nat.le_of_ble_eq_true rfl⟩ ?_
      refine a_putI fp_RX5_18 dX5_takeFrom_43 rfl k_v0 rfl hf (fun h43 hf => ?_)
      refine a_iconst (v := nI 0) dX5_takeFrom_46 rfl (by decide) ?_
      refine a_istore_n (L' := [some (.ref v0), some (.ref v1), some (.int (nI 0))]) dX5_takeFrom_47 rfl (Nat.le_of_ble_eq_true rfl) (fun _ _ hv => by cases hv; rfl) rfl ?_
      exact AW.weak (wX5_takeFrom_48 l am_fuel v0 v1 (nI 0) h43 _ k_v0 _ k_v1 hf) ⟨rfl, ⟨rfl, ⟨rfl, trivial⟩⟩⟩
    refine a_aload_n dX5_takeFrom_8 rfl rfl ?_
    refine a_getR fl_RX5_9 dX5_takeFrom_9 rfl k_v0 rfl (by decide) hf (fun b9 n_b9 _ k_b9 hf => ?_)
    refine a_iload_n dX5_takeFrom_12 rfl rfl ?_
    refine a_aload_n dX5_takeFrom_13 rfl rfl ?_
    refine a_iload_n dX5_takeFrom_14 rfl rfl ?_
    obtain ⟨r15, h15, hc15, hf⟩ := am_bind_some hf
    refine a_callV (As := [.int v2]) (r1 := (some (.int r15), Γ, h15)) (sX0_at l k_v1 hc15) ccX0_at tw_344 tw_309 tw_310 (ci := 0) rfl (by decide) ⟨Nat.le_of_ble_eq_true rfl, Nat.le_of_ble_eq_true rfl, Nat.le_of_ble_eq_true rfl, Nat.le_of_ble_eq_true rfl⟩ dX5_takeFrom_15 rfl k_v1 rfl (Nat.le_of_ble_eq_true rfl) rfl rfl (fun hr15 => ?_)
    refine a_iast dX5_takeFrom_18 rfl k_b9 hf (fun h18 hf => ?_)
    refine a_iinc (v := v2 + nI 1) (L' := [some (.ref v0), some (.ref v1), some (.int (v2 + nI 1))]) dX5_takeFrom_19 rfl rfl rfl (Nat.le_of_ble_eq_true rfl) (fun _ _ hv => by cases hv; rfl) rfl ?_
    refine a_goto (t := 2) dX5_takeFrom_22 rfl ?_
    exact AW.weak (ih v0 v1 (v2 + nI 1) h18 _ k_v0 _ k_v1 hf) ⟨rfl, ⟨rfl, ⟨rfl, trivial⟩⟩⟩
set_option maxRecDepth 100000 in
set_option maxHeartbeats 4000000 in
theorem sX5_takeFrom (l : Launch) {Γ : Gm} {h h' : AH} {v0 : Nat} {v1 : Nat} {r : Unit} {n_v0 : Nat} (k_v0 : Γ[v0]? = some (5, n_v0)) {n_v1 : Nat} (k_v1 : Γ[v1]? = some (0, n_v1)) (hf : fX5_takeFrom Γ v0 v1 h = some (r, h')) : AR l yX5_takeFrom mX5_takeFrom [.ref v0, .ref v1] Γ h (none, Γ, h') := by
  refine AR.of [some (.ref v0), some (.ref v1), none] (by decide +kernel) rfl (fun z => by cases z) (Nat.le_of_ble_eq_true rfl) ⟨rfl, ⟨rfl, trivial⟩⟩ ?_
  unfold fX5_takeFrom at hf
  refine a_iconst (v := nI 0) dX5_takeFrom_0 rfl (by decide) ?_
  refine a_istore_n (L' := [some (.ref v0), some (.ref v1), some (.int (nI 0))]) dX5_takeFrom_1 rfl (Nat.le_of_ble_eq_true rfl) (fun _ _ hv => by cases hv; rfl) rfl ?_
  exact AW.weak (wX5_takeFrom_2 l am_fuel v0 v1 (nI 0) h _ k_v0 _ k_v1 hf) ⟨rfl, ⟨rfl, ⟨rfl, trivial⟩⟩⟩
set_option maxRecDepth 100000 in
set_option maxHeartbeats 4000000 in
theorem wX5_tellHead_2 (l : Launch) {Γ : Gm} {r : Unit} {h' : AH} : ∀ (z : Nat) (v0 : Nat) (v1 : Nat) (v2 : Int32) (h : AH), ∀ n_v0 : Nat, Γ[v0]? = some (5, n_v0) → ∀ n_v1 : Nat, Γ[v1]? = some (0, n_v1) → fX5_tellHead_2 Γ z v0 v1 v2 h = some (r, h') → AW l mX5_tellHead (none, Γ, h') 0 0 2 [some (.ref v0), some (.ref v1), some (.int v2)] [] Γ h := by
  intro z
  induction z with
  | zero => intro v0 v1 v2 h n_v0 k_v0 n_v1 k_v1 hf; cases hf
  | succ z ih =>
    intro v0 v1 v2 h n_v0 k_v0 n_v1 k_v1 hf
    unfold fX5_tellHead_2 at hf
    refine a_iload_n dX5_tellHead_2 rfl rfl ?_
    refine a_bipush (v := nI 10) dX5_tellHead_3 rfl (by decide) ?_
    refine a_icmp_ge (t := 24) dX5_tellHead_5 rfl rfl hf (fun _ hf => ?_) (fun _ hf => ?_)
    · cases hf
      exact a_ret dX5_tellHead_24 rfl rfl rfl
    refine a_aload_n dX5_tellHead_8 rfl rfl ?_
    refine a_aload_n dX5_tellHead_9 rfl rfl ?_
    refine a_getR fl_RX5_9 dX5_tellHead_10 rfl k_v0 rfl (by decide) hf (fun b10 n_b10 _ k_b10 hf => ?_)
    refine a_iload_n dX5_tellHead_13 rfl rfl ?_
    refine a_iald dX5_tellHead_14 rfl k_b10 hf (fun hf => ?_)
    obtain ⟨r15, h15, hc15, hf⟩ := am_bind_some hf
    refine a_callV (As := [.int (h.1 b10 v2.toNatClampNeg)]) (r1 := (none, Γ, h15)) (sX0_add l k_v1 hc15) ccX0_add tw_496 tw_290 tw_291 (ci := 0) rfl (by decide) ⟨Nat.le_of_ble_eq_true rfl, Nat.le_of_ble_eq_true rfl, Nat.le_of_ble_eq_true rfl, Nat.le_of_ble_eq_true rfl⟩ dX5_tellHead_15 rfl k_v1 rfl (Nat.le_of_ble_eq_true rfl) rfl rfl (fun hr15 => ?_)
    refine a_iinc (v := v2 + nI 1) (L' := [some (.ref v0), some (.ref v1), some (.int (v2 + nI 1))]) dX5_tellHead_18 rfl rfl rfl (Nat.le_of_ble_eq_true rfl) (fun _ _ hv => by cases hv; rfl) rfl ?_
    refine a_goto (t := 2) dX5_tellHead_21 rfl ?_
    exact AW.weak (ih v0 v1 (v2 + nI 1) h15 _ k_v0 _ k_v1 hf) ⟨rfl, ⟨rfl, ⟨rfl, trivial⟩⟩⟩
set_option maxRecDepth 100000 in
set_option maxHeartbeats 4000000 in
theorem sX5_tellHead (l : Launch) {Γ : Gm} {h h' : AH} {v0 : Nat} {v1 : Nat} {r : Unit} {n_v0 : Nat} (k_v0 : Γ[v0]? = some (5, n_v0)) {n_v1 : Nat} (k_v1 : Γ[v1]? = some (0, n_v1)) (hf : fX5_tellHead Γ v0 v1 h = some (r, h')) : AR l yX5_tellHead mX5_tellHead [.ref v0, .ref v1] Γ h (none, Γ, h') := by
  refine AR.of [some (.ref v0), some (.ref v1), none] (by decide +kernel) rfl (fun z => by cases z) (Nat.le_of_ble_eq_true rfl) ⟨rfl, ⟨rfl, trivial⟩⟩ ?_
  unfold fX5_tellHead at hf
  refine a_iconst (v := nI 0) dX5_tellHead_0 rfl (by decide) ?_
  refine a_istore_n (L' := [some (.ref v0), some (.ref v1), some (.int (nI 0))]) dX5_tellHead_1 rfl (Nat.le_of_ble_eq_true rfl) (fun _ _ hv => by cases hv; rfl) rfl ?_
  exact AW.weak (wX5_tellHead_2 l am_fuel v0 v1 (nI 0) h _ k_v0 _ k_v1 hf) ⟨rfl, ⟨rfl, ⟨rfl, trivial⟩⟩⟩
set_option maxRecDepth 100000 in
set_option maxHeartbeats 4000000 in
theorem sX7_startFile (l : Launch) {Γ : Gm} {h h' : AH} {v0 : Nat} {r : Unit} {n_v0 : Nat} (k_v0 : Γ[v0]? = some (7, n_v0)) (hf : fX7_startFile Γ v0 h = some (r, h')) : AR l yX7_startFile mX7_startFile [.ref v0] Γ h (none, Γ, h') := by
  refine AR.of [some (.ref v0)] (by decide +kernel) rfl (fun z => by cases z) (Nat.le_of_ble_eq_true rfl) ⟨rfl, trivial⟩ ?_
  unfold fX7_startFile at hf
  refine a_aload_n dX7_startFile_0 rfl rfl ?_
  refine a_iconst (v := nI 0) dX7_startFile_1 rfl (by decide) ?_
  refine a_putI fp_RX7_30 dX7_startFile_2 rfl k_v0 rfl hf (fun h2 hf => ?_)
  refine a_aload_n dX7_startFile_5 rfl rfl ?_
  refine a_getR fl_RX7_14 dX7_startFile_6 rfl k_v0 rfl (by decide) hf (fun b6 n_b6 _ k_b6 hf => ?_)
  obtain ⟨r9, h9, hc9, hf⟩ := am_bind_some hf
  refine a_callV (As := []) (r1 := (none, Γ, h9)) (sX0_clear l k_b6 hc9) ccX0_clear tw_483 tw_325 tw_326 (ci := 0) rfl (by decide) ⟨Nat.le_of_ble_eq_true rfl, Nat.le_of_ble_eq_true rfl, Nat.le_of_ble_eq_true rfl, Nat.le_of_ble_eq_true rfl⟩ dX7_startFile_9 rfl k_b6 rfl (Nat.le_of_ble_eq_true rfl) rfl rfl (fun hr9 => ?_)
  refine a_aload_n dX7_startFile_12 rfl rfl ?_
  refine a_getR fl_RX7_14 dX7_startFile_13 rfl k_v0 rfl (by decide) hf (fun b13 n_b13 _ k_b13 hf => ?_)
  refine a_ldc (v := nI 1179603533) dX7_startFile_16 rfl tw_484 ?_
  refine a_iconst (v := nI 4) dX7_startFile_18 rfl (by decide) ?_
  obtain ⟨r19, h19, hc19, hf⟩ := am_bind_some hf
  refine a_callV (As := [.int (nI 1179603533), .int (nI 4)]) (r1 := (none, Γ, h19)) (sX0_addNumber l k_b13 hc19) ccX0_addNumber tw_485 tw_286 tw_287 (ci := 0) rfl (by decide) ⟨Nat.le_of_ble_eq_true rfl, Nat.le_of_ble_eq_true rfl, Nat.le_of_ble_eq_true rfl, Nat.le_of_ble_eq_true rfl⟩ dX7_startFile_19 rfl k_b13 rfl (Nat.le_of_ble_eq_true rfl) rfl rfl (fun hr19 => ?_)
  refine a_aload_n dX7_startFile_22 rfl rfl ?_
  refine a_getR fl_RX7_14 dX7_startFile_23 rfl k_v0 rfl (by decide) hf (fun b23 n_b23 _ k_b23 hf => ?_)
  refine a_iconst (v := nI 0) dX7_startFile_26 rfl (by decide) ?_
  refine a_iconst (v := nI 4) dX7_startFile_27 rfl (by decide) ?_
  obtain ⟨r28, h28, hc28, hf⟩ := am_bind_some hf
  refine a_callV (As := [.int (nI 0), .int (nI 4)]) (r1 := (none, Γ, h28)) (sX0_addNumber l k_b23 hc28) ccX0_addNumber tw_485 tw_286 tw_287 (ci := 0) rfl (by decide) ⟨Nat.le_of_ble_eq_true rfl, Nat.le_of_ble_eq_true rfl, Nat.le_of_ble_eq_true rfl, Nat.le_of_ble_eq_true rfl⟩ dX7_startFile_28 rfl k_b23 rfl (Nat.le_of_ble_eq_true rfl) rfl rfl (fun hr28 => ?_)
  refine a_aload_n dX7_startFile_31 rfl rfl ?_
  refine a_getR fl_RX7_14 dX7_startFile_32 rfl k_v0 rfl (by decide) hf (fun b32 n_b32 _ k_b32 hf => ?_)
  refine a_ldc (v := nI 1229347411) dX7_startFile_35 rfl tw_486 ?_
  refine a_iconst (v := nI 4) dX7_startFile_37 rfl (by decide) ?_
  obtain ⟨r38, h38, hc38, hf⟩ := am_bind_some hf
  refine a_callV (As := [.int (nI 1229347411), .int (nI 4)]) (r1 := (none, Γ, h38)) (sX0_addNumber l k_b32 hc38) ccX0_addNumber tw_485 tw_286 tw_287 (ci := 0) rfl (by decide) ⟨Nat.le_of_ble_eq_true rfl, Nat.le_of_ble_eq_true rfl, Nat.le_of_ble_eq_true rfl, Nat.le_of_ble_eq_true rfl⟩ dX7_startFile_38 rfl k_b32 rfl (Nat.le_of_ble_eq_true rfl) rfl rfl (fun hr38 => ?_)
  cases hf
  exact a_ret dX7_startFile_41 rfl rfl rfl
set_option maxRecDepth 100000 in
set_option maxHeartbeats 4000000 in
theorem sX7_openChunk (l : Launch) {Γ : Gm} {h h' : AH} {v0 : Nat} {v1 : Int32} {r : Unit} {n_v0 : Nat} (k_v0 : Γ[v0]? = some (7, n_v0)) (hf : fX7_openChunk Γ v0 v1 h = some (r, h')) : AR l yX7_openChunk mX7_openChunk [.ref v0, .int v1] Γ h (none, Γ, h') := by
  refine AR.of [some (.ref v0), some (.int v1)] (by decide +kernel) rfl (fun z => by cases z) (Nat.le_of_ble_eq_true rfl) ⟨rfl, ⟨rfl, trivial⟩⟩ ?_
  unfold fX7_openChunk at hf
  refine a_aload_n dX7_openChunk_0 rfl rfl ?_
  refine a_getR fl_RX7_14 dX7_openChunk_1 rfl k_v0 rfl (by decide) hf (fun b1 n_b1 _ k_b1 hf => ?_)
  refine a_iload_n dX7_openChunk_4 rfl rfl ?_
  refine a_iconst (v := nI 4) dX7_openChunk_5 rfl (by decide) ?_
  obtain ⟨r6, h6, hc6, hf⟩ := am_bind_some hf
  refine a_callV (As := [.int v1, .int (nI 4)]) (r1 := (none, Γ, h6)) (sX0_addNumber l k_b1 hc6) ccX0_addNumber tw_485 tw_286 tw_287 (ci := 0) rfl (by decide) ⟨Nat.le_of_ble_eq_true rfl, Nat.le_of_ble_eq_true rfl, Nat.le_of_ble_eq_true rfl, Nat.le_of_ble_eq_true rfl⟩ dX7_openChunk_6 rfl k_b1 rfl (Nat.le_of_ble_eq_true rfl) rfl rfl (fun hr6 => ?_)
  refine a_aload_n dX7_openChunk_9 rfl rfl ?_
  refine a_getR fl_RX7_14 dX7_openChunk_10 rfl k_v0 rfl (by decide) hf (fun b10 n_b10 _ k_b10 hf => ?_)
  refine a_iconst (v := nI 0) dX7_openChunk_13 rfl (by decide) ?_
  refine a_iconst (v := nI 4) dX7_openChunk_14 rfl (by decide) ?_
  obtain ⟨r15, h15, hc15, hf⟩ := am_bind_some hf
  refine a_callV (As := [.int (nI 0), .int (nI 4)]) (r1 := (none, Γ, h15)) (sX0_addNumber l k_b10 hc15) ccX0_addNumber tw_485 tw_286 tw_287 (ci := 0) rfl (by decide) ⟨Nat.le_of_ble_eq_true rfl, Nat.le_of_ble_eq_true rfl, Nat.le_of_ble_eq_true rfl, Nat.le_of_ble_eq_true rfl⟩ dX7_openChunk_15 rfl k_b10 rfl (Nat.le_of_ble_eq_true rfl) rfl rfl (fun hr15 => ?_)
  refine a_aload_n dX7_openChunk_18 rfl rfl ?_
  refine a_getI fl_RX7_30 dX7_openChunk_19 rfl k_v0 rfl ?_
  refine a_if_lt (t := 63) dX7_openChunk_22 rfl rfl hf (fun _ hf => ?_) (fun _ hf => ?_)
  · cases hf
    exact a_ret dX7_openChunk_63 rfl rfl rfl
  refine a_aload_n dX7_openChunk_25 rfl rfl ?_
  refine a_getI fl_RX7_30 dX7_openChunk_26 rfl k_v0 rfl ?_
  refine a_aload_n dX7_openChunk_29 rfl rfl ?_
  refine a_getR fl_RX7_20 dX7_openChunk_30 rfl k_v0 rfl (by decide) hf (fun b30 n_b30 _ k_b30 hf => ?_)
  refine a_alen dX7_openChunk_33 rfl k_b30 ?_
  refine a_icmp_ge (t := 63) dX7_openChunk_34 rfl rfl hf (fun _ hf => ?_) (fun _ hf => ?_)
  · cases hf
    exact a_ret dX7_openChunk_63 rfl rfl rfl
  refine a_aload_n dX7_openChunk_37 rfl rfl ?_
  refine a_getR fl_RX7_20 dX7_openChunk_38 rfl k_v0 rfl (by decide) hf (fun b38 n_b38 _ k_b38 hf => ?_)
  refine a_aload_n dX7_openChunk_41 rfl rfl ?_
  refine a_getI fl_RX7_30 dX7_openChunk_42 rfl k_v0 rfl ?_
  refine a_iload_n dX7_openChunk_45 rfl rfl ?_
  refine a_iast dX7_openChunk_46 rfl k_b38 hf (fun h46 hf => ?_)
  refine a_aload_n dX7_openChunk_47 rfl rfl ?_
  refine a_getR fl_RX7_24 dX7_openChunk_48 rfl k_v0 rfl (by decide) hf (fun b48 n_b48 _ k_b48 hf => ?_)
  refine a_aload_n dX7_openChunk_51 rfl rfl ?_
  refine a_getI fl_RX7_30 dX7_openChunk_52 rfl k_v0 rfl ?_
  refine a_aload_n dX7_openChunk_55 rfl rfl ?_
  refine a_getR fl_RX7_14 dX7_openChunk_56 rfl k_v0 rfl (by decide) hf (fun b56 n_b56 _ k_b56 hf => ?_)
  refine a_getI fl_RX7_43 dX7_openChunk_59 rfl k_b56 rfl ?_
  refine a_iast dX7_openChunk_62 rfl k_b48 hf (fun h62 hf => ?_)
  cases hf
  exact a_ret dX7_openChunk_63 rfl rfl rfl
set_option maxRecDepth 100000 in
set_option maxHeartbeats 4000000 in
theorem wX7_closeChunk_81 (l : Launch) {Γ : Gm} {r : Unit} {h' : AH} (v0 : Nat) (h : AH) : ∀ n_v0 : Nat, Γ[v0]? = some (7, n_v0) → fX7_closeChunk_81 Γ v0 h = some (r, h') → AW l mX7_closeChunk (none, Γ, h') 0 0 81 [some (.ref v0), none] [] Γ h := by
  intro n_v0 k_v0 hf
  unfold fX7_closeChunk_81 at hf
  refine a_aload_n dX7_closeChunk_81 rfl rfl ?_
  refine a_dup dX7_closeChunk_82 rfl rfl ?_
  refine a_getI fl_RX7_30 dX7_closeChunk_83 rfl k_v0 rfl ?_
  refine a_iconst (v := nI 1) dX7_closeChunk_86 rfl (by decide) ?_
  refine a_iadd dX7_closeChunk_87 rfl ?_
  refine a_putI fp_RX7_30 dX7_closeChunk_88 rfl k_v0 rfl hf (fun h88 hf => ?_)
  cases hf
  exact a_ret dX7_closeChunk_91 rfl rfl rfl
set_option maxRecDepth 100000 in
set_option maxHeartbeats 4000000 in
theorem sX7_closeChunk (l : Launch) {Γ : Gm} {h h' : AH} {v0 : Nat} {r : Unit} {n_v0 : Nat} (k_v0 : Γ[v0]? = some (7, n_v0)) (hf : fX7_closeChunk Γ v0 h = some (r, h')) : AR l yX7_closeChunk mX7_closeChunk [.ref v0] Γ h (none, Γ, h') := by
  refine AR.of [some (.ref v0), none] (by decide +kernel) rfl (fun z => by cases z) (Nat.le_of_ble_eq_true rfl) ⟨rfl, trivial⟩ ?_
  unfold fX7_closeChunk at hf
  refine a_aload_n dX7_closeChunk_0 rfl rfl ?_
  refine a_getI fl_RX7_30 dX7_closeChunk_1 rfl k_v0 rfl ?_
  refine a_if_lt (t := 91) dX7_closeChunk_4 rfl rfl hf (fun _ hf => ?_) (fun _ hf => ?_)
  · cases hf
    exact a_ret dX7_closeChunk_91 rfl rfl rfl
  refine a_aload_n dX7_closeChunk_7 rfl rfl ?_
  refine a_getI fl_RX7_30 dX7_closeChunk_8 rfl k_v0 rfl ?_
  refine a_aload_n dX7_closeChunk_11 rfl rfl ?_
  refine a_getR fl_RX7_20 dX7_closeChunk_12 rfl k_v0 rfl (by decide) hf (fun b12 n_b12 _ k_b12 hf => ?_)
  refine a_alen dX7_closeChunk_15 rfl k_b12 ?_
  refine a_icmp_ge (t := 91) dX7_closeChunk_16 rfl rfl hf (fun _ hf => ?_) (fun _ hf => ?_)
  · cases hf
    exact a_ret dX7_closeChunk_91 rfl rfl rfl
  refine a_aload_n dX7_closeChunk_19 rfl rfl ?_
  refine a_getR fl_RX7_14 dX7_closeChunk_20 rfl k_v0 rfl (by decide) hf (fun b20 n_b20 _ k_b20 hf => ?_)
  refine a_getI fl_RX7_43 dX7_closeChunk_23 rfl k_b20 rfl ?_
  refine a_aload_n dX7_closeChunk_26 rfl rfl ?_
  refine a_getR fl_RX7_24 dX7_closeChunk_27 rfl k_v0 rfl (by decide) hf (fun b27 n_b27 _ k_b27 hf => ?_)
  refine a_aload_n dX7_closeChunk_30 rfl rfl ?_
  refine a_getI fl_RX7_30 dX7_closeChunk_31 rfl k_v0 rfl ?_
  refine a_iald dX7_closeChunk_34 rfl k_b27 hf (fun hf => ?_)
  refine a_isub dX7_closeChunk_35 rfl ?_
  refine a_nmI hf (fun x36 hf => ?_)
  refine a_istore_n (L' := [some (.ref v0), some (.int x36)]) dX7_closeChunk_36 rfl (Nat.le_of_ble_eq_true rfl) (fun _ _ hv => by cases hv; rfl) rfl ?_
  refine a_aload_n dX7_closeChunk_37 rfl rfl ?_
  refine a_getR fl_RX7_27 dX7_closeChunk_38 rfl k_v0 rfl (by decide) hf (fun b38 n_b38 _ k_b38 hf => ?_)
  refine a_aload_n dX7_closeChunk_41 rfl rfl ?_
  refine a_getI fl_RX7_30 dX7_closeChunk_42 rfl k_v0 rfl ?_
  refine a_iload_n dX7_closeChunk_45 rfl rfl ?_
  refine a_iast dX7_closeChunk_46 rfl k_b38 hf (fun h46 hf => ?_)
  refine a_aload_n dX7_closeChunk_47 rfl rfl ?_
  refine a_getR fl_RX7_14 dX7_closeChunk_48 rfl k_v0 rfl (by decide) hf (fun b48 n_b48 _ k_b48 hf => ?_)
  refine a_aload_n dX7_closeChunk_51 rfl rfl ?_
  refine a_getR fl_RX7_24 dX7_closeChunk_52 rfl k_v0 rfl (by decide) hf (fun b52 n_b52 _ k_b52 hf => ?_)
  refine a_aload_n dX7_closeChunk_55 rfl rfl ?_
  refine a_getI fl_RX7_30 dX7_closeChunk_56 rfl k_v0 rfl ?_
  refine a_iald dX7_closeChunk_59 rfl k_b52 hf (fun hf => ?_)
  refine a_iconst (v := nI 4) dX7_closeChunk_60 rfl (by decide) ?_
  refine a_isub dX7_closeChunk_61 rfl ?_
  refine a_iload_n dX7_closeChunk_62 rfl rfl ?_
  obtain ⟨r63, h63, hc63, hf⟩ := am_bind_some hf
  refine a_callV (As := [.int ((h46.1 b52 (h46.1 v0 4).toNatClampNeg) - (nI 4)), .int x36]) (r1 := (none, Γ, h63)) (sX0_setNumber l k_b48 hc63) ccX0_setNumber tw_501 tw_502 tw_503 (ci := 0) rfl (by decide) ⟨Nat.le_of_ble_eq_true rfl, Nat.le_of_ble_eq_true rfl, Nat.le_of_ble_eq_true rfl, Nat.le_of_ble_eq_true rfl⟩ dX7_closeChunk_63 rfl k_b48 rfl (Nat.le_of_ble_eq_true rfl) rfl rfl (fun hr63 => ?_)
  refine a_iload_n dX7_closeChunk_66 rfl rfl ?_
  refine a_iconst (v := nI 1) dX7_closeChunk_67 rfl (by decide) ?_
  refine a_iand dX7_closeChunk_68 rfl ?_
  refine a_iconst (v := nI 1) dX7_closeChunk_69 rfl (by decide) ?_
  refine a_icmp_ne (t := 81) dX7_closeChunk_70 rfl rfl hf (fun _ hf => ?_) (fun _ hf => ?_)
  · refine a_aload_n dX7_closeChunk_73 rfl rfl ?_
    refine a_getR fl_RX7_14 dX7_closeChunk_74 rfl k_v0 rfl (by decide) hf (fun b74 n_b74 _ k_b74 hf => ?_)
    refine a_iconst (v := nI 0) dX7_closeChunk_77 rfl (by decide) ?_
    obtain ⟨r78, h78, hc78, hf⟩ := am_bind_some hf
    refine a_callV (As := [.int (nI 0)]) (r1 := (none, Γ, h78)) (sX0_add l k_b74 hc78) ccX0_add tw_505 tw_290 tw_291 (ci := 0) rfl (by decide) ⟨Nat.le_of_ble_eq_true rfl, Nat.le_of_ble_eq_true rfl, Nat.le_of_ble_eq_true rfl, Nat.le_of_ble_eq_true rfl⟩ dX7_closeChunk_78 rfl k_b74 rfl (Nat.le_of_ble_eq_true rfl) rfl rfl (fun hr78 => ?_)
    exact AW.weak (wX7_closeChunk_81 l v0 h78 _ k_v0 hf) ⟨rfl, trivial⟩
  exact AW.weak (wX7_closeChunk_81 l v0 h63 _ k_v0 hf) ⟨rfl, trivial⟩
set_option maxRecDepth 100000 in
set_option maxHeartbeats 4000000 in
theorem wX7_addStrangers_4 (l : Launch) {Γ : Gm} {r : Unit} {h' : AH} : ∀ (z : Nat) (v0 : Nat) (v1 : Nat) (v2 : Int32) (v3 : Int32) (h : AH), ∀ n_v0 : Nat, Γ[v0]? = some (7, n_v0) → ∀ n_v1 : Nat, Γ[v1]? = some (6, n_v1) → fX7_addStrangers_4 Γ z v0 v1 v2 v3 h = some (r, h') → AW l mX7_addStrangers (none, Γ, h') 0 0 4 [some (.ref v0), some (.ref v1), some (.int v2), some (.int v3)] [] Γ h := by
  intro z
  induction z with
  | zero => intro v0 v1 v2 v3 h n_v0 k_v0 n_v1 k_v1 hf; cases hf
  | succ z ih =>
    intro v0 v1 v2 v3 h n_v0 k_v0 n_v1 k_v1 hf
    unfold fX7_addStrangers_4 at hf
    refine a_iload_n dX7_addStrangers_4 rfl rfl ?_
    refine a_aload_n dX7_addStrangers_5 rfl rfl ?_
    refine a_getI fl_RX7_52 dX7_addStrangers_6 rfl k_v1 rfl ?_
    refine a_icmp_ge (t := 65) dX7_addStrangers_9 rfl rfl hf (fun _ hf => ?_) (fun _ hf => ?_)
    · cases hf
      exact a_ret dX7_addStrangers_65 rfl rfl rfl
    refine a_iload_n dX7_addStrangers_12 rfl rfl ?_
    refine a_bipush (v := nI 8) dX7_addStrangers_13 rfl (by decide) ?_
    refine a_icmp_ge (t := 65) dX7_addStrangers_15 rfl rfl hf (fun _ hf => ?_) (fun _ hf => ?_)
    · cases hf
      exact a_ret dX7_addStrangers_65 rfl rfl rfl
    refine a_aload_n dX7_addStrangers_18 rfl rfl ?_
    refine a_aload_n dX7_addStrangers_19 rfl rfl ?_
    refine a_getR fl_RX7_55 dX7_addStrangers_20 rfl k_v1 rfl (by decide) hf (fun b20 n_b20 _ k_b20 hf => ?_)
    refine a_iload_n dX7_addStrangers_23 rfl rfl ?_
    refine a_iald dX7_addStrangers_24 rfl k_b20 hf (fun hf => ?_)
    obtain ⟨r25, h25, hc25, hf⟩ := am_bind_some hf
    refine a_callV (As := [.int (h.1 b20 v3.toNatClampNeg)]) (r1 := (none, Γ, h25)) (sX7_openChunk l k_v0 hc25) ccX7_openChunk tw_527 tw_489 tw_490 (ci := 7) rfl (by decide) ⟨Nat.le_of_ble_eq_true rfl, Nat.le_of_ble_eq_true rfl, Nat.le_of_ble_eq_true rfl, Nat.le_of_ble_eq_true rfl⟩ dX7_addStrangers_25 rfl k_v0 rfl (Nat.le_of_ble_eq_true rfl) rfl rfl (fun hr25 => ?_)
    refine a_aload_n dX7_addStrangers_28 rfl rfl ?_
    refine a_getR fl_RX7_14 dX7_addStrangers_29 rfl k_v0 rfl (by decide) hf (fun b29 n_b29 _ k_b29 hf => ?_)
    refine a_aload_n dX7_addStrangers_32 rfl rfl ?_
    refine a_getR fl_RX7_59 dX7_addStrangers_33 rfl k_v1 rfl (by decide) hf (fun b33 n_b33 _ k_b33 hf => ?_)
    refine a_iload_n dX7_addStrangers_36 rfl rfl ?_
    refine a_aload_n dX7_addStrangers_37 rfl rfl ?_
    refine a_getR fl_RX7_62 dX7_addStrangers_38 rfl k_v1 rfl (by decide) hf (fun b38 n_b38 _ k_b38 hf => ?_)
    refine a_iload_n dX7_addStrangers_41 rfl rfl ?_
    refine a_iald dX7_addStrangers_42 rfl k_b38 hf (fun hf => ?_)
    obtain ⟨r43, h43, hc43, hf⟩ := am_bind_some hf
    refine a_callV (As := [.ref b33, .int v2, .int (h25.1 b38 v3.toNatClampNeg)]) (r1 := (none, Γ, h43)) (sX0_addPart l k_b29 k_b33 hc43) ccX0_addPart tw_528 tw_329 tw_330 (ci := 0) rfl (by decide) ⟨Nat.le_of_ble_eq_true rfl, Nat.le_of_ble_eq_true rfl, Nat.le_of_ble_eq_true rfl, Nat.le_of_ble_eq_true rfl⟩ dX7_addStrangers_43 rfl k_b29 rfl (Nat.le_of_ble_eq_true rfl) rfl rfl (fun hr43 => ?_)
    refine a_aload_n dX7_addStrangers_46 rfl rfl ?_
    obtain ⟨r47, h47, hc47, hf⟩ := am_bind_some hf
    refine a_callV (As := []) (r1 := (none, Γ, h47)) (sX7_closeChunk l k_v0 hc47) ccX7_closeChunk tw_529 tw_498 tw_499 (ci := 7) rfl (by decide) ⟨Nat.le_of_ble_eq_true rfl, Nat.le_of_ble_eq_true rfl, Nat.le_of_ble_eq_true rfl, Nat.le_of_ble_eq_true rfl⟩ dX7_addStrangers_47 rfl k_v0 rfl (Nat.le_of_ble_eq_true rfl) rfl rfl (fun hr47 => ?_)
    refine a_iload_n dX7_addStrangers_50 rfl rfl ?_
    refine a_aload_n dX7_addStrangers_51 rfl rfl ?_
    refine a_getR fl_RX7_62 dX7_addStrangers_52 rfl k_v1 rfl (by decide) hf (fun b52 n_b52 _ k_b52 hf => ?_)
    refine a_iload_n dX7_addStrangers_55 rfl rfl ?_
    refine a_iald dX7_addStrangers_56 rfl k_b52 hf (fun hf => ?_)
    refine a_iadd dX7_addStrangers_57 rfl ?_
    refine a_nmI hf (fun x58 hf => ?_)
    refine a_istore_n (L' := [some (.ref v0), some (.ref v1), some (.int x58), some (.int v3)]) dX7_addStrangers_58 rfl (Nat.le_of_ble_eq_true rfl) (fun _ _ hv => by cases hv; rfl) rfl ?_
    refine a_iinc (v := v3 + nI 1) (L' := [some (.ref v0), some (.ref v1), some (.int x58), some (.int (v3 + nI 1))]) dX7_addStrangers_59 rfl rfl rfl (Nat.le_of_ble_eq_true rfl) (fun _ _ hv => by cases hv; rfl) rfl ?_
    refine a_goto (t := 4) dX7_addStrangers_62 rfl ?_
    exact AW.weak (ih v0 v1 x58 (v3 + nI 1) h47 _ k_v0 _ k_v1 hf) ⟨rfl, ⟨rfl, ⟨rfl, ⟨rfl, trivial⟩⟩⟩⟩
set_option maxRecDepth 100000 in
set_option maxHeartbeats 4000000 in
theorem sX7_addStrangers (l : Launch) {Γ : Gm} {h h' : AH} {v0 : Nat} {v1 : Nat} {r : Unit} {n_v0 : Nat} (k_v0 : Γ[v0]? = some (7, n_v0)) {n_v1 : Nat} (k_v1 : Γ[v1]? = some (6, n_v1)) (hf : fX7_addStrangers Γ v0 v1 h = some (r, h')) : AR l yX7_addStrangers mX7_addStrangers [.ref v0, .ref v1] Γ h (none, Γ, h') := by
  refine AR.of [some (.ref v0), some (.ref v1), none, none] (by decide +kernel) rfl (fun z => by cases z) (Nat.le_of_ble_eq_true rfl) ⟨rfl, ⟨rfl, trivial⟩⟩ ?_
  unfold fX7_addStrangers at hf
  refine a_iconst (v := nI 0) dX7_addStrangers_0 rfl (by decide) ?_
  refine a_istore_n (L' := [some (.ref v0), some (.ref v1), some (.int (nI 0)), none]) dX7_addStrangers_1 rfl (Nat.le_of_ble_eq_true rfl) (fun _ _ hv => by cases hv; rfl) rfl ?_
  refine a_iconst (v := nI 0) dX7_addStrangers_2 rfl (by decide) ?_
  refine a_istore_n (L' := [some (.ref v0), some (.ref v1), some (.int (nI 0)), some (.int (nI 0))]) dX7_addStrangers_3 rfl (Nat.le_of_ble_eq_true rfl) (fun _ _ hv => by cases hv; rfl) rfl ?_
  exact AW.weak (wX7_addStrangers_4 l am_fuel v0 v1 (nI 0) (nI 0) h _ k_v0 _ k_v1 hf) ⟨rfl, ⟨rfl, ⟨rfl, ⟨rfl, trivial⟩⟩⟩⟩
set_option maxRecDepth 100000 in
set_option maxHeartbeats 4000000 in
theorem sX7_endFile (l : Launch) {Γ : Gm} {h h' : AH} {v0 : Nat} {r : Unit} {n_v0 : Nat} (k_v0 : Γ[v0]? = some (7, n_v0)) (hf : fX7_endFile Γ v0 h = some (r, h')) : AR l yX7_endFile mX7_endFile [.ref v0] Γ h (none, Γ, h') := by
  refine AR.of [some (.ref v0)] (by decide +kernel) rfl (fun z => by cases z) (Nat.le_of_ble_eq_true rfl) ⟨rfl, trivial⟩ ?_
  unfold fX7_endFile at hf
  refine a_aload_n dX7_endFile_0 rfl rfl ?_
  refine a_getR fl_RX7_14 dX7_endFile_1 rfl k_v0 rfl (by decide) hf (fun b1 n_b1 _ k_b1 hf => ?_)
  refine a_iconst (v := nI 4) dX7_endFile_4 rfl (by decide) ?_
  refine a_aload_n dX7_endFile_5 rfl rfl ?_
  refine a_getR fl_RX7_14 dX7_endFile_6 rfl k_v0 rfl (by decide) hf (fun b6 n_b6 _ k_b6 hf => ?_)
  refine a_getI fl_RX7_43 dX7_endFile_9 rfl k_b6 rfl ?_
  refine a_bipush (v := nI 8) dX7_endFile_12 rfl (by decide) ?_
  refine a_isub dX7_endFile_14 rfl ?_
  obtain ⟨r15, h15, hc15, hf⟩ := am_bind_some hf
  refine a_callV (As := [.int (nI 4), .int ((h.1 b6 1) - (nI 8))]) (r1 := (none, Γ, h15)) (sX0_setNumber l k_b1 hc15) ccX0_setNumber tw_501 tw_502 tw_503 (ci := 0) rfl (by decide) ⟨Nat.le_of_ble_eq_true rfl, Nat.le_of_ble_eq_true rfl, Nat.le_of_ble_eq_true rfl, Nat.le_of_ble_eq_true rfl⟩ dX7_endFile_15 rfl k_b1 rfl (Nat.le_of_ble_eq_true rfl) rfl rfl (fun hr15 => ?_)
  cases hf
  exact a_ret dX7_endFile_18 rfl rfl rfl
set_option maxRecDepth 100000 in
set_option maxHeartbeats 4000000 in
theorem sX7_tellChunk (l : Launch) {Γ : Gm} {h h' : AH} {v0 : Nat} {v1 : Int32} {v2 : Int32} {r : Int32} {n_v0 : Nat} (k_v0 : Γ[v0]? = some (7, n_v0)) (hf : fX7_tellChunk Γ v0 v1 v2 h = some (r, h')) : AR l yX7_tellChunk mX7_tellChunk [.ref v0, .int v1, .int v2] Γ h (some (.int r), Γ, h') := by
  refine AR.of [some (.ref v0), some (.int v1), some (.int v2)] (by decide +kernel) rfl (fun z => by cases z) (Nat.le_of_ble_eq_true rfl) ⟨rfl, ⟨rfl, ⟨rfl, trivial⟩⟩⟩ ?_
  unfold fX7_tellChunk at hf
  refine a_iload_n dX7_tellChunk_0 rfl rfl ?_
  refine a_if_lt (t := 21) dX7_tellChunk_1 rfl rfl hf (fun _ hf => ?_) (fun _ hf => ?_)
  · refine a_bipush (v := (-2 : Int32)) dX7_tellChunk_21 rfl (by decide) ?_
    cases hf
    exact a_iret dX7_tellChunk_23 rfl rfl rfl (by decide)
  refine a_iload_n dX7_tellChunk_4 rfl rfl ?_
  refine a_aload_n dX7_tellChunk_5 rfl rfl ?_
  refine a_getI fl_RX7_30 dX7_tellChunk_6 rfl k_v0 rfl ?_
  refine a_icmp_ge (t := 21) dX7_tellChunk_9 rfl rfl hf (fun _ hf => ?_) (fun _ hf => ?_)
  · refine a_bipush (v := (-2 : Int32)) dX7_tellChunk_21 rfl (by decide) ?_
    cases hf
    exact a_iret dX7_tellChunk_23 rfl rfl rfl (by decide)
  refine a_iload_n dX7_tellChunk_12 rfl rfl ?_
  refine a_aload_n dX7_tellChunk_13 rfl rfl ?_
  refine a_getR fl_RX7_20 dX7_tellChunk_14 rfl k_v0 rfl (by decide) hf (fun b14 n_b14 _ k_b14 hf => ?_)
  refine a_alen dX7_tellChunk_17 rfl k_b14 ?_
  refine a_icmp_lt (t := 24) dX7_tellChunk_18 rfl rfl hf (fun _ hf => ?_) (fun _ hf => ?_)
  · refine a_iload_n dX7_tellChunk_24 rfl rfl ?_
    refine am_if hf (fun hx hf => ?_) (fun hx0 hf => ?_)
    · refine a_lsw (off := 27) (t := 52) dX7_tellChunk_25 (by decide) (by rw [hx]; decide) rfl ?_
      refine a_aload_n dX7_tellChunk_52 rfl rfl ?_
      refine a_getR fl_RX7_20 dX7_tellChunk_53 rfl k_v0 rfl (by decide) hf (fun b53 n_b53 _ k_b53 hf => ?_)
      refine a_iload_n dX7_tellChunk_56 rfl rfl ?_
      refine a_iald dX7_tellChunk_57 rfl k_b53 hf (fun hf => ?_)
      cases hf
      exact a_iret dX7_tellChunk_58 rfl rfl rfl (by decide)
    refine am_if hf (fun hx hf => ?_) (fun hx1 hf => ?_)
    · refine a_lsw (off := 34) (t := 59) dX7_tellChunk_25 (by decide) (by rw [hx]; decide) rfl ?_
      refine a_aload_n dX7_tellChunk_59 rfl rfl ?_
      refine a_getR fl_RX7_24 dX7_tellChunk_60 rfl k_v0 rfl (by decide) hf (fun b60 n_b60 _ k_b60 hf => ?_)
      refine a_iload_n dX7_tellChunk_63 rfl rfl ?_
      refine a_iald dX7_tellChunk_64 rfl k_b60 hf (fun hf => ?_)
      cases hf
      exact a_iret dX7_tellChunk_65 rfl rfl rfl (by decide)
    refine a_lsw (off := 41) (t := 66) dX7_tellChunk_25 (by decide) (by show Op.lookupswitch.offset [(0, 27), (1, 34)] 41 _ = _; rw [lv_osw hx0 (by decide), lv_osw hx1 (by decide)]; rfl) rfl ?_
    refine a_aload_n dX7_tellChunk_66 rfl rfl ?_
    refine a_getR fl_RX7_27 dX7_tellChunk_67 rfl k_v0 rfl (by decide) hf (fun b67 n_b67 _ k_b67 hf => ?_)
    refine a_iload_n dX7_tellChunk_70 rfl rfl ?_
    refine a_iald dX7_tellChunk_71 rfl k_b67 hf (fun hf => ?_)
    cases hf
    exact a_iret dX7_tellChunk_72 rfl rfl rfl (by decide)
  refine a_bipush (v := (-2 : Int32)) dX7_tellChunk_21 rfl (by decide) ?_
  cases hf
  exact a_iret dX7_tellChunk_23 rfl rfl rfl (by decide)
