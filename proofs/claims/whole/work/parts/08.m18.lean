set_option maxRecDepth 100000 in
set_option maxHeartbeats 4000000 in
theorem wX9_readFile_507 (l : Launch) {Γ : Gm} {r : Int32} {h' : AH} (h : AH) : fX9_readFile_507 Γ  h = some (r, h') → AW l mX9_readFile (some (.int r), Γ, h') 0 0 507 [none, none, none, none, none, none, none, none, none, none, none, none] [] Γ h := by
  intro hf
  unfold fX9_readFile_507 at hf
  refine a_iconst (v := nI 1) dX9_readFile_507 rfl (by decide) ?_
  refine a_goto (t := 512) dX9_readFile_508 rfl ?_
  cases hf
  exact a_zret dX9_readFile_512 rfl rfl rfl (by decide)
set_option maxRecDepth 100000 in
set_option maxHeartbeats 4000000 in
theorem wX9_readFile_494 (l : Launch) {Γ : Gm} {r : Int32} {h' : AH} (v0 : Nat) (h : AH) : ∀ n_v0 : Nat, Γ[v0]? = some (9, n_v0) → fX9_readFile_494 Γ v0 h = some (r, h') → AW l mX9_readFile (some (.int r), Γ, h') 0 0 494 [some (.ref v0), none, none, none, none, none, none, none, none, none, none, none] [] Γ h := by
  intro n_v0 k_v0 hf
  unfold fX9_readFile_494 at hf
  refine a_aload_n dX9_readFile_494 rfl rfl ?_
  refine a_bipush (v := nI 10) dX9_readFile_495 rfl (by decide) ?_
  refine a_aload_n dX9_readFile_497 rfl rfl ?_
  refine a_getI fl_RX9_139 dX9_readFile_498 rfl k_v0 rfl ?_
  obtain ⟨r501, h501, hc501, hf⟩ := am_bind_some hf
  refine a_callV (As := [.int (nI 10), .int (h.1 v0 28)]) (r1 := (some (.int r501), Γ, h501)) (sX9_wrong l k_v0 hc501) ccX9_wrong tw_928 tw_930 tp_23 (ci := 9) rfl (by decide) ⟨Nat.le_of_ble_eq_true rfl, Nat.le_of_ble_eq_true rfl, Nat.le_of_ble_eq_true rfl, Nat.le_of_ble_eq_true rfl⟩ dX9_readFile_501 rfl k_v0 rfl (Nat.le_of_ble_eq_true rfl) rfl rfl (fun hr501 => ?_)
  refine a_if_eq (t := 511) dX9_readFile_504 rfl rfl hf (fun _ hf => ?_) (fun _ hf => ?_)
  · refine a_iconst (v := nI 0) dX9_readFile_511 rfl (by decide) ?_
    cases hf
    exact a_zret dX9_readFile_512 rfl rfl rfl (by decide)
  exact AW.weak (wX9_readFile_507 l h501 hf) trivial
set_option maxRecDepth 100000 in
set_option maxHeartbeats 4000000 in
theorem wX9_readFile_467 (l : Launch) {Γ : Gm} {r : Int32} {h' : AH} {k98 : Nat → Int32 → Int32 → Int32 → Int32 → AH → Option (Int32 × AH)} (hk98 : ∀ v0 v1 v2 v3 v4 (h : AH), ∀ n_v0 : Nat, Γ[v0]? = some (9, n_v0) → k98 v0 v1 v2 v3 v4 h = some (r, h') → AW l mX9_readFile (some (.int r), Γ, h') 0 0 98 [some (.ref v0), some (.int v1), some (.int v2), some (.int v3), some (.int v4), none, none, none, none, none, none, none] [] Γ h) (v0 : Nat) (v1 : Int32) (v2 : Int32) (v3 : Int32) (v6 : Int64) (v9 : Int32) (h : AH) : ∀ n_v0 : Nat, Γ[v0]? = some (9, n_v0) → fX9_readFile_467 Γ k98 v0 v1 v2 v3 v6 v9 h = some (r, h') → AW l mX9_readFile (some (.int r), Γ, h') 0 0 467 [some (.ref v0), some (.int v1), some (.int v2), some (.int v3), none, none, some (.long v6), none, none, some (.int v9), none, none] [] Γ h := by
  intro n_v0 k_v0 hf
  unfold fX9_readFile_467 at hf
  refine a_iload dX9_readFile_467 rfl rfl ?_
  refine a_lload dX9_readFile_469 rfl rfl ?_
  refine a_ldc2 (v := (2 : Int64)) dX9_readFile_471 rfl tw_938 ?_
  refine a_lrem dX9_readFile_474 rfl (by decide) ?_
  refine a_l2i dX9_readFile_475 rfl ?_
  refine a_iadd dX9_readFile_476 rfl ?_
  refine a_nmI hf (fun x477 hf => ?_)
  refine a_istore (L' := [some (.ref v0), some (.int v1), some (.int v2), some (.int v3), some (.int x477), none, some (.long v6), none, none, some (.int v9), none, none]) dX9_readFile_477 rfl (Nat.le_of_ble_eq_true rfl) (fun _ _ hv => by cases hv; rfl) rfl ?_
  refine a_goto (t := 98) dX9_readFile_479 rfl ?_
  exact AW.weak (hk98 v0 v1 v2 v3 x477 h _ k_v0 hf) ⟨rfl, ⟨rfl, ⟨rfl, ⟨rfl, ⟨rfl, trivial⟩⟩⟩⟩⟩
set_option maxRecDepth 100000 in
set_option maxHeartbeats 4000000 in
theorem wX9_readFile_420 (l : Launch) {Γ : Gm} {r : Int32} {h' : AH} {k98 : Nat → Int32 → Int32 → Int32 → Int32 → AH → Option (Int32 × AH)} (hk98 : ∀ v0 v1 v2 v3 v4 (h : AH), ∀ n_v0 : Nat, Γ[v0]? = some (9, n_v0) → k98 v0 v1 v2 v3 v4 h = some (r, h') → AW l mX9_readFile (some (.int r), Γ, h') 0 0 98 [some (.ref v0), some (.int v1), some (.int v2), some (.int v3), some (.int v4), none, none, none, none, none, none, none] [] Γ h) : ∀ (z : Nat) (v0 : Nat) (v1 : Int32) (v2 : Int32) (v3 : Int32) (v6 : Int64) (v8 : Int32) (v9 : Int32) (v10 : Int32) (v11 : Int32) (h : AH), ∀ n_v0 : Nat, Γ[v0]? = some (9, n_v0) → fX9_readFile_420 Γ k98 z v0 v1 v2 v3 v6 v8 v9 v10 v11 h = some (r, h') → AW l mX9_readFile (some (.int r), Γ, h') 0 0 420 [some (.ref v0), some (.int v1), some (.int v2), some (.int v3), none, none, some (.long v6), none, some (.int v8), some (.int v9), some (.int v10), some (.int v11)] [] Γ h := by
  intro z
  induction z with
  | zero => intro v0 v1 v2 v3 v6 v8 v9 v10 v11 h n_v0 k_v0 hf; cases hf
  | succ z ih =>
    intro v0 v1 v2 v3 v6 v8 v9 v10 v11 h n_v0 k_v0 hf
    unfold fX9_readFile_420 at hf
    refine a_iload dX9_readFile_420 rfl rfl ?_
    refine a_i2l dX9_readFile_422 rfl ?_
    refine a_lload dX9_readFile_423 rfl rfl ?_
    refine a_lcmp dX9_readFile_425 rfl ?_
    refine a_if_ge (t := 457) dX9_readFile_426 rfl rfl hf (fun _ hf => ?_) (fun _ hf => ?_)
    · refine a_aload_n dX9_readFile_457 rfl rfl ?_
      refine a_dup dX9_readFile_458 rfl rfl ?_
      refine a_getI fl_RX9_152 dX9_readFile_459 rfl k_v0 rfl ?_
      refine a_iconst (v := nI 1) dX9_readFile_462 rfl (by decide) ?_
      refine a_iadd dX9_readFile_463 rfl ?_
      refine a_putI fp_RX9_152 dX9_readFile_464 rfl k_v0 rfl hf (fun h464 hf => ?_)
      exact AW.weak (wX9_readFile_467 l hk98 v0 v1 v2 v3 v6 v9 h464 _ k_v0 hf) ⟨rfl, ⟨rfl, ⟨rfl, ⟨rfl, ⟨rfl, ⟨rfl, trivial⟩⟩⟩⟩⟩⟩
    refine a_aload_n dX9_readFile_429 rfl rfl ?_
    refine a_getR fl_RX9_50 dX9_readFile_430 rfl k_v0 rfl (by decide) hf (fun b430 n_b430 _ k_b430 hf => ?_)
    refine a_iload dX9_readFile_433 rfl rfl ?_
    refine a_iconst (v := nI 2) dX9_readFile_435 rfl (by decide) ?_
    refine a_iadd dX9_readFile_436 rfl ?_
    refine a_iload dX9_readFile_437 rfl rfl ?_
    refine a_iadd dX9_readFile_439 rfl ?_
    refine a_aload_n dX9_readFile_440 rfl rfl ?_
    refine a_getR fl_RX9_9 dX9_readFile_441 rfl k_v0 rfl (by decide) hf (fun b441 n_b441 _ k_b441 hf => ?_)
    refine a_iload dX9_readFile_444 rfl rfl ?_
    refine a_iload dX9_readFile_446 rfl rfl ?_
    refine a_iadd dX9_readFile_448 rfl ?_
    refine a_iald dX9_readFile_449 rfl k_b441 hf (fun hf => ?_)
    refine a_iast dX9_readFile_450 rfl k_b430 hf (fun h450 hf => ?_)
    refine a_iinc (v := v11 + nI 1) (L' := [some (.ref v0), some (.int v1), some (.int v2), some (.int v3), none, none, some (.long v6), none, some (.int v8), some (.int v9), some (.int v10), some (.int (v11 + nI 1))]) dX9_readFile_451 rfl rfl rfl (Nat.le_of_ble_eq_true rfl) (fun _ _ hv => by cases hv; rfl) rfl ?_
    refine a_goto (t := 420) dX9_readFile_454 rfl ?_
    exact AW.weak (ih v0 v1 v2 v3 v6 v8 v9 v10 (v11 + nI 1) h450 _ k_v0 hf) ⟨rfl, ⟨rfl, ⟨rfl, ⟨rfl, ⟨rfl, ⟨rfl, ⟨rfl, ⟨rfl, ⟨rfl, trivial⟩⟩⟩⟩⟩⟩⟩⟩⟩
set_option maxRecDepth 100000 in
set_option maxHeartbeats 4000000 in
theorem wX9_readFile_377 (l : Launch) {Γ : Gm} {r : Int32} {h' : AH} (v0 : Nat) (v4 : Int32) (h : AH) : ∀ n_v0 : Nat, Γ[v0]? = some (9, n_v0) → fX9_readFile_377 Γ v0 v4 h = some (r, h') → AW l mX9_readFile (some (.int r), Γ, h') 0 0 377 [some (.ref v0), none, none, none, some (.int v4), none, none, none, none, none, none, none] [] Γ h := by
  intro n_v0 k_v0 hf
  unfold fX9_readFile_377 at hf
  refine a_aload_n dX9_readFile_377 rfl rfl ?_
  refine a_bipush (v := nI 9) dX9_readFile_378 rfl (by decide) ?_
  refine a_iload dX9_readFile_380 rfl rfl ?_
  obtain ⟨r382, h382, hc382, hf⟩ := am_bind_some hf
  refine a_callV (As := [.int (nI 9), .int v4]) (r1 := (some (.int r382), Γ, h382)) (sX9_wrong l k_v0 hc382) ccX9_wrong tw_928 tw_930 tp_23 (ci := 9) rfl (by decide) ⟨Nat.le_of_ble_eq_true rfl, Nat.le_of_ble_eq_true rfl, Nat.le_of_ble_eq_true rfl, Nat.le_of_ble_eq_true rfl⟩ dX9_readFile_382 rfl k_v0 rfl (Nat.le_of_ble_eq_true rfl) rfl rfl (fun hr382 => ?_)
  cases hf
  exact a_zret dX9_readFile_385 rfl rfl rfl (hr382.2 rfl _ rfl)
set_option maxRecDepth 100000 in
set_option maxHeartbeats 4000000 in
theorem wX9_readFile_354 (l : Launch) {Γ : Gm} {r : Int32} {h' : AH} {k98 : Nat → Int32 → Int32 → Int32 → Int32 → AH → Option (Int32 × AH)} (hk98 : ∀ v0 v1 v2 v3 v4 (h : AH), ∀ n_v0 : Nat, Γ[v0]? = some (9, n_v0) → k98 v0 v1 v2 v3 v4 h = some (r, h') → AW l mX9_readFile (some (.int r), Γ, h') 0 0 98 [some (.ref v0), some (.int v1), some (.int v2), some (.int v3), some (.int v4), none, none, none, none, none, none, none] [] Γ h) (v0 : Nat) (v1 : Int32) (v2 : Int32) (v6 : Int64) (v9 : Int32) (h : AH) : ∀ n_v0 : Nat, Γ[v0]? = some (9, n_v0) → fX9_readFile_354 Γ k98 v0 v1 v2 v6 v9 h = some (r, h') → AW l mX9_readFile (some (.int r), Γ, h') 0 0 354 [some (.ref v0), some (.int v1), some (.int v2), none, none, none, some (.long v6), none, none, some (.int v9), none, none] [] Γ h := by
  intro n_v0 k_v0 hf
  unfold fX9_readFile_354 at hf
  refine a_iconst (v := nI 1) dX9_readFile_354 rfl (by decide) ?_
  refine a_istore_n (L' := [some (.ref v0), some (.int v1), some (.int v2), some (.int (nI 1)), none, none, some (.long v6), none, none, some (.int v9), none, none]) dX9_readFile_355 rfl (Nat.le_of_ble_eq_true rfl) (fun _ _ hv => by cases hv; rfl) rfl ?_
  refine a_goto (t := 467) dX9_readFile_356 rfl ?_
  exact AW.weak (wX9_readFile_467 l hk98 v0 v1 v2 (nI 1) v6 v9 h _ k_v0 hf) ⟨rfl, ⟨rfl, ⟨rfl, ⟨rfl, ⟨rfl, ⟨rfl, trivial⟩⟩⟩⟩⟩⟩
set_option maxRecDepth 100000 in
set_option maxHeartbeats 4000000 in
theorem wX9_readFile_325 (l : Launch) {Γ : Gm} {r : Int32} {h' : AH} {k98 : Nat → Int32 → Int32 → Int32 → Int32 → AH → Option (Int32 × AH)} (hk98 : ∀ v0 v1 v2 v3 v4 (h : AH), ∀ n_v0 : Nat, Γ[v0]? = some (9, n_v0) → k98 v0 v1 v2 v3 v4 h = some (r, h') → AW l mX9_readFile (some (.int r), Γ, h') 0 0 98 [some (.ref v0), some (.int v1), some (.int v2), some (.int v3), some (.int v4), none, none, none, none, none, none, none] [] Γ h) (v0 : Nat) (v1 : Int32) (v3 : Int32) (v6 : Int64) (v9 : Int32) (h : AH) : ∀ n_v0 : Nat, Γ[v0]? = some (9, n_v0) → fX9_readFile_325 Γ k98 v0 v1 v3 v6 v9 h = some (r, h') → AW l mX9_readFile (some (.int r), Γ, h') 0 0 325 [some (.ref v0), some (.int v1), none, some (.int v3), none, none, some (.long v6), none, none, some (.int v9), none, none] [] Γ h := by
  intro n_v0 k_v0 hf
  unfold fX9_readFile_325 at hf
  refine a_iconst (v := nI 1) dX9_readFile_325 rfl (by decide) ?_
  refine a_istore_n (L' := [some (.ref v0), some (.int v1), some (.int (nI 1)), some (.int v3), none, none, some (.long v6), none, none, some (.int v9), none, none]) dX9_readFile_326 rfl (Nat.le_of_ble_eq_true rfl) (fun _ _ hv => by cases hv; rfl) rfl ?_
  refine a_goto (t := 467) dX9_readFile_327 rfl ?_
  exact AW.weak (wX9_readFile_467 l hk98 v0 v1 (nI 1) v3 v6 v9 h _ k_v0 hf) ⟨rfl, ⟨rfl, ⟨rfl, ⟨rfl, ⟨rfl, ⟨rfl, trivial⟩⟩⟩⟩⟩⟩
set_option maxRecDepth 100000 in
set_option maxHeartbeats 4000000 in
theorem wX9_readFile_272 (l : Launch) {Γ : Gm} {r : Int32} {h' : AH} {k98 : Nat → Int32 → Int32 → Int32 → Int32 → AH → Option (Int32 × AH)} (hk98 : ∀ v0 v1 v2 v3 v4 (h : AH), ∀ n_v0 : Nat, Γ[v0]? = some (9, n_v0) → k98 v0 v1 v2 v3 v4 h = some (r, h') → AW l mX9_readFile (some (.int r), Γ, h') 0 0 98 [some (.ref v0), some (.int v1), some (.int v2), some (.int v3), some (.int v4), none, none, none, none, none, none, none] [] Γ h) (v0 : Nat) (v1 : Int32) (v2 : Int32) (v3 : Int32) (v4 : Int32) (v5 : Int32) (v6 : Int64) (v8 : Int32) (v9 : Int32) (h : AH) : ∀ n_v0 : Nat, Γ[v0]? = some (9, n_v0) → fX9_readFile_272 Γ k98 v0 v1 v2 v3 v4 v5 v6 v8 v9 h = some (r, h') → AW l mX9_readFile (some (.int r), Γ, h') 0 0 272 [some (.ref v0), some (.int v1), some (.int v2), some (.int v3), some (.int v4), some (.int v5), some (.long v6), none, some (.int v8), some (.int v9), none, none] [] Γ h := by
  intro n_v0 k_v0 hf
  unfold fX9_readFile_272 at hf
  refine a_iload_n dX9_readFile_272 rfl rfl ?_
  refine a_if_ne (t := 325) dX9_readFile_273 rfl rfl hf (fun _ hf => ?_) (fun _ hf => ?_)
  · refine a_iload_n dX9_readFile_276 rfl rfl ?_
    refine a_if_ne (t := 288) dX9_readFile_277 rfl rfl hf (fun _ hf => ?_) (fun _ hf => ?_)
    · refine a_aload_n dX9_readFile_280 rfl rfl ?_
      refine a_iconst (v := nI 5) dX9_readFile_281 rfl (by decide) ?_
      refine a_iload dX9_readFile_282 rfl rfl ?_
      obtain ⟨r284, h284, hc284, hf⟩ := am_bind_some hf
      refine a_callV (As := [.int (nI 5), .int v4]) (r1 := (some (.int r284), Γ, h284)) (sX9_wrong l k_v0 hc284) ccX9_wrong tw_928 tw_930 tp_23 (ci := 9) rfl (by decide) ⟨Nat.le_of_ble_eq_true rfl, Nat.le_of_ble_eq_true rfl, Nat.le_of_ble_eq_true rfl, Nat.le_of_ble_eq_true rfl⟩ dX9_readFile_284 rfl k_v0 rfl (Nat.le_of_ble_eq_true rfl) rfl rfl (fun hr284 => ?_)
      cases hf
      exact a_zret dX9_readFile_287 rfl rfl rfl (hr284.2 rfl _ rfl)
    refine a_iload dX9_readFile_288 rfl rfl ?_
    refine a_ldc (v := nI 1129145709) dX9_readFile_290 rfl tw_914 ?_
    refine a_icmp_ne (t := 309) dX9_readFile_292 rfl rfl hf (fun _ hf => ?_) (fun _ hf => ?_)
    · refine a_aload_n dX9_readFile_295 rfl rfl ?_
      refine a_iload dX9_readFile_296 rfl rfl ?_
      refine a_iload dX9_readFile_298 rfl rfl ?_
      obtain ⟨r300, h300, hc300, hf⟩ := am_bind_some hf
      refine a_callV (As := [.int v8, .int v9]) (r1 := (some (.int r300), Γ, h300)) (sX9_readB l k_v0 hc300) ccX9_readB tw_943 tw_945 tp_26 (ci := 9) rfl (by decide) ⟨Nat.le_of_ble_eq_true rfl, Nat.le_of_ble_eq_true rfl, Nat.le_of_ble_eq_true rfl, Nat.le_of_ble_eq_true rfl⟩ dX9_readFile_300 rfl k_v0 rfl (Nat.le_of_ble_eq_true rfl) rfl rfl (fun hr300 => ?_)
      refine a_if_eq (t := 323) dX9_readFile_303 rfl rfl hf (fun _ hf => ?_) (fun _ hf => ?_)
      · refine a_iconst (v := nI 0) dX9_readFile_323 rfl (by decide) ?_
        cases hf
        exact a_zret dX9_readFile_324 rfl rfl rfl (by decide)
      refine a_goto (t := 325) dX9_readFile_306 rfl ?_
      exact AW.weak (wX9_readFile_325 l hk98 v0 v1 v3 v6 v9 h300 _ k_v0 hf) ⟨rfl, ⟨rfl, ⟨rfl, ⟨rfl, ⟨rfl, trivial⟩⟩⟩⟩⟩
    refine a_aload_n dX9_readFile_309 rfl rfl ?_
    refine a_iload dX9_readFile_310 rfl rfl ?_
    refine a_iload dX9_readFile_312 rfl rfl ?_
    refine a_lload dX9_readFile_314 rfl rfl ?_
    refine a_l2i dX9_readFile_316 rfl ?_
    obtain ⟨r317, h317, hc317, hf⟩ := am_bind_some hf
    refine a_callV (As := [.int v4, .int v8, .int v6.toInt32]) (r1 := (some (.int r317), Γ, h317)) (sX9_readC l k_v0 hc317) ccX9_readC tw_947 tw_949 tp_27 (ci := 9) rfl (by decide) ⟨Nat.le_of_ble_eq_true rfl, Nat.le_of_ble_eq_true rfl, Nat.le_of_ble_eq_true rfl, Nat.le_of_ble_eq_true rfl⟩ dX9_readFile_317 rfl k_v0 rfl (Nat.le_of_ble_eq_true rfl) rfl rfl (fun hr317 => ?_)
    refine a_if_ne (t := 325) dX9_readFile_320 rfl rfl hf (fun _ hf => ?_) (fun _ hf => ?_)
    · refine a_iconst (v := nI 0) dX9_readFile_323 rfl (by decide) ?_
      cases hf
      exact a_zret dX9_readFile_324 rfl rfl rfl (by decide)
    exact AW.weak (wX9_readFile_325 l hk98 v0 v1 v3 v6 v9 h317 _ k_v0 hf) ⟨rfl, ⟨rfl, ⟨rfl, ⟨rfl, ⟨rfl, trivial⟩⟩⟩⟩⟩
  exact AW.weak (wX9_readFile_325 l hk98 v0 v1 v3 v6 v9 h _ k_v0 hf) ⟨rfl, ⟨rfl, ⟨rfl, ⟨rfl, ⟨rfl, trivial⟩⟩⟩⟩⟩
set_option maxRecDepth 100000 in
set_option maxHeartbeats 4000000 in
theorem wX9_readFile_253 (l : Launch) {Γ : Gm} {r : Int32} {h' : AH} {k98 : Nat → Int32 → Int32 → Int32 → Int32 → AH → Option (Int32 × AH)} (hk98 : ∀ v0 v1 v2 v3 v4 (h : AH), ∀ n_v0 : Nat, Γ[v0]? = some (9, n_v0) → k98 v0 v1 v2 v3 v4 h = some (r, h') → AW l mX9_readFile (some (.int r), Γ, h') 0 0 98 [some (.ref v0), some (.int v1), some (.int v2), some (.int v3), some (.int v4), none, none, none, none, none, none, none] [] Γ h) (v0 : Nat) (v2 : Int32) (v3 : Int32) (v6 : Int64) (v9 : Int32) (h : AH) : ∀ n_v0 : Nat, Γ[v0]? = some (9, n_v0) → fX9_readFile_253 Γ k98 v0 v2 v3 v6 v9 h = some (r, h') → AW l mX9_readFile (some (.int r), Γ, h') 0 0 253 [some (.ref v0), none, some (.int v2), some (.int v3), none, none, some (.long v6), none, none, some (.int v9), none, none] [] Γ h := by
  intro n_v0 k_v0 hf
  unfold fX9_readFile_253 at hf
  refine a_iconst (v := nI 1) dX9_readFile_253 rfl (by decide) ?_
  refine a_istore_n (L' := [some (.ref v0), some (.int (nI 1)), some (.int v2), some (.int v3), none, none, some (.long v6), none, none, some (.int v9), none, none]) dX9_readFile_254 rfl (Nat.le_of_ble_eq_true rfl) (fun _ _ hv => by cases hv; rfl) rfl ?_
  refine a_goto (t := 467) dX9_readFile_255 rfl ?_
  exact AW.weak (wX9_readFile_467 l hk98 v0 (nI 1) v2 v3 v6 v9 h _ k_v0 hf) ⟨rfl, ⟨rfl, ⟨rfl, ⟨rfl, ⟨rfl, ⟨rfl, trivial⟩⟩⟩⟩⟩⟩
set_option maxRecDepth 100000 in
set_option maxHeartbeats 4000000 in
theorem wX9_readFile_226 (l : Launch) {Γ : Gm} {r : Int32} {h' : AH} {k98 : Nat → Int32 → Int32 → Int32 → Int32 → AH → Option (Int32 × AH)} (hk98 : ∀ v0 v1 v2 v3 v4 (h : AH), ∀ n_v0 : Nat, Γ[v0]? = some (9, n_v0) → k98 v0 v1 v2 v3 v4 h = some (r, h') → AW l mX9_readFile (some (.int r), Γ, h') 0 0 98 [some (.ref v0), some (.int v1), some (.int v2), some (.int v3), some (.int v4), none, none, none, none, none, none, none] [] Γ h) (v0 : Nat) (v1 : Int32) (v2 : Int32) (v3 : Int32) (v4 : Int32) (v5 : Int32) (v6 : Int64) (v8 : Int32) (v9 : Int32) (h : AH) : ∀ n_v0 : Nat, Γ[v0]? = some (9, n_v0) → fX9_readFile_226 Γ k98 v0 v1 v2 v3 v4 v5 v6 v8 v9 h = some (r, h') → AW l mX9_readFile (some (.int r), Γ, h') 0 0 226 [some (.ref v0), some (.int v1), some (.int v2), some (.int v3), some (.int v4), some (.int v5), some (.long v6), none, some (.int v8), some (.int v9), none, none] [] Γ h := by
  intro n_v0 k_v0 hf
  unfold fX9_readFile_226 at hf
  refine a_iload dX9_readFile_226 rfl rfl ?_
  refine a_ldc (v := nI 1229351012) dX9_readFile_228 rfl tw_900 ?_
  refine a_icmp_ne (t := 258) dX9_readFile_230 rfl rfl hf (fun _ hf => ?_) (fun _ hf => ?_)
  · refine a_iload_n dX9_readFile_233 rfl rfl ?_
    refine a_if_ne (t := 253) dX9_readFile_234 rfl rfl hf (fun _ hf => ?_) (fun _ hf => ?_)
    · refine a_aload_n dX9_readFile_237 rfl rfl ?_
      refine a_iload dX9_readFile_238 rfl rfl ?_
      refine a_iload dX9_readFile_240 rfl rfl ?_
      refine a_lload dX9_readFile_242 rfl rfl ?_
      refine a_l2i dX9_readFile_244 rfl ?_
      obtain ⟨r245, h245, hc245, hf⟩ := am_bind_some hf
      refine a_callV (As := [.int v4, .int v8, .int v6.toInt32]) (r1 := (some (.int r245), Γ, h245)) (sX9_readA l k_v0 hc245) ccX9_readA tw_939 tw_941 tp_25 (ci := 9) rfl (by decide) ⟨Nat.le_of_ble_eq_true rfl, Nat.le_of_ble_eq_true rfl, Nat.le_of_ble_eq_true rfl, Nat.le_of_ble_eq_true rfl⟩ dX9_readFile_245 rfl k_v0 rfl (Nat.le_of_ble_eq_true rfl) rfl rfl (fun hr245 => ?_)
      refine a_if_ne (t := 253) dX9_readFile_248 rfl rfl hf (fun _ hf => ?_) (fun _ hf => ?_)
      · refine a_iconst (v := nI 0) dX9_readFile_251 rfl (by decide) ?_
        cases hf
        exact a_zret dX9_readFile_252 rfl rfl rfl (by decide)
      exact AW.weak (wX9_readFile_253 l hk98 v0 v2 v3 v6 v9 h245 _ k_v0 hf) ⟨rfl, ⟨rfl, ⟨rfl, ⟨rfl, ⟨rfl, trivial⟩⟩⟩⟩⟩
    exact AW.weak (wX9_readFile_253 l hk98 v0 v2 v3 v6 v9 h _ k_v0 hf) ⟨rfl, ⟨rfl, ⟨rfl, ⟨rfl, ⟨rfl, trivial⟩⟩⟩⟩⟩
  refine a_iload dX9_readFile_258 rfl rfl ?_
  refine a_ldc (v := nI 1129145709) dX9_readFile_260 rfl tw_914 ?_
  refine a_icmp_eq (t := 272) dX9_readFile_262 rfl rfl hf (fun _ hf => ?_) (fun _ hf => ?_)
  · exact AW.weak (wX9_readFile_272 l hk98 v0 v1 v2 v3 v4 v5 v6 v8 v9 h _ k_v0 hf) ⟨rfl, ⟨rfl, ⟨rfl, ⟨rfl, ⟨rfl, ⟨rfl, ⟨rfl, ⟨rfl, ⟨rfl, trivial⟩⟩⟩⟩⟩⟩⟩⟩⟩
  refine a_iload dX9_readFile_265 rfl rfl ?_
  refine a_ldc (v := nI 1431135597) dX9_readFile_267 rfl tw_913 ?_
  refine a_icmp_ne (t := 330) dX9_readFile_269 rfl rfl hf (fun _ hf => ?_) (fun _ hf => ?_)
  · exact AW.weak (wX9_readFile_272 l hk98 v0 v1 v2 v3 v4 v5 v6 v8 v9 h _ k_v0 hf) ⟨rfl, ⟨rfl, ⟨rfl, ⟨rfl, ⟨rfl, ⟨rfl, ⟨rfl, ⟨rfl, ⟨rfl, trivial⟩⟩⟩⟩⟩⟩⟩⟩⟩
  refine a_iload dX9_readFile_330 rfl rfl ?_
  refine a_ldc (v := nI 1400138611) dX9_readFile_332 rfl tw_919 ?_
  refine a_icmp_ne (t := 359) dX9_readFile_334 rfl rfl hf (fun _ hf => ?_) (fun _ hf => ?_)
  · refine a_iload_n dX9_readFile_337 rfl rfl ?_
    refine a_if_ne (t := 354) dX9_readFile_338 rfl rfl hf (fun _ hf => ?_) (fun _ hf => ?_)
    · refine a_aload_n dX9_readFile_341 rfl rfl ?_
      refine a_iload dX9_readFile_342 rfl rfl ?_
      refine a_iload dX9_readFile_344 rfl rfl ?_
      obtain ⟨r346, h346, hc346, hf⟩ := am_bind_some hf
      refine a_callV (As := [.int v8, .int v9]) (r1 := (some (.int r346), Γ, h346)) (sX9_readD l k_v0 hc346) ccX9_readD tw_951 tw_953 tp_28 (ci := 9) rfl (by decide) ⟨Nat.le_of_ble_eq_true rfl, Nat.le_of_ble_eq_true rfl, Nat.le_of_ble_eq_true rfl, Nat.le_of_ble_eq_true rfl⟩ dX9_readFile_346 rfl k_v0 rfl (Nat.le_of_ble_eq_true rfl) rfl rfl (fun hr346 => ?_)
      refine a_if_ne (t := 354) dX9_readFile_349 rfl rfl hf (fun _ hf => ?_) (fun _ hf => ?_)
      · refine a_iconst (v := nI 0) dX9_readFile_352 rfl (by decide) ?_
        cases hf
        exact a_zret dX9_readFile_353 rfl rfl rfl (by decide)
      exact AW.weak (wX9_readFile_354 l hk98 v0 v1 v2 v6 v9 h346 _ k_v0 hf) ⟨rfl, ⟨rfl, ⟨rfl, ⟨rfl, ⟨rfl, trivial⟩⟩⟩⟩⟩
    exact AW.weak (wX9_readFile_354 l hk98 v0 v1 v2 v6 v9 h _ k_v0 hf) ⟨rfl, ⟨rfl, ⟨rfl, ⟨rfl, ⟨rfl, trivial⟩⟩⟩⟩⟩
  refine a_aload_n dX9_readFile_359 rfl rfl ?_
  refine a_getI fl_RX9_152 dX9_readFile_360 rfl k_v0 rfl ?_
  refine a_bipush (v := nI 8) dX9_readFile_363 rfl (by decide) ?_
  refine a_icmp_eq (t := 377) dX9_readFile_365 rfl rfl hf (fun _ hf => ?_) (fun _ hf => ?_)
  · exact AW.weak (wX9_readFile_377 l v0 v4 h _ k_v0 hf) ⟨rfl, ⟨rfl, trivial⟩⟩
  refine a_lload dX9_readFile_368 rfl rfl ?_
  refine a_ldc2 (v := (200 : Int64)) dX9_readFile_370 rfl tw_955 ?_
  refine a_lcmp dX9_readFile_373 rfl ?_
  refine a_if_le (t := 386) dX9_readFile_374 rfl rfl hf (fun _ hf => ?_) (fun _ hf => ?_)
  · refine a_sipush (v := nI 202) dX9_readFile_386 rfl (by decide) ?_
    refine a_aload_n dX9_readFile_389 rfl rfl ?_
    refine a_getI fl_RX9_152 dX9_readFile_390 rfl k_v0 rfl ?_
    refine a_imul dX9_readFile_393 rfl ?_
    refine a_nmI hf (fun x394 hf => ?_)
    refine a_istore (L' := [some (.ref v0), some (.int v1), some (.int v2), some (.int v3), some (.int v4), some (.int v5), some (.long v6), none, some (.int v8), some (.int v9), some (.int x394), none]) dX9_readFile_394 rfl (Nat.le_of_ble_eq_true rfl) (fun _ _ hv => by cases hv; rfl) rfl ?_
    refine a_aload_n dX9_readFile_396 rfl rfl ?_
    refine a_getR fl_RX9_50 dX9_readFile_397 rfl k_v0 rfl (by decide) hf (fun b397 n_b397 _ k_b397 hf => ?_)
    refine a_iload dX9_readFile_400 rfl rfl ?_
    refine a_iload dX9_readFile_402 rfl rfl ?_
    refine a_iast dX9_readFile_404 rfl k_b397 hf (fun h404 hf => ?_)
    refine a_aload_n dX9_readFile_405 rfl rfl ?_
    refine a_getR fl_RX9_50 dX9_readFile_406 rfl k_v0 rfl (by decide) hf (fun b406 n_b406 _ k_b406 hf => ?_)
    refine a_iload dX9_readFile_409 rfl rfl ?_
    refine a_iconst (v := nI 1) dX9_readFile_411 rfl (by decide) ?_
    refine a_iadd dX9_readFile_412 rfl ?_
    refine a_lload dX9_readFile_413 rfl rfl ?_
    refine a_l2i dX9_readFile_415 rfl ?_
    refine a_iast dX9_readFile_416 rfl k_b406 hf (fun h416 hf => ?_)
    refine a_iconst (v := nI 0) dX9_readFile_417 rfl (by decide) ?_
    refine a_istore (L' := [some (.ref v0), some (.int v1), some (.int v2), some (.int v3), some (.int v4), some (.int v5), some (.long v6), none, some (.int v8), some (.int v9), some (.int x394), some (.int (nI 0))]) dX9_readFile_418 rfl (Nat.le_of_ble_eq_true rfl) (fun _ _ hv => by cases hv; rfl) rfl ?_
    exact AW.weak (wX9_readFile_420 l hk98 am_fuel v0 v1 v2 v3 v6 v8 v9 x394 (nI 0) h416 _ k_v0 hf) ⟨rfl, ⟨rfl, ⟨rfl, ⟨rfl, ⟨rfl, ⟨rfl, ⟨rfl, ⟨rfl, ⟨rfl, trivial⟩⟩⟩⟩⟩⟩⟩⟩⟩
  exact AW.weak (wX9_readFile_377 l v0 v4 h _ k_v0 hf) ⟨rfl, ⟨rfl, trivial⟩⟩
set_option maxRecDepth 100000 in
set_option maxHeartbeats 4000000 in
theorem wX9_readFile_98 (l : Launch) {Γ : Gm} {r : Int32} {h' : AH} : ∀ (z : Nat) (v0 : Nat) (v1 : Int32) (v2 : Int32) (v3 : Int32) (v4 : Int32) (h : AH), ∀ n_v0 : Nat, Γ[v0]? = some (9, n_v0) → fX9_readFile_98 Γ z v0 v1 v2 v3 v4 h = some (r, h') → AW l mX9_readFile (some (.int r), Γ, h') 0 0 98 [some (.ref v0), some (.int v1), some (.int v2), some (.int v3), some (.int v4), none, none, none, none, none, none, none] [] Γ h := by
  intro z
  induction z with
  | zero => intro v0 v1 v2 v3 v4 h n_v0 k_v0 hf; cases hf
  | succ z ih =>
    intro v0 v1 v2 v3 v4 h n_v0 k_v0 hf
    unfold fX9_readFile_98 at hf
    refine a_iload dX9_readFile_98 rfl rfl ?_
    refine a_aload_n dX9_readFile_100 rfl rfl ?_
    refine a_getI fl_RX9_139 dX9_readFile_101 rfl k_v0 rfl ?_
    refine a_icmp_ge (t := 482) dX9_readFile_104 rfl rfl hf (fun _ hf => ?_) (fun _ hf => ?_)
    · refine a_iload_n dX9_readFile_482 rfl rfl ?_
      refine a_if_eq (t := 494) dX9_readFile_483 rfl rfl hf (fun _ hf => ?_) (fun _ hf => ?_)
      · exact AW.weak (wX9_readFile_494 l v0 h _ k_v0 hf) ⟨rfl, trivial⟩
      refine a_iload_n dX9_readFile_486 rfl rfl ?_
      refine a_if_eq (t := 494) dX9_readFile_487 rfl rfl hf (fun _ hf => ?_) (fun _ hf => ?_)
      · exact AW.weak (wX9_readFile_494 l v0 h _ k_v0 hf) ⟨rfl, trivial⟩
      refine a_iload_n dX9_readFile_490 rfl rfl ?_
      refine a_if_ne (t := 507) dX9_readFile_491 rfl rfl hf (fun _ hf => ?_) (fun _ hf => ?_)
      · exact AW.weak (wX9_readFile_494 l v0 h _ k_v0 hf) ⟨rfl, trivial⟩
      exact AW.weak (wX9_readFile_507 l h hf) trivial
    refine a_aload_n dX9_readFile_107 rfl rfl ?_
    refine a_getI fl_RX9_139 dX9_readFile_108 rfl k_v0 rfl ?_
    refine a_iload dX9_readFile_111 rfl rfl ?_
    refine a_isub dX9_readFile_113 rfl ?_
    refine a_bipush (v := nI 8) dX9_readFile_114 rfl (by decide) ?_
    refine a_icmp_ge (t := 129) dX9_readFile_116 rfl rfl hf (fun _ hf => ?_) (fun _ hf => ?_)
    · refine a_aload_n dX9_readFile_129 rfl rfl ?_
      refine a_iload dX9_readFile_130 rfl rfl ?_
      obtain ⟨r132, h132, hc132, hf⟩ := am_bind_some hf
      refine a_callV (As := [.int v4]) (r1 := (some (.long r132), Γ, h132)) (sX9_numberAt l k_v0 hc132) ccX9_numberAt tw_932 tw_934 tp_24 (ci := 9) rfl (by decide) ⟨Nat.le_of_ble_eq_true rfl, Nat.le_of_ble_eq_true rfl, Nat.le_of_ble_eq_true rfl, Nat.le_of_ble_eq_true rfl⟩ dX9_readFile_132 rfl k_v0 rfl (Nat.le_of_ble_eq_true rfl) rfl rfl (fun hr132 => ?_)
      refine a_l2i dX9_readFile_135 rfl ?_
      refine a_nmI hf (fun x136 hf => ?_)
      refine a_istore (L' := [some (.ref v0), some (.int v1), some (.int v2), some (.int v3), some (.int v4), some (.int x136), none, none, none, none, none, none]) dX9_readFile_136 rfl (Nat.le_of_ble_eq_true rfl) (fun _ _ hv => by cases hv; rfl) rfl ?_
      refine a_aload_n dX9_readFile_138 rfl rfl ?_
      refine a_iload dX9_readFile_139 rfl rfl ?_
      refine a_iconst (v := nI 4) dX9_readFile_141 rfl (by decide) ?_
      refine a_iadd dX9_readFile_142 rfl ?_
      obtain ⟨r143, h143, hc143, hf⟩ := am_bind_some hf
      refine a_callV (As := [.int (v4 + (nI 4))]) (r1 := (some (.long r143), Γ, h143)) (sX9_numberAt l k_v0 hc143) ccX9_numberAt tw_932 tw_934 tp_24 (ci := 9) rfl (by decide) ⟨Nat.le_of_ble_eq_true rfl, Nat.le_of_ble_eq_true rfl, Nat.le_of_ble_eq_true rfl, Nat.le_of_ble_eq_true rfl⟩ dX9_readFile_143 rfl k_v0 rfl (Nat.le_of_ble_eq_true rfl) rfl rfl (fun hr143 => ?_)
      refine a_lstore (L' := [some (.ref v0), some (.int v1), some (.int v2), some (.int v3), some (.int v4), some (.int x136), some (.long r143), none, none, none, none, none]) dX9_readFile_146 rfl (Nat.le_of_ble_eq_true rfl) (fun _ _ hv => by cases hv; rfl) rfl ?_
      refine a_lload dX9_readFile_148 rfl rfl ?_
      refine a_lload dX9_readFile_150 rfl rfl ?_
      refine a_ldc2 (v := (2 : Int64)) dX9_readFile_152 rfl tw_938 ?_
      refine a_lrem dX9_readFile_155 rfl (by decide) ?_
      refine a_ladd dX9_readFile_156 rfl ?_
      refine a_aload_n dX9_readFile_157 rfl rfl ?_
      refine a_getI fl_RX9_139 dX9_readFile_158 rfl k_v0 rfl ?_
      refine a_iload dX9_readFile_161 rfl rfl ?_
      refine a_isub dX9_readFile_163 rfl ?_
      refine a_bipush (v := nI 8) dX9_readFile_164 rfl (by decide) ?_
      refine a_isub dX9_readFile_166 rfl ?_
      refine a_i2l dX9_readFile_167 rfl ?_
      refine a_lcmp dX9_readFile_168 rfl ?_
      refine a_if_le (t := 182) dX9_readFile_169 rfl rfl hf (fun _ hf => ?_) (fun _ hf => ?_)
      · refine a_iload dX9_readFile_182 rfl rfl ?_
        refine a_bipush (v := nI 8) dX9_readFile_184 rfl (by decide) ?_
        refine a_iadd dX9_readFile_186 rfl ?_
        refine a_nmI hf (fun x187 hf => ?_)
        refine a_istore (L' := [some (.ref v0), some (.int v1), some (.int v2), some (.int v3), some (.int v4), some (.int x136), some (.long r143), none, some (.int x187), none, none, none]) dX9_readFile_187 rfl (Nat.le_of_ble_eq_true rfl) (fun _ _ hv => by cases hv) rfl ?_
        refine a_iload dX9_readFile_189 rfl rfl ?_
        refine a_lload dX9_readFile_191 rfl rfl ?_
        refine a_l2i dX9_readFile_193 rfl ?_
        refine a_iadd dX9_readFile_194 rfl ?_
        refine a_nmI hf (fun x195 hf => ?_)
        refine a_istore (L' := [some (.ref v0), some (.int v1), some (.int v2), some (.int v3), some (.int v4), some (.int x136), some (.long r143), none, some (.int x187), some (.int x195), none, none]) dX9_readFile_195 rfl (Nat.le_of_ble_eq_true rfl) (fun _ _ hv => by cases hv; rfl) rfl ?_
        refine a_lload dX9_readFile_197 rfl rfl ?_
        refine a_ldc2 (v := (2 : Int64)) dX9_readFile_199 rfl tw_938 ?_
        refine a_lrem dX9_readFile_202 rfl (by decide) ?_
        refine a_lconst (v := (1 : Int64)) dX9_readFile_203 rfl (by decide) ?_
        refine a_lcmp dX9_readFile_204 rfl ?_
        refine a_if_ne (t := 226) dX9_readFile_205 rfl rfl hf (fun _ hf => ?_) (fun _ hf => ?_)
        · refine a_aload_n dX9_readFile_208 rfl rfl ?_
          refine a_getR fl_RX9_9 dX9_readFile_209 rfl k_v0 rfl (by decide) hf (fun b209 n_b209 _ k_b209 hf => ?_)
          refine a_iload dX9_readFile_212 rfl rfl ?_
          refine a_iald dX9_readFile_214 rfl k_b209 hf (fun hf => ?_)
          refine a_if_eq (t := 226) dX9_readFile_215 rfl rfl hf (fun _ hf => ?_) (fun _ hf => ?_)
          · exact AW.weak (wX9_readFile_226 l ih v0 v1 v2 v3 v4 x136 r143 x187 x195 h143 _ k_v0 hf) ⟨rfl, ⟨rfl, ⟨rfl, ⟨rfl, ⟨rfl, ⟨rfl, ⟨rfl, ⟨rfl, ⟨rfl, trivial⟩⟩⟩⟩⟩⟩⟩⟩⟩
          refine a_aload_n dX9_readFile_218 rfl rfl ?_
          refine a_iconst (v := nI 4) dX9_readFile_219 rfl (by decide) ?_
          refine a_iload dX9_readFile_220 rfl rfl ?_
          obtain ⟨r222, h222, hc222, hf⟩ := am_bind_some hf
          refine a_callV (As := [.int (nI 4), .int x195]) (r1 := (some (.int r222), Γ, h222)) (sX9_wrong l k_v0 hc222) ccX9_wrong tw_928 tw_930 tp_23 (ci := 9) rfl (by decide) ⟨Nat.le_of_ble_eq_true rfl, Nat.le_of_ble_eq_true rfl, Nat.le_of_ble_eq_true rfl, Nat.le_of_ble_eq_true rfl⟩ dX9_readFile_222 rfl k_v0 rfl (Nat.le_of_ble_eq_true rfl) rfl rfl (fun hr222 => ?_)
          cases hf
          exact a_zret dX9_readFile_225 rfl rfl rfl (hr222.2 rfl _ rfl)
        exact AW.weak (wX9_readFile_226 l ih v0 v1 v2 v3 v4 x136 r143 x187 x195 h143 _ k_v0 hf) ⟨rfl, ⟨rfl, ⟨rfl, ⟨rfl, ⟨rfl, ⟨rfl, ⟨rfl, ⟨rfl, ⟨rfl, trivial⟩⟩⟩⟩⟩⟩⟩⟩⟩
      refine a_aload_n dX9_readFile_172 rfl rfl ?_
      refine a_iconst (v := nI 1) dX9_readFile_173 rfl (by decide) ?_
      refine a_aload_n dX9_readFile_174 rfl rfl ?_
      refine a_getI fl_RX9_139 dX9_readFile_175 rfl k_v0 rfl ?_
      obtain ⟨r178, h178, hc178, hf⟩ := am_bind_some hf
      refine a_callV (As := [.int (nI 1), .int (h143.1 v0 28)]) (r1 := (some (.int r178), Γ, h178)) (sX9_wrong l k_v0 hc178) ccX9_wrong tw_928 tw_930 tp_23 (ci := 9) rfl (by decide) ⟨Nat.le_of_ble_eq_true rfl, Nat.le_of_ble_eq_true rfl, Nat.le_of_ble_eq_true rfl, Nat.le_of_ble_eq_true rfl⟩ dX9_readFile_178 rfl k_v0 rfl (Nat.le_of_ble_eq_true rfl) rfl rfl (fun hr178 => ?_)
      cases hf
      exact a_zret dX9_readFile_181 rfl rfl rfl (hr178.2 rfl _ rfl)
    refine a_aload_n dX9_readFile_119 rfl rfl ?_
    refine a_iconst (v := nI 1) dX9_readFile_120 rfl (by decide) ?_
    refine a_aload_n dX9_readFile_121 rfl rfl ?_
    refine a_getI fl_RX9_139 dX9_readFile_122 rfl k_v0 rfl ?_
    obtain ⟨r125, h125, hc125, hf⟩ := am_bind_some hf
    refine a_callV (As := [.int (nI 1), .int (h.1 v0 28)]) (r1 := (some (.int r125), Γ, h125)) (sX9_wrong l k_v0 hc125) ccX9_wrong tw_928 tw_930 tp_23 (ci := 9) rfl (by decide) ⟨Nat.le_of_ble_eq_true rfl, Nat.le_of_ble_eq_true rfl, Nat.le_of_ble_eq_true rfl, Nat.le_of_ble_eq_true rfl⟩ dX9_readFile_125 rfl k_v0 rfl (Nat.le_of_ble_eq_true rfl) rfl rfl (fun hr125 => ?_)
    cases hf
    exact a_zret dX9_readFile_128 rfl rfl rfl (hr125.2 rfl _ rfl)
set_option maxRecDepth 100000 in
set_option maxHeartbeats 4000000 in
theorem sX9_readFile (l : Launch) {Γ : Gm} {h h' : AH} {v0 : Nat} {r : Int32} {n_v0 : Nat} (k_v0 : Γ[v0]? = some (9, n_v0)) (hf : fX9_readFile Γ v0 h = some (r, h')) : AR l yX9_readFile mX9_readFile [.ref v0] Γ h (some (.int r), Γ, h') := by
  refine AR.of [some (.ref v0), none, none, none, none, none, none, none, none, none, none, none] (by decide +kernel) rfl (fun z => by cases z) (Nat.le_of_ble_eq_true rfl) ⟨rfl, trivial⟩ ?_
  unfold fX9_readFile at hf
  refine a_aload_n dX9_readFile_0 rfl rfl ?_
  refine a_getI fl_RX9_139 dX9_readFile_1 rfl k_v0 rfl ?_
  refine a_bipush (v := nI 12) dX9_readFile_4 rfl (by decide) ?_
  refine a_icmp_ge (t := 19) dX9_readFile_6 rfl rfl hf (fun _ hf => ?_) (fun _ hf => ?_)
  · refine a_aload_n dX9_readFile_19 rfl rfl ?_
    refine a_iconst (v := nI 0) dX9_readFile_20 rfl (by decide) ?_
    obtain ⟨r21, h21, hc21, hf⟩ := am_bind_some hf
    refine a_callV (As := [.int (nI 0)]) (r1 := (some (.long r21), Γ, h21)) (sX9_numberAt l k_v0 hc21) ccX9_numberAt tw_932 tw_934 tp_24 (ci := 9) rfl (by decide) ⟨Nat.le_of_ble_eq_true rfl, Nat.le_of_ble_eq_true rfl, Nat.le_of_ble_eq_true rfl, Nat.le_of_ble_eq_true rfl⟩ dX9_readFile_21 rfl k_v0 rfl (Nat.le_of_ble_eq_true rfl) rfl rfl (fun hr21 => ?_)
    refine a_ldc2 (v := (1179603533 : Int64)) dX9_readFile_24 rfl tw_936 ?_
    refine a_lcmp dX9_readFile_27 rfl ?_
    refine a_if_eq (t := 38) dX9_readFile_28 rfl rfl hf (fun _ hf => ?_) (fun _ hf => ?_)
    · refine a_aload_n dX9_readFile_38 rfl rfl ?_
      refine a_iconst (v := nI 4) dX9_readFile_39 rfl (by decide) ?_
      obtain ⟨r40, h40, hc40, hf⟩ := am_bind_some hf
      refine a_callV (As := [.int (nI 4)]) (r1 := (some (.long r40), Γ, h40)) (sX9_numberAt l k_v0 hc40) ccX9_numberAt tw_932 tw_934 tp_24 (ci := 9) rfl (by decide) ⟨Nat.le_of_ble_eq_true rfl, Nat.le_of_ble_eq_true rfl, Nat.le_of_ble_eq_true rfl, Nat.le_of_ble_eq_true rfl⟩ dX9_readFile_40 rfl k_v0 rfl (Nat.le_of_ble_eq_true rfl) rfl rfl (fun hr40 => ?_)
      refine a_aload_n dX9_readFile_43 rfl rfl ?_
      refine a_getI fl_RX9_139 dX9_readFile_44 rfl k_v0 rfl ?_
      refine a_bipush (v := nI 8) dX9_readFile_47 rfl (by decide) ?_
      refine a_isub dX9_readFile_49 rfl ?_
      refine a_i2l dX9_readFile_50 rfl ?_
      refine a_lcmp dX9_readFile_51 rfl ?_
      refine a_if_eq (t := 62) dX9_readFile_52 rfl rfl hf (fun _ hf => ?_) (fun _ hf => ?_)
      · refine a_aload_n dX9_readFile_62 rfl rfl ?_
        refine a_bipush (v := nI 8) dX9_readFile_63 rfl (by decide) ?_
        obtain ⟨r65, h65, hc65, hf⟩ := am_bind_some hf
        refine a_callV (As := [.int (nI 8)]) (r1 := (some (.long r65), Γ, h65)) (sX9_numberAt l k_v0 hc65) ccX9_numberAt tw_932 tw_934 tp_24 (ci := 9) rfl (by decide) ⟨Nat.le_of_ble_eq_true rfl, Nat.le_of_ble_eq_true rfl, Nat.le_of_ble_eq_true rfl, Nat.le_of_ble_eq_true rfl⟩ dX9_readFile_65 rfl k_v0 rfl (Nat.le_of_ble_eq_true rfl) rfl rfl (fun hr65 => ?_)
        refine a_ldc2 (v := (1229347411 : Int64)) dX9_readFile_68 rfl tw_937 ?_
        refine a_lcmp dX9_readFile_71 rfl ?_
        refine a_if_eq (t := 83) dX9_readFile_72 rfl rfl hf (fun _ hf => ?_) (fun _ hf => ?_)
        · refine a_iconst (v := nI 0) dX9_readFile_83 rfl (by decide) ?_
          refine a_istore_n (L' := [some (.ref v0), some (.int (nI 0)), none, none, none, none, none, none, none, none, none, none]) dX9_readFile_84 rfl (Nat.le_of_ble_eq_true rfl) (fun _ _ hv => by cases hv; rfl) rfl ?_
          refine a_iconst (v := nI 0) dX9_readFile_85 rfl (by decide) ?_
          refine a_istore_n (L' := [some (.ref v0), some (.int (nI 0)), some (.int (nI 0)), none, none, none, none, none, none, none, none, none]) dX9_readFile_86 rfl (Nat.le_of_ble_eq_true rfl) (fun _ _ hv => by cases hv; rfl) rfl ?_
          refine a_iconst (v := nI 0) dX9_readFile_87 rfl (by decide) ?_
          refine a_istore_n (L' := [some (.ref v0), some (.int (nI 0)), some (.int (nI 0)), some (.int (nI 0)), none, none, none, none, none, none, none, none]) dX9_readFile_88 rfl (Nat.le_of_ble_eq_true rfl) (fun _ _ hv => by cases hv; rfl) rfl ?_
          refine a_aload_n dX9_readFile_89 rfl rfl ?_
          refine a_iconst (v := nI 0) dX9_readFile_90 rfl (by decide) ?_
          refine a_putI fp_RX9_152 dX9_readFile_91 rfl k_v0 rfl hf (fun h91 hf => ?_)
          refine a_bipush (v := nI 12) dX9_readFile_94 rfl (by decide) ?_
          refine a_istore (L' := [some (.ref v0), some (.int (nI 0)), some (.int (nI 0)), some (.int (nI 0)), some (.int (nI 12)), none, none, none, none, none, none, none]) dX9_readFile_96 rfl (Nat.le_of_ble_eq_true rfl) (fun _ _ hv => by cases hv; rfl) rfl ?_
          exact AW.weak (wX9_readFile_98 l am_fuel v0 (nI 0) (nI 0) (nI 0) (nI 12) h91 _ k_v0 hf) ⟨rfl, ⟨rfl, ⟨rfl, ⟨rfl, ⟨rfl, trivial⟩⟩⟩⟩⟩
        refine a_aload_n dX9_readFile_75 rfl rfl ?_
        refine a_iconst (v := nI 2) dX9_readFile_76 rfl (by decide) ?_
        refine a_bipush (v := nI 8) dX9_readFile_77 rfl (by decide) ?_
        obtain ⟨r79, h79, hc79, hf⟩ := am_bind_some hf
        refine a_callV (As := [.int (nI 2), .int (nI 8)]) (r1 := (some (.int r79), Γ, h79)) (sX9_wrong l k_v0 hc79) ccX9_wrong tw_928 tw_930 tp_23 (ci := 9) rfl (by decide) ⟨Nat.le_of_ble_eq_true rfl, Nat.le_of_ble_eq_true rfl, Nat.le_of_ble_eq_true rfl, Nat.le_of_ble_eq_true rfl⟩ dX9_readFile_79 rfl k_v0 rfl (Nat.le_of_ble_eq_true rfl) rfl rfl (fun hr79 => ?_)
        cases hf
        exact a_zret dX9_readFile_82 rfl rfl rfl (hr79.2 rfl _ rfl)
      refine a_aload_n dX9_readFile_55 rfl rfl ?_
      refine a_iconst (v := nI 3) dX9_readFile_56 rfl (by decide) ?_
      refine a_iconst (v := nI 4) dX9_readFile_57 rfl (by decide) ?_
      obtain ⟨r58, h58, hc58, hf⟩ := am_bind_some hf
      refine a_callV (As := [.int (nI 3), .int (nI 4)]) (r1 := (some (.int r58), Γ, h58)) (sX9_wrong l k_v0 hc58) ccX9_wrong tw_928 tw_930 tp_23 (ci := 9) rfl (by decide) ⟨Nat.le_of_ble_eq_true rfl, Nat.le_of_ble_eq_true rfl, Nat.le_of_ble_eq_true rfl, Nat.le_of_ble_eq_true rfl⟩ dX9_readFile_58 rfl k_v0 rfl (Nat.le_of_ble_eq_true rfl) rfl rfl (fun hr58 => ?_)
      cases hf
      exact a_zret dX9_readFile_61 rfl rfl rfl (hr58.2 rfl _ rfl)
    refine a_aload_n dX9_readFile_31 rfl rfl ?_
    refine a_iconst (v := nI 2) dX9_readFile_32 rfl (by decide) ?_
    refine a_iconst (v := nI 0) dX9_readFile_33 rfl (by decide) ?_
    obtain ⟨r34, h34, hc34, hf⟩ := am_bind_some hf
    refine a_callV (As := [.int (nI 2), .int (nI 0)]) (r1 := (some (.int r34), Γ, h34)) (sX9_wrong l k_v0 hc34) ccX9_wrong tw_928 tw_930 tp_23 (ci := 9) rfl (by decide) ⟨Nat.le_of_ble_eq_true rfl, Nat.le_of_ble_eq_true rfl, Nat.le_of_ble_eq_true rfl, Nat.le_of_ble_eq_true rfl⟩ dX9_readFile_34 rfl k_v0 rfl (Nat.le_of_ble_eq_true rfl) rfl rfl (fun hr34 => ?_)
    cases hf
    exact a_zret dX9_readFile_37 rfl rfl rfl (hr34.2 rfl _ rfl)
  refine a_aload_n dX9_readFile_9 rfl rfl ?_
  refine a_iconst (v := nI 1) dX9_readFile_10 rfl (by decide) ?_
  refine a_aload_n dX9_readFile_11 rfl rfl ?_
  refine a_getI fl_RX9_139 dX9_readFile_12 rfl k_v0 rfl ?_
  obtain ⟨r15, h15, hc15, hf⟩ := am_bind_some hf
  refine a_callV (As := [.int (nI 1), .int (h.1 v0 28)]) (r1 := (some (.int r15), Γ, h15)) (sX9_wrong l k_v0 hc15) ccX9_wrong tw_928 tw_930 tp_23 (ci := 9) rfl (by decide) ⟨Nat.le_of_ble_eq_true rfl, Nat.le_of_ble_eq_true rfl, Nat.le_of_ble_eq_true rfl, Nat.le_of_ble_eq_true rfl⟩ dX9_readFile_15 rfl k_v0 rfl (Nat.le_of_ble_eq_true rfl) rfl rfl (fun hr15 => ?_)
  cases hf
  exact a_zret dX9_readFile_18 rfl rfl rfl (hr15.2 rfl _ rfl)
