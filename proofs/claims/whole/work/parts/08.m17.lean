set_option maxRecDepth 100000 in
set_option maxHeartbeats 4000000 in
theorem wX9_readD_463 (l : Launch) {Γ : Gm} {r : Int32} {h' : AH} {k11 : Nat → Int32 → Int32 → AH → Option (Int32 × AH)} (hk11 : ∀ v0 v2 v3 (h : AH), ∀ n_v0 : Nat, Γ[v0]? = some (9, n_v0) → k11 v0 v2 v3 h = some (r, h') → AW l mX9_readD (some (.int r), Γ, h') 0 0 11 [some (.ref v0), none, some (.int v2), some (.int v3), none, none, none, none, none, none, none] [] Γ h) : ∀ (z : Nat) (v0 : Nat) (v2 : Int32) (v3 : Int32) (v4 : Int32) (v9 : Int32) (v10 : Int32) (h : AH), ∀ n_v0 : Nat, Γ[v0]? = some (9, n_v0) → fX9_readD_463 Γ k11 z v0 v2 v3 v4 v9 v10 h = some (r, h') → AW l mX9_readD (some (.int r), Γ, h') 0 0 463 [some (.ref v0), none, some (.int v2), some (.int v3), some (.int v4), none, none, none, none, some (.int v9), some (.int v10)] [] Γ h := by
  intro z
  induction z with
  | zero => intro v0 v2 v3 v4 v9 v10 h n_v0 k_v0 hf; cases hf
  | succ z ih =>
    intro v0 v2 v3 v4 v9 v10 h n_v0 k_v0 hf
    unfold fX9_readD_463 at hf
    refine a_iload dX9_readD_463 rfl rfl ?_
    refine a_iload dX9_readD_465 rfl rfl ?_
    refine a_icmp_ge (t := 520) dX9_readD_467 rfl rfl hf (fun _ hf => ?_) (fun _ hf => ?_)
    · refine a_aload_n dX9_readD_520 rfl rfl ?_
      refine a_getR fl_RX9_35 dX9_readD_521 rfl k_v0 rfl (by decide) hf (fun b521 n_b521 _ k_b521 hf => ?_)
      refine a_sipush (v := nI 1001) dX9_readD_524 rfl (by decide) ?_
      refine a_dup2 dX9_readD_527 rfl rfl rfl ?_
      refine a_iald dX9_readD_528 rfl k_b521 hf (fun hf => ?_)
      refine a_iconst (v := nI 1) dX9_readD_529 rfl (by decide) ?_
      refine a_iadd dX9_readD_530 rfl ?_
      refine a_iast dX9_readD_531 rfl k_b521 hf (fun h531 hf => ?_)
      refine a_iload_n dX9_readD_532 rfl rfl ?_
      refine a_bipush (v := nI 8) dX9_readD_533 rfl (by decide) ?_
      refine a_iconst (v := nI 2) dX9_readD_535 rfl (by decide) ?_
      refine a_iload dX9_readD_536 rfl rfl ?_
      refine a_imul dX9_readD_538 rfl ?_
      refine a_iadd dX9_readD_539 rfl ?_
      refine a_iadd dX9_readD_540 rfl ?_
      refine a_nmI hf (fun x541 hf => ?_)
      refine a_istore_n (L' := [some (.ref v0), none, some (.int v2), some (.int x541), some (.int v4), none, none, none, none, some (.int v9), some (.int v10)]) dX9_readD_541 rfl (Nat.le_of_ble_eq_true rfl) (fun _ _ hv => by cases hv; rfl) rfl ?_
      refine a_goto (t := 11) dX9_readD_542 rfl ?_
      exact AW.weak (hk11 v0 v2 x541 h531 _ k_v0 hf) ⟨rfl, ⟨rfl, ⟨rfl, trivial⟩⟩⟩
    refine a_aload_n dX9_readD_470 rfl rfl ?_
    refine a_getR fl_RX9_35 dX9_readD_471 rfl k_v0 rfl (by decide) hf (fun b471 n_b471 _ k_b471 hf => ?_)
    refine a_iload dX9_readD_474 rfl rfl ?_
    refine a_iconst (v := nI 5) dX9_readD_476 rfl (by decide) ?_
    refine a_iadd dX9_readD_477 rfl ?_
    refine a_iload dX9_readD_478 rfl rfl ?_
    refine a_iadd dX9_readD_480 rfl ?_
    refine a_aload_n dX9_readD_481 rfl rfl ?_
    refine a_getR fl_RX9_9 dX9_readD_482 rfl k_v0 rfl (by decide) hf (fun b482 n_b482 _ k_b482 hf => ?_)
    refine a_iload_n dX9_readD_485 rfl rfl ?_
    refine a_bipush (v := nI 8) dX9_readD_486 rfl (by decide) ?_
    refine a_iadd dX9_readD_488 rfl ?_
    refine a_iconst (v := nI 2) dX9_readD_489 rfl (by decide) ?_
    refine a_iload dX9_readD_490 rfl rfl ?_
    refine a_imul dX9_readD_492 rfl ?_
    refine a_iadd dX9_readD_493 rfl ?_
    refine a_iald dX9_readD_494 rfl k_b482 hf (fun hf => ?_)
    refine a_bipush (v := nI 8) dX9_readD_495 rfl (by decide) ?_
    refine a_ishl dX9_readD_497 rfl ?_
    refine a_aload_n dX9_readD_498 rfl rfl ?_
    refine a_getR fl_RX9_9 dX9_readD_499 rfl k_v0 rfl (by decide) hf (fun b499 n_b499 _ k_b499 hf => ?_)
    refine a_iload_n dX9_readD_502 rfl rfl ?_
    refine a_bipush (v := nI 9) dX9_readD_503 rfl (by decide) ?_
    refine a_iadd dX9_readD_505 rfl ?_
    refine a_iconst (v := nI 2) dX9_readD_506 rfl (by decide) ?_
    refine a_iload dX9_readD_507 rfl rfl ?_
    refine a_imul dX9_readD_509 rfl ?_
    refine a_iadd dX9_readD_510 rfl ?_
    refine a_iald dX9_readD_511 rfl k_b499 hf (fun hf => ?_)
    refine a_ior dX9_readD_512 rfl ?_
    refine a_iast dX9_readD_513 rfl k_b471 hf (fun h513 hf => ?_)
    refine a_iinc (v := v10 + nI 1) (L' := [some (.ref v0), none, some (.int v2), some (.int v3), some (.int v4), none, none, none, none, some (.int v9), some (.int (v10 + nI 1))]) dX9_readD_514 rfl rfl rfl (Nat.le_of_ble_eq_true rfl) (fun _ _ hv => by cases hv; rfl) rfl ?_
    refine a_goto (t := 463) dX9_readD_517 rfl ?_
    exact AW.weak (ih v0 v2 v3 v4 v9 (v10 + nI 1) h513 _ k_v0 hf) ⟨rfl, ⟨rfl, ⟨rfl, ⟨rfl, ⟨rfl, ⟨rfl, trivial⟩⟩⟩⟩⟩⟩
set_option maxRecDepth 100000 in
set_option maxHeartbeats 4000000 in
theorem wX9_readD_423 (l : Launch) {Γ : Gm} {r : Int32} {h' : AH} {k11 : Nat → Int32 → Int32 → AH → Option (Int32 × AH)} (hk11 : ∀ v0 v2 v3 (h : AH), ∀ n_v0 : Nat, Γ[v0]? = some (9, n_v0) → k11 v0 v2 v3 h = some (r, h') → AW l mX9_readD (some (.int r), Γ, h') 0 0 11 [some (.ref v0), none, some (.int v2), some (.int v3), none, none, none, none, none, none, none] [] Γ h) (v0 : Nat) (v2 : Int32) (v3 : Int32) (v4 : Int32) (v6 : Int32) (v7 : Int32) (v8 : Int32) (v9 : Int32) (s0 : Nat) (s1 : Int32) (s2 : Int32) (h : AH) : ∀ n_v0 : Nat, Γ[v0]? = some (9, n_v0) → ∀ n_s0 : Nat, Γ[s0]? = some (10, n_s0) → fX9_readD_423 Γ k11 v0 v2 v3 v4 v6 v7 v8 v9 s0 s1 s2 h = some (r, h') → AW l mX9_readD (some (.int r), Γ, h') 0 0 423 [some (.ref v0), none, some (.int v2), some (.int v3), some (.int v4), none, some (.int v6), some (.int v7), some (.int v8), some (.int v9), none] [.int s2, .int s1, .ref s0] Γ h := by
  intro n_v0 k_v0 n_s0 k_s0 hf
  unfold fX9_readD_423 at hf
  refine a_iast dX9_readD_423 rfl k_s0 hf (fun h423 hf => ?_)
  refine a_aload_n dX9_readD_424 rfl rfl ?_
  refine a_getR fl_RX9_35 dX9_readD_425 rfl k_v0 rfl (by decide) hf (fun b425 n_b425 _ k_b425 hf => ?_)
  refine a_iload dX9_readD_428 rfl rfl ?_
  refine a_iconst (v := nI 2) dX9_readD_430 rfl (by decide) ?_
  refine a_iadd dX9_readD_431 rfl ?_
  refine a_iload dX9_readD_432 rfl rfl ?_
  refine a_iast dX9_readD_434 rfl k_b425 hf (fun h434 hf => ?_)
  refine a_aload_n dX9_readD_435 rfl rfl ?_
  refine a_getR fl_RX9_35 dX9_readD_436 rfl k_v0 rfl (by decide) hf (fun b436 n_b436 _ k_b436 hf => ?_)
  refine a_iload dX9_readD_439 rfl rfl ?_
  refine a_iconst (v := nI 3) dX9_readD_441 rfl (by decide) ?_
  refine a_iadd dX9_readD_442 rfl ?_
  refine a_iload dX9_readD_443 rfl rfl ?_
  refine a_bipush (v := nI 15) dX9_readD_445 rfl (by decide) ?_
  refine a_iand dX9_readD_447 rfl ?_
  refine a_iast dX9_readD_448 rfl k_b436 hf (fun h448 hf => ?_)
  refine a_aload_n dX9_readD_449 rfl rfl ?_
  refine a_getR fl_RX9_35 dX9_readD_450 rfl k_v0 rfl (by decide) hf (fun b450 n_b450 _ k_b450 hf => ?_)
  refine a_iload dX9_readD_453 rfl rfl ?_
  refine a_iconst (v := nI 4) dX9_readD_455 rfl (by decide) ?_
  refine a_iadd dX9_readD_456 rfl ?_
  refine a_iload dX9_readD_457 rfl rfl ?_
  refine a_iast dX9_readD_459 rfl k_b450 hf (fun h459 hf => ?_)
  refine a_iconst (v := nI 0) dX9_readD_460 rfl (by decide) ?_
  refine a_istore (L' := [some (.ref v0), none, some (.int v2), some (.int v3), some (.int v4), none, some (.int v6), some (.int v7), some (.int v8), some (.int v9), some (.int (nI 0))]) dX9_readD_461 rfl (Nat.le_of_ble_eq_true rfl) (fun _ _ hv => by cases hv; rfl) rfl ?_
  exact AW.weak (wX9_readD_463 l hk11 am_fuel v0 v2 v3 v4 v9 (nI 0) h459 _ k_v0 hf) ⟨rfl, ⟨rfl, ⟨rfl, ⟨rfl, ⟨rfl, ⟨rfl, trivial⟩⟩⟩⟩⟩⟩
set_option maxRecDepth 100000 in
set_option maxHeartbeats 4000000 in
theorem wX9_readD_334 (l : Launch) {Γ : Gm} {r : Int32} {h' : AH} {k11 : Nat → Int32 → Int32 → AH → Option (Int32 × AH)} (hk11 : ∀ v0 v2 v3 (h : AH), ∀ n_v0 : Nat, Γ[v0]? = some (9, n_v0) → k11 v0 v2 v3 h = some (r, h') → AW l mX9_readD (some (.int r), Γ, h') 0 0 11 [some (.ref v0), none, some (.int v2), some (.int v3), none, none, none, none, none, none, none] [] Γ h) : ∀ (z : Nat) (v0 : Nat) (v2 : Int32) (v3 : Int32) (v4 : Int32) (v6 : Int32) (v7 : Int32) (v8 : Int32) (v9 : Int32) (v10 : Int32) (h : AH), ∀ n_v0 : Nat, Γ[v0]? = some (9, n_v0) → fX9_readD_334 Γ k11 z v0 v2 v3 v4 v6 v7 v8 v9 v10 h = some (r, h') → AW l mX9_readD (some (.int r), Γ, h') 0 0 334 [some (.ref v0), none, some (.int v2), some (.int v3), some (.int v4), none, some (.int v6), some (.int v7), some (.int v8), some (.int v9), some (.int v10)] [] Γ h := by
  intro z
  induction z with
  | zero => intro v0 v2 v3 v4 v6 v7 v8 v9 v10 h n_v0 k_v0 hf; cases hf
  | succ z ih =>
    intro v0 v2 v3 v4 v6 v7 v8 v9 v10 h n_v0 k_v0 hf
    unfold fX9_readD_334 at hf
    refine a_iload dX9_readD_334 rfl rfl ?_
    refine a_bipush (v := nI 60) dX9_readD_336 rfl (by decide) ?_
    refine a_icmp_ge (t := 358) dX9_readD_338 rfl rfl hf (fun _ hf => ?_) (fun _ hf => ?_)
    · refine a_aload_n dX9_readD_358 rfl rfl ?_
      refine a_getR fl_RX9_35 dX9_readD_359 rfl k_v0 rfl (by decide) hf (fun b359 n_b359 _ k_b359 hf => ?_)
      refine a_iload dX9_readD_362 rfl rfl ?_
      refine a_aload_n dX9_readD_364 rfl rfl ?_
      refine a_getR fl_RX9_9 dX9_readD_365 rfl k_v0 rfl (by decide) hf (fun b365 n_b365 _ k_b365 hf => ?_)
      refine a_iload_n dX9_readD_368 rfl rfl ?_
      refine a_iald dX9_readD_369 rfl k_b365 hf (fun hf => ?_)
      refine a_bipush (v := nI 16) dX9_readD_370 rfl (by decide) ?_
      refine a_ishl dX9_readD_372 rfl ?_
      refine a_aload_n dX9_readD_373 rfl rfl ?_
      refine a_getR fl_RX9_9 dX9_readD_374 rfl k_v0 rfl (by decide) hf (fun b374 n_b374 _ k_b374 hf => ?_)
      refine a_iload_n dX9_readD_377 rfl rfl ?_
      refine a_iconst (v := nI 1) dX9_readD_378 rfl (by decide) ?_
      refine a_iadd dX9_readD_379 rfl ?_
      refine a_iald dX9_readD_380 rfl k_b374 hf (fun hf => ?_)
      refine a_bipush (v := nI 8) dX9_readD_381 rfl (by decide) ?_
      refine a_ishl dX9_readD_383 rfl ?_
      refine a_ior dX9_readD_384 rfl ?_
      refine a_aload_n dX9_readD_385 rfl rfl ?_
      refine a_getR fl_RX9_9 dX9_readD_386 rfl k_v0 rfl (by decide) hf (fun b386 n_b386 _ k_b386 hf => ?_)
      refine a_iload_n dX9_readD_389 rfl rfl ?_
      refine a_iconst (v := nI 2) dX9_readD_390 rfl (by decide) ?_
      refine a_iadd dX9_readD_391 rfl ?_
      refine a_iald dX9_readD_392 rfl k_b386 hf (fun hf => ?_)
      refine a_ior dX9_readD_393 rfl ?_
      refine a_iast dX9_readD_394 rfl k_b359 hf (fun h394 hf => ?_)
      refine a_aload_n dX9_readD_395 rfl rfl ?_
      refine a_getR fl_RX9_35 dX9_readD_396 rfl k_v0 rfl (by decide) hf (fun b396 n_b396 _ k_b396 hf => ?_)
      refine a_iload dX9_readD_399 rfl rfl ?_
      refine a_iconst (v := nI 1) dX9_readD_401 rfl (by decide) ?_
      refine a_iadd dX9_readD_402 rfl ?_
      refine a_iload dX9_readD_403 rfl rfl ?_
      refine a_bipush (v := nI 15) dX9_readD_405 rfl (by decide) ?_
      refine a_icmp_le (t := 415) dX9_readD_407 rfl rfl hf (fun _ hf => ?_) (fun _ hf => ?_)
      · refine a_aload_n dX9_readD_415 rfl rfl ?_
        refine a_getR fl_RX9_9 dX9_readD_416 rfl k_v0 rfl (by decide) hf (fun b416 n_b416 _ k_b416 hf => ?_)
        refine a_iload_n dX9_readD_419 rfl rfl ?_
        refine a_iconst (v := nI 4) dX9_readD_420 rfl (by decide) ?_
        refine a_iadd dX9_readD_421 rfl ?_
        refine a_iald dX9_readD_422 rfl k_b416 hf (fun hf => ?_)
        exact AW.weak (wX9_readD_423 l hk11 v0 v2 v3 v4 v6 v7 v8 v9 b396 (v4 + (nI 1)) (h394.1 b416 (v3 + (nI 4)).toNatClampNeg) h394 _ k_v0 _ k_b396 hf) ⟨rfl, ⟨rfl, ⟨rfl, ⟨rfl, ⟨rfl, ⟨rfl, ⟨rfl, ⟨rfl, trivial⟩⟩⟩⟩⟩⟩⟩⟩
      refine a_bipush (v := (-2 : Int32)) dX9_readD_410 rfl (by decide) ?_
      refine a_goto (t := 423) dX9_readD_412 rfl ?_
      exact AW.weak (wX9_readD_423 l hk11 v0 v2 v3 v4 v6 v7 v8 v9 b396 (v4 + (nI 1)) ((-2 : Int32)) h394 _ k_v0 _ k_b396 hf) ⟨rfl, ⟨rfl, ⟨rfl, ⟨rfl, ⟨rfl, ⟨rfl, ⟨rfl, ⟨rfl, trivial⟩⟩⟩⟩⟩⟩⟩⟩
    refine a_aload_n dX9_readD_341 rfl rfl ?_
    refine a_getR fl_RX9_35 dX9_readD_342 rfl k_v0 rfl (by decide) hf (fun b342 n_b342 _ k_b342 hf => ?_)
    refine a_iload dX9_readD_345 rfl rfl ?_
    refine a_iload dX9_readD_347 rfl rfl ?_
    refine a_iadd dX9_readD_349 rfl ?_
    refine a_iconst (v := nI 0) dX9_readD_350 rfl (by decide) ?_
    refine a_iast dX9_readD_351 rfl k_b342 hf (fun h351 hf => ?_)
    refine a_iinc (v := v10 + nI 1) (L' := [some (.ref v0), none, some (.int v2), some (.int v3), some (.int v4), none, some (.int v6), some (.int v7), some (.int v8), some (.int v9), some (.int (v10 + nI 1))]) dX9_readD_352 rfl rfl rfl (Nat.le_of_ble_eq_true rfl) (fun _ _ hv => by cases hv; rfl) rfl ?_
    refine a_goto (t := 334) dX9_readD_355 rfl ?_
    exact AW.weak (ih v0 v2 v3 v4 v6 v7 v8 v9 (v10 + nI 1) h351 _ k_v0 hf) ⟨rfl, ⟨rfl, ⟨rfl, ⟨rfl, ⟨rfl, ⟨rfl, ⟨rfl, ⟨rfl, ⟨rfl, trivial⟩⟩⟩⟩⟩⟩⟩⟩⟩
set_option maxRecDepth 100000 in
set_option maxHeartbeats 4000000 in
theorem wX9_readD_231 (l : Launch) {Γ : Gm} {r : Int32} {h' : AH} {k11 : Nat → Int32 → Int32 → AH → Option (Int32 × AH)} (hk11 : ∀ v0 v2 v3 (h : AH), ∀ n_v0 : Nat, Γ[v0]? = some (9, n_v0) → k11 v0 v2 v3 h = some (r, h') → AW l mX9_readD (some (.int r), Γ, h') 0 0 11 [some (.ref v0), none, some (.int v2), some (.int v3), none, none, none, none, none, none, none] [] Γ h) (v0 : Nat) (v2 : Int32) (v3 : Int32) (v4 : Int32) (v6 : Int32) (v7 : Int32) (h : AH) : ∀ n_v0 : Nat, Γ[v0]? = some (9, n_v0) → fX9_readD_231 Γ k11 v0 v2 v3 v4 v6 v7 h = some (r, h') → AW l mX9_readD (some (.int r), Γ, h') 0 0 231 [some (.ref v0), none, some (.int v2), some (.int v3), some (.int v4), none, some (.int v6), some (.int v7), none, none, none] [] Γ h := by
  intro n_v0 k_v0 hf
  unfold fX9_readD_231 at hf
  refine a_iconst (v := nI 1) dX9_readD_231 rfl (by decide) ?_
  refine a_iload dX9_readD_232 rfl rfl ?_
  refine a_ishl dX9_readD_234 rfl ?_
  refine a_iconst (v := nI 1) dX9_readD_235 rfl (by decide) ?_
  refine a_isub dX9_readD_236 rfl ?_
  refine a_aload_n dX9_readD_237 rfl rfl ?_
  refine a_getR fl_RX9_9 dX9_readD_238 rfl k_v0 rfl (by decide) hf (fun b238 n_b238 _ k_b238 hf => ?_)
  refine a_iload_n dX9_readD_241 rfl rfl ?_
  refine a_iconst (v := nI 5) dX9_readD_242 rfl (by decide) ?_
  refine a_iadd dX9_readD_243 rfl ?_
  refine a_iald dX9_readD_244 rfl k_b238 hf (fun hf => ?_)
  refine a_icmp_eq (t := 258) dX9_readD_245 rfl rfl hf (fun _ hf => ?_) (fun _ hf => ?_)
  · refine a_aload_n dX9_readD_258 rfl rfl ?_
    refine a_getR fl_RX9_9 dX9_readD_259 rfl k_v0 rfl (by decide) hf (fun b259 n_b259 _ k_b259 hf => ?_)
    refine a_iload_n dX9_readD_262 rfl rfl ?_
    refine a_bipush (v := nI 6) dX9_readD_263 rfl (by decide) ?_
    refine a_iadd dX9_readD_265 rfl ?_
    refine a_iald dX9_readD_266 rfl k_b259 hf (fun hf => ?_)
    refine a_bipush (v := nI 8) dX9_readD_267 rfl (by decide) ?_
    refine a_ishl dX9_readD_269 rfl ?_
    refine a_aload_n dX9_readD_270 rfl rfl ?_
    refine a_getR fl_RX9_9 dX9_readD_271 rfl k_v0 rfl (by decide) hf (fun b271 n_b271 _ k_b271 hf => ?_)
    refine a_iload_n dX9_readD_274 rfl rfl ?_
    refine a_bipush (v := nI 7) dX9_readD_275 rfl (by decide) ?_
    refine a_iadd dX9_readD_277 rfl ?_
    refine a_iald dX9_readD_278 rfl k_b271 hf (fun hf => ?_)
    refine a_ior dX9_readD_279 rfl ?_
    refine a_nmI hf (fun x280 hf => ?_)
    refine a_istore (L' := [some (.ref v0), none, some (.int v2), some (.int v3), some (.int v4), none, some (.int v6), some (.int v7), some (.int x280), none, none]) dX9_readD_280 rfl (Nat.le_of_ble_eq_true rfl) (fun _ _ hv => by cases hv; rfl) rfl ?_
    refine a_iload dX9_readD_282 rfl rfl ?_
    refine a_bipush (v := nI 40) dX9_readD_284 rfl (by decide) ?_
    refine a_icmp_le (t := 300) dX9_readD_286 rfl rfl hf (fun _ hf => ?_) (fun _ hf => ?_)
    · refine a_iload dX9_readD_300 rfl rfl ?_
      refine a_bipush (v := nI 15) dX9_readD_302 rfl (by decide) ?_
      refine a_iand dX9_readD_304 rfl ?_
      refine a_iload dX9_readD_305 rfl rfl ?_
      refine a_iadd dX9_readD_307 rfl ?_
      refine a_nmI hf (fun x308 hf => ?_)
      refine a_istore (L' := [some (.ref v0), none, some (.int v2), some (.int v3), some (.int v4), none, some (.int v6), some (.int v7), some (.int x280), some (.int x308), none]) dX9_readD_308 rfl (Nat.le_of_ble_eq_true rfl) (fun _ _ hv => by cases hv; rfl) rfl ?_
      refine a_iload_n dX9_readD_310 rfl rfl ?_
      refine a_iload_n dX9_readD_311 rfl rfl ?_
      refine a_isub dX9_readD_312 rfl ?_
      refine a_bipush (v := nI 8) dX9_readD_313 rfl (by decide) ?_
      refine a_isub dX9_readD_315 rfl ?_
      refine a_iconst (v := nI 2) dX9_readD_316 rfl (by decide) ?_
      refine a_iload dX9_readD_317 rfl rfl ?_
      refine a_imul dX9_readD_319 rfl ?_
      refine a_icmp_ge (t := 331) dX9_readD_320 rfl rfl hf (fun _ hf => ?_) (fun _ hf => ?_)
      · refine a_iconst (v := nI 0) dX9_readD_331 rfl (by decide) ?_
        refine a_istore (L' := [some (.ref v0), none, some (.int v2), some (.int v3), some (.int v4), none, some (.int v6), some (.int v7), some (.int x280), some (.int x308), some (.int (nI 0))]) dX9_readD_332 rfl (Nat.le_of_ble_eq_true rfl) (fun _ _ hv => by cases hv; rfl) rfl ?_
        exact AW.weak (wX9_readD_334 l hk11 am_fuel v0 v2 v3 v4 v6 v7 x280 x308 (nI 0) h _ k_v0 hf) ⟨rfl, ⟨rfl, ⟨rfl, ⟨rfl, ⟨rfl, ⟨rfl, ⟨rfl, ⟨rfl, ⟨rfl, trivial⟩⟩⟩⟩⟩⟩⟩⟩⟩
      refine a_aload_n dX9_readD_323 rfl rfl ?_
      refine a_bipush (v := nI 8) dX9_readD_324 rfl (by decide) ?_
      refine a_iload_n dX9_readD_326 rfl rfl ?_
      obtain ⟨r327, h327, hc327, hf⟩ := am_bind_some hf
      refine a_callV (As := [.int (nI 8), .int v2]) (r1 := (some (.int r327), Γ, h327)) (sX9_wrong l k_v0 hc327) ccX9_wrong tw_928 tw_930 tp_23 (ci := 9) rfl (by decide) ⟨Nat.le_of_ble_eq_true rfl, Nat.le_of_ble_eq_true rfl, Nat.le_of_ble_eq_true rfl, Nat.le_of_ble_eq_true rfl⟩ dX9_readD_327 rfl k_v0 rfl (Nat.le_of_ble_eq_true rfl) rfl rfl (fun hr327 => ?_)
      cases hf
      exact a_zret dX9_readD_330 rfl rfl rfl (hr327.2 rfl _ rfl)
    refine a_aload_n dX9_readD_289 rfl rfl ?_
    refine a_bipush (v := nI 9) dX9_readD_290 rfl (by decide) ?_
    refine a_iload_n dX9_readD_292 rfl rfl ?_
    refine a_bipush (v := nI 6) dX9_readD_293 rfl (by decide) ?_
    refine a_iadd dX9_readD_295 rfl ?_
    obtain ⟨r296, h296, hc296, hf⟩ := am_bind_some hf
    refine a_callV (As := [.int (nI 9), .int (v3 + (nI 6))]) (r1 := (some (.int r296), Γ, h296)) (sX9_wrong l k_v0 hc296) ccX9_wrong tw_928 tw_930 tp_23 (ci := 9) rfl (by decide) ⟨Nat.le_of_ble_eq_true rfl, Nat.le_of_ble_eq_true rfl, Nat.le_of_ble_eq_true rfl, Nat.le_of_ble_eq_true rfl⟩ dX9_readD_296 rfl k_v0 rfl (Nat.le_of_ble_eq_true rfl) rfl rfl (fun hr296 => ?_)
    cases hf
    exact a_zret dX9_readD_299 rfl rfl rfl (hr296.2 rfl _ rfl)
  refine a_aload_n dX9_readD_248 rfl rfl ?_
  refine a_bipush (v := nI 8) dX9_readD_249 rfl (by decide) ?_
  refine a_iload_n dX9_readD_251 rfl rfl ?_
  refine a_iconst (v := nI 5) dX9_readD_252 rfl (by decide) ?_
  refine a_iadd dX9_readD_253 rfl ?_
  obtain ⟨r254, h254, hc254, hf⟩ := am_bind_some hf
  refine a_callV (As := [.int (nI 8), .int (v3 + (nI 5))]) (r1 := (some (.int r254), Γ, h254)) (sX9_wrong l k_v0 hc254) ccX9_wrong tw_928 tw_930 tp_23 (ci := 9) rfl (by decide) ⟨Nat.le_of_ble_eq_true rfl, Nat.le_of_ble_eq_true rfl, Nat.le_of_ble_eq_true rfl, Nat.le_of_ble_eq_true rfl⟩ dX9_readD_254 rfl k_v0 rfl (Nat.le_of_ble_eq_true rfl) rfl rfl (fun hr254 => ?_)
  cases hf
  exact a_zret dX9_readD_257 rfl rfl rfl (hr254.2 rfl _ rfl)
set_option maxRecDepth 100000 in
set_option maxHeartbeats 4000000 in
theorem wX9_readD_201 (l : Launch) {Γ : Gm} {r : Int32} {h' : AH} {k11 : Nat → Int32 → Int32 → AH → Option (Int32 × AH)} (hk11 : ∀ v0 v2 v3 (h : AH), ∀ n_v0 : Nat, Γ[v0]? = some (9, n_v0) → k11 v0 v2 v3 h = some (r, h') → AW l mX9_readD (some (.int r), Γ, h') 0 0 11 [some (.ref v0), none, some (.int v2), some (.int v3), none, none, none, none, none, none, none] [] Γ h) : ∀ (z : Nat) (v0 : Nat) (v2 : Int32) (v3 : Int32) (v4 : Int32) (v6 : Int32) (v7 : Int32) (h : AH), ∀ n_v0 : Nat, Γ[v0]? = some (9, n_v0) → fX9_readD_201 Γ k11 z v0 v2 v3 v4 v6 v7 h = some (r, h') → AW l mX9_readD (some (.int r), Γ, h') 0 0 201 [some (.ref v0), none, some (.int v2), some (.int v3), some (.int v4), none, some (.int v6), some (.int v7), none, none, none] [] Γ h := by
  intro z
  induction z with
  | zero => intro v0 v2 v3 v4 v6 v7 h n_v0 k_v0 hf; cases hf
  | succ z ih =>
    intro v0 v2 v3 v4 v6 v7 h n_v0 k_v0 hf
    unfold fX9_readD_201 at hf
    refine a_iload dX9_readD_201 rfl rfl ?_
    refine a_bipush (v := nI 7) dX9_readD_203 rfl (by decide) ?_
    refine a_icmp_ge (t := 231) dX9_readD_205 rfl rfl hf (fun _ hf => ?_) (fun _ hf => ?_)
    · exact AW.weak (wX9_readD_231 l hk11 v0 v2 v3 v4 v6 v7 h _ k_v0 hf) ⟨rfl, ⟨rfl, ⟨rfl, ⟨rfl, ⟨rfl, ⟨rfl, trivial⟩⟩⟩⟩⟩⟩
    refine a_iconst (v := nI 1) dX9_readD_208 rfl (by decide) ?_
    refine a_iload dX9_readD_209 rfl rfl ?_
    refine a_ishl dX9_readD_211 rfl ?_
    refine a_iconst (v := nI 1) dX9_readD_212 rfl (by decide) ?_
    refine a_isub dX9_readD_213 rfl ?_
    refine a_aload_n dX9_readD_214 rfl rfl ?_
    refine a_getR fl_RX9_9 dX9_readD_215 rfl k_v0 rfl (by decide) hf (fun b215 n_b215 _ k_b215 hf => ?_)
    refine a_iload_n dX9_readD_218 rfl rfl ?_
    refine a_iconst (v := nI 5) dX9_readD_219 rfl (by decide) ?_
    refine a_iadd dX9_readD_220 rfl ?_
    refine a_iald dX9_readD_221 rfl k_b215 hf (fun hf => ?_)
    refine a_icmp_eq (t := 231) dX9_readD_222 rfl rfl hf (fun _ hf => ?_) (fun _ hf => ?_)
    · exact AW.weak (wX9_readD_231 l hk11 v0 v2 v3 v4 v6 v7 h _ k_v0 hf) ⟨rfl, ⟨rfl, ⟨rfl, ⟨rfl, ⟨rfl, ⟨rfl, trivial⟩⟩⟩⟩⟩⟩
    refine a_iinc (v := v7 + nI 1) (L' := [some (.ref v0), none, some (.int v2), some (.int v3), some (.int v4), none, some (.int v6), some (.int (v7 + nI 1)), none, none, none]) dX9_readD_225 rfl rfl rfl (Nat.le_of_ble_eq_true rfl) (fun _ _ hv => by cases hv; rfl) rfl ?_
    refine a_goto (t := 201) dX9_readD_228 rfl ?_
    exact AW.weak (ih v0 v2 v3 v4 v6 (v7 + nI 1) h _ k_v0 hf) ⟨rfl, ⟨rfl, ⟨rfl, ⟨rfl, ⟨rfl, ⟨rfl, trivial⟩⟩⟩⟩⟩⟩
set_option maxRecDepth 100000 in
set_option maxHeartbeats 4000000 in
theorem wX9_readD_198 (l : Launch) {Γ : Gm} {r : Int32} {h' : AH} {k11 : Nat → Int32 → Int32 → AH → Option (Int32 × AH)} (hk11 : ∀ v0 v2 v3 (h : AH), ∀ n_v0 : Nat, Γ[v0]? = some (9, n_v0) → k11 v0 v2 v3 h = some (r, h') → AW l mX9_readD (some (.int r), Γ, h') 0 0 11 [some (.ref v0), none, some (.int v2), some (.int v3), none, none, none, none, none, none, none] [] Γ h) (v0 : Nat) (v2 : Int32) (v3 : Int32) (v4 : Int32) (v6 : Int32) (h : AH) : ∀ n_v0 : Nat, Γ[v0]? = some (9, n_v0) → fX9_readD_198 Γ k11 v0 v2 v3 v4 v6 h = some (r, h') → AW l mX9_readD (some (.int r), Γ, h') 0 0 198 [some (.ref v0), none, some (.int v2), some (.int v3), some (.int v4), none, some (.int v6), none, none, none, none] [] Γ h := by
  intro n_v0 k_v0 hf
  unfold fX9_readD_198 at hf
  refine a_iconst (v := nI 0) dX9_readD_198 rfl (by decide) ?_
  refine a_istore (L' := [some (.ref v0), none, some (.int v2), some (.int v3), some (.int v4), none, some (.int v6), some (.int (nI 0)), none, none, none]) dX9_readD_199 rfl (Nat.le_of_ble_eq_true rfl) (fun _ _ hv => by cases hv; rfl) rfl ?_
  exact AW.weak (wX9_readD_201 l hk11 am_fuel v0 v2 v3 v4 v6 (nI 0) h _ k_v0 hf) ⟨rfl, ⟨rfl, ⟨rfl, ⟨rfl, ⟨rfl, ⟨rfl, trivial⟩⟩⟩⟩⟩⟩
set_option maxRecDepth 100000 in
set_option maxHeartbeats 4000000 in
theorem wX9_readD_143 (l : Launch) {Γ : Gm} {r : Int32} {h' : AH} {k11 : Nat → Int32 → Int32 → AH → Option (Int32 × AH)} (hk11 : ∀ v0 v2 v3 (h : AH), ∀ n_v0 : Nat, Γ[v0]? = some (9, n_v0) → k11 v0 v2 v3 h = some (r, h') → AW l mX9_readD (some (.int r), Γ, h') 0 0 11 [some (.ref v0), none, some (.int v2), some (.int v3), none, none, none, none, none, none, none] [] Γ h) (v0 : Nat) (v2 : Int32) (v3 : Int32) (v4 : Int32) (h : AH) : ∀ n_v0 : Nat, Γ[v0]? = some (9, n_v0) → fX9_readD_143 Γ k11 v0 v2 v3 v4 h = some (r, h') → AW l mX9_readD (some (.int r), Γ, h') 0 0 143 [some (.ref v0), none, some (.int v2), some (.int v3), some (.int v4), none, none, none, none, none, none] [] Γ h := by
  intro n_v0 k_v0 hf
  unfold fX9_readD_143 at hf
  refine a_aload_n dX9_readD_143 rfl rfl ?_
  refine a_getR fl_RX9_9 dX9_readD_144 rfl k_v0 rfl (by decide) hf (fun b144 n_b144 _ k_b144 hf => ?_)
  refine a_iload_n dX9_readD_147 rfl rfl ?_
  refine a_iconst (v := nI 3) dX9_readD_148 rfl (by decide) ?_
  refine a_iadd dX9_readD_149 rfl ?_
  refine a_iald dX9_readD_150 rfl k_b144 hf (fun hf => ?_)
  refine a_nmI hf (fun x151 hf => ?_)
  refine a_istore (L' := [some (.ref v0), none, some (.int v2), some (.int v3), some (.int v4), none, some (.int x151), none, none, none, none]) dX9_readD_151 rfl (Nat.le_of_ble_eq_true rfl) (fun _ _ hv => by cases hv) rfl ?_
  refine a_iload dX9_readD_153 rfl rfl ?_
  refine a_bipush (v := nI 31) dX9_readD_155 rfl (by decide) ?_
  refine a_icmp_le (t := 170) dX9_readD_157 rfl rfl hf (fun _ hf => ?_) (fun _ hf => ?_)
  · refine a_iload dX9_readD_170 rfl rfl ?_
    refine a_bipush (v := nI 15) dX9_readD_172 rfl (by decide) ?_
    refine a_icmp_le (t := 198) dX9_readD_174 rfl rfl hf (fun _ hf => ?_) (fun _ hf => ?_)
    · exact AW.weak (wX9_readD_198 l hk11 v0 v2 v3 v4 x151 h _ k_v0 hf) ⟨rfl, ⟨rfl, ⟨rfl, ⟨rfl, ⟨rfl, trivial⟩⟩⟩⟩⟩
    refine a_aload_n dX9_readD_177 rfl rfl ?_
    refine a_getR fl_RX9_9 dX9_readD_178 rfl k_v0 rfl (by decide) hf (fun b178 n_b178 _ k_b178 hf => ?_)
    refine a_iload_n dX9_readD_181 rfl rfl ?_
    refine a_iconst (v := nI 4) dX9_readD_182 rfl (by decide) ?_
    refine a_iadd dX9_readD_183 rfl ?_
    refine a_iald dX9_readD_184 rfl k_b178 hf (fun hf => ?_)
    refine a_if_eq (t := 198) dX9_readD_185 rfl rfl hf (fun _ hf => ?_) (fun _ hf => ?_)
    · exact AW.weak (wX9_readD_198 l hk11 v0 v2 v3 v4 x151 h _ k_v0 hf) ⟨rfl, ⟨rfl, ⟨rfl, ⟨rfl, ⟨rfl, trivial⟩⟩⟩⟩⟩
    refine a_aload_n dX9_readD_188 rfl rfl ?_
    refine a_bipush (v := nI 8) dX9_readD_189 rfl (by decide) ?_
    refine a_iload_n dX9_readD_191 rfl rfl ?_
    refine a_iconst (v := nI 4) dX9_readD_192 rfl (by decide) ?_
    refine a_iadd dX9_readD_193 rfl ?_
    obtain ⟨r194, h194, hc194, hf⟩ := am_bind_some hf
    refine a_callV (As := [.int (nI 8), .int (v3 + (nI 4))]) (r1 := (some (.int r194), Γ, h194)) (sX9_wrong l k_v0 hc194) ccX9_wrong tw_928 tw_930 tp_23 (ci := 9) rfl (by decide) ⟨Nat.le_of_ble_eq_true rfl, Nat.le_of_ble_eq_true rfl, Nat.le_of_ble_eq_true rfl, Nat.le_of_ble_eq_true rfl⟩ dX9_readD_194 rfl k_v0 rfl (Nat.le_of_ble_eq_true rfl) rfl rfl (fun hr194 => ?_)
    cases hf
    exact a_zret dX9_readD_197 rfl rfl rfl (hr194.2 rfl _ rfl)
  refine a_aload_n dX9_readD_160 rfl rfl ?_
  refine a_bipush (v := nI 8) dX9_readD_161 rfl (by decide) ?_
  refine a_iload_n dX9_readD_163 rfl rfl ?_
  refine a_iconst (v := nI 3) dX9_readD_164 rfl (by decide) ?_
  refine a_iadd dX9_readD_165 rfl ?_
  obtain ⟨r166, h166, hc166, hf⟩ := am_bind_some hf
  refine a_callV (As := [.int (nI 8), .int (v3 + (nI 3))]) (r1 := (some (.int r166), Γ, h166)) (sX9_wrong l k_v0 hc166) ccX9_wrong tw_928 tw_930 tp_23 (ci := 9) rfl (by decide) ⟨Nat.le_of_ble_eq_true rfl, Nat.le_of_ble_eq_true rfl, Nat.le_of_ble_eq_true rfl, Nat.le_of_ble_eq_true rfl⟩ dX9_readD_166 rfl k_v0 rfl (Nat.le_of_ble_eq_true rfl) rfl rfl (fun hr166 => ?_)
  cases hf
  exact a_zret dX9_readD_169 rfl rfl rfl (hr166.2 rfl _ rfl)
set_option maxRecDepth 100000 in
set_option maxHeartbeats 4000000 in
theorem wX9_readD_102 (l : Launch) {Γ : Gm} {r : Int32} {h' : AH} {k11 : Nat → Int32 → Int32 → AH → Option (Int32 × AH)} (hk11 : ∀ v0 v2 v3 (h : AH), ∀ n_v0 : Nat, Γ[v0]? = some (9, n_v0) → k11 v0 v2 v3 h = some (r, h') → AW l mX9_readD (some (.int r), Γ, h') 0 0 11 [some (.ref v0), none, some (.int v2), some (.int v3), none, none, none, none, none, none, none] [] Γ h) : ∀ (z : Nat) (v0 : Nat) (v2 : Int32) (v3 : Int32) (v4 : Int32) (v5 : Int32) (v6 : Int32) (h : AH), ∀ n_v0 : Nat, Γ[v0]? = some (9, n_v0) → fX9_readD_102 Γ k11 z v0 v2 v3 v4 v5 v6 h = some (r, h') → AW l mX9_readD (some (.int r), Γ, h') 0 0 102 [some (.ref v0), none, some (.int v2), some (.int v3), some (.int v4), some (.int v5), some (.int v6), none, none, none, none] [] Γ h := by
  intro z
  induction z with
  | zero => intro v0 v2 v3 v4 v5 v6 h n_v0 k_v0 hf; cases hf
  | succ z ih =>
    intro v0 v2 v3 v4 v5 v6 h n_v0 k_v0 hf
    unfold fX9_readD_102 at hf
    refine a_iload dX9_readD_102 rfl rfl ?_
    refine a_if_eq (t := 143) dX9_readD_104 rfl rfl hf (fun _ hf => ?_) (fun _ hf => ?_)
    · exact AW.weak (wX9_readD_143 l hk11 v0 v2 v3 v4 h _ k_v0 hf) ⟨rfl, ⟨rfl, ⟨rfl, ⟨rfl, trivial⟩⟩⟩⟩
    refine a_iload dX9_readD_107 rfl rfl ?_
    refine a_bipush (v := nI 6) dX9_readD_109 rfl (by decide) ?_
    refine a_icmp_ge (t := 143) dX9_readD_111 rfl rfl hf (fun _ hf => ?_) (fun _ hf => ?_)
    · exact AW.weak (wX9_readD_143 l hk11 v0 v2 v3 v4 h _ k_v0 hf) ⟨rfl, ⟨rfl, ⟨rfl, ⟨rfl, trivial⟩⟩⟩⟩
    refine a_aload_n dX9_readD_114 rfl rfl ?_
    refine a_getR fl_RX9_9 dX9_readD_115 rfl k_v0 rfl (by decide) hf (fun b115 n_b115 _ k_b115 hf => ?_)
    refine a_iload_n dX9_readD_118 rfl rfl ?_
    refine a_iload dX9_readD_119 rfl rfl ?_
    refine a_iadd dX9_readD_121 rfl ?_
    refine a_iald dX9_readD_122 rfl k_b115 hf (fun hf => ?_)
    refine a_if_eq (t := 137) dX9_readD_123 rfl rfl hf (fun _ hf => ?_) (fun _ hf => ?_)
    · refine a_iinc (v := v6 + nI 1) (L' := [some (.ref v0), none, some (.int v2), some (.int v3), some (.int v4), some (.int v5), some (.int (v6 + nI 1)), none, none, none, none]) dX9_readD_137 rfl rfl rfl (Nat.le_of_ble_eq_true rfl) (fun _ _ hv => by cases hv; rfl) rfl ?_
      refine a_goto (t := 102) dX9_readD_140 rfl ?_
      exact AW.weak (ih v0 v2 v3 v4 v5 (v6 + nI 1) h _ k_v0 hf) ⟨rfl, ⟨rfl, ⟨rfl, ⟨rfl, ⟨rfl, ⟨rfl, trivial⟩⟩⟩⟩⟩⟩
    refine a_aload_n dX9_readD_126 rfl rfl ?_
    refine a_bipush (v := nI 8) dX9_readD_127 rfl (by decide) ?_
    refine a_iload_n dX9_readD_129 rfl rfl ?_
    refine a_iload dX9_readD_130 rfl rfl ?_
    refine a_iadd dX9_readD_132 rfl ?_
    obtain ⟨r133, h133, hc133, hf⟩ := am_bind_some hf
    refine a_callV (As := [.int (nI 8), .int (v3 + v6)]) (r1 := (some (.int r133), Γ, h133)) (sX9_wrong l k_v0 hc133) ccX9_wrong tw_928 tw_930 tp_23 (ci := 9) rfl (by decide) ⟨Nat.le_of_ble_eq_true rfl, Nat.le_of_ble_eq_true rfl, Nat.le_of_ble_eq_true rfl, Nat.le_of_ble_eq_true rfl⟩ dX9_readD_133 rfl k_v0 rfl (Nat.le_of_ble_eq_true rfl) rfl rfl (fun hr133 => ?_)
    cases hf
    exact a_zret dX9_readD_136 rfl rfl rfl (hr133.2 rfl _ rfl)
set_option maxRecDepth 100000 in
set_option maxHeartbeats 4000000 in
theorem wX9_readD_97 (l : Launch) {Γ : Gm} {r : Int32} {h' : AH} {k11 : Nat → Int32 → Int32 → AH → Option (Int32 × AH)} (hk11 : ∀ v0 v2 v3 (h : AH), ∀ n_v0 : Nat, Γ[v0]? = some (9, n_v0) → k11 v0 v2 v3 h = some (r, h') → AW l mX9_readD (some (.int r), Γ, h') 0 0 11 [some (.ref v0), none, some (.int v2), some (.int v3), none, none, none, none, none, none, none] [] Γ h) (v0 : Nat) (v2 : Int32) (v3 : Int32) (v4 : Int32) (s0 : Int32) (h : AH) : ∀ n_v0 : Nat, Γ[v0]? = some (9, n_v0) → fX9_readD_97 Γ k11 v0 v2 v3 v4 s0 h = some (r, h') → AW l mX9_readD (some (.int r), Γ, h') 0 0 97 [some (.ref v0), none, some (.int v2), some (.int v3), some (.int v4), none, none, none, none, none, none] [.int s0] Γ h := by
  intro n_v0 k_v0 hf
  unfold fX9_readD_97 at hf
  refine a_istore (L' := [some (.ref v0), none, some (.int v2), some (.int v3), some (.int v4), some (.int s0), none, none, none, none, none]) dX9_readD_97 rfl (Nat.le_of_ble_eq_true rfl) (fun _ _ hv => by cases hv; rfl) rfl ?_
  refine a_iconst (v := nI 0) dX9_readD_99 rfl (by decide) ?_
  refine a_istore (L' := [some (.ref v0), none, some (.int v2), some (.int v3), some (.int v4), some (.int s0), some (.int (nI 0)), none, none, none, none]) dX9_readD_100 rfl (Nat.le_of_ble_eq_true rfl) (fun _ _ hv => by cases hv; rfl) rfl ?_
  exact AW.weak (wX9_readD_102 l hk11 am_fuel v0 v2 v3 v4 s0 (nI 0) h _ k_v0 hf) ⟨rfl, ⟨rfl, ⟨rfl, ⟨rfl, ⟨rfl, ⟨rfl, trivial⟩⟩⟩⟩⟩⟩
set_option maxRecDepth 100000 in
set_option maxHeartbeats 4000000 in
theorem wX9_readD_27 (l : Launch) {Γ : Gm} {r : Int32} {h' : AH} {k11 : Nat → Int32 → Int32 → AH → Option (Int32 × AH)} (hk11 : ∀ v0 v2 v3 (h : AH), ∀ n_v0 : Nat, Γ[v0]? = some (9, n_v0) → k11 v0 v2 v3 h = some (r, h') → AW l mX9_readD (some (.int r), Γ, h') 0 0 11 [some (.ref v0), none, some (.int v2), some (.int v3), none, none, none, none, none, none, none] [] Γ h) (v0 : Nat) (v2 : Int32) (v3 : Int32) (h : AH) : ∀ n_v0 : Nat, Γ[v0]? = some (9, n_v0) → fX9_readD_27 Γ k11 v0 v2 v3 h = some (r, h') → AW l mX9_readD (some (.int r), Γ, h') 0 0 27 [some (.ref v0), none, some (.int v2), some (.int v3), none, none, none, none, none, none, none] [] Γ h := by
  intro n_v0 k_v0 hf
  unfold fX9_readD_27 at hf
  refine a_aload_n dX9_readD_27 rfl rfl ?_
  refine a_getR fl_RX9_35 dX9_readD_28 rfl k_v0 rfl (by decide) hf (fun b28 n_b28 _ k_b28 hf => ?_)
  refine a_sipush (v := nI 1001) dX9_readD_31 rfl (by decide) ?_
  refine a_iald dX9_readD_34 rfl k_b28 hf (fun hf => ?_)
  refine a_bipush (v := nI 20) dX9_readD_35 rfl (by decide) ?_
  refine a_icmp_ne (t := 48) dX9_readD_37 rfl rfl hf (fun _ hf => ?_) (fun _ hf => ?_)
  · refine a_aload_n dX9_readD_40 rfl rfl ?_
    refine a_bipush (v := nI 9) dX9_readD_41 rfl (by decide) ?_
    refine a_iload_n dX9_readD_43 rfl rfl ?_
    obtain ⟨r44, h44, hc44, hf⟩ := am_bind_some hf
    refine a_callV (As := [.int (nI 9), .int v3]) (r1 := (some (.int r44), Γ, h44)) (sX9_wrong l k_v0 hc44) ccX9_wrong tw_928 tw_930 tp_23 (ci := 9) rfl (by decide) ⟨Nat.le_of_ble_eq_true rfl, Nat.le_of_ble_eq_true rfl, Nat.le_of_ble_eq_true rfl, Nat.le_of_ble_eq_true rfl⟩ dX9_readD_44 rfl k_v0 rfl (Nat.le_of_ble_eq_true rfl) rfl rfl (fun hr44 => ?_)
    cases hf
    exact a_zret dX9_readD_47 rfl rfl rfl (hr44.2 rfl _ rfl)
  refine a_iload_n dX9_readD_48 rfl rfl ?_
  refine a_iload_n dX9_readD_49 rfl rfl ?_
  refine a_isub dX9_readD_50 rfl ?_
  refine a_bipush (v := nI 8) dX9_readD_51 rfl (by decide) ?_
  refine a_icmp_ge (t := 64) dX9_readD_53 rfl rfl hf (fun _ hf => ?_) (fun _ hf => ?_)
  · refine a_sipush (v := nI 1002) dX9_readD_64 rfl (by decide) ?_
    refine a_aload_n dX9_readD_67 rfl rfl ?_
    refine a_getR fl_RX9_35 dX9_readD_68 rfl k_v0 rfl (by decide) hf (fun b68 n_b68 _ k_b68 hf => ?_)
    refine a_sipush (v := nI 1001) dX9_readD_71 rfl (by decide) ?_
    refine a_iald dX9_readD_74 rfl k_b68 hf (fun hf => ?_)
    refine a_bipush (v := nI 60) dX9_readD_75 rfl (by decide) ?_
    refine a_imul dX9_readD_77 rfl ?_
    refine a_iadd dX9_readD_78 rfl ?_
    refine a_nmI hf (fun x79 hf => ?_)
    refine a_istore (L' := [some (.ref v0), none, some (.int v2), some (.int v3), some (.int x79), none, none, none, none, none, none]) dX9_readD_79 rfl (Nat.le_of_ble_eq_true rfl) (fun _ _ hv => by cases hv; rfl) rfl ?_
    refine a_aload_n dX9_readD_81 rfl rfl ?_
    refine a_getR fl_RX9_35 dX9_readD_82 rfl k_v0 rfl (by decide) hf (fun b82 n_b82 _ k_b82 hf => ?_)
    refine a_sipush (v := nI 1001) dX9_readD_85 rfl (by decide) ?_
    refine a_iald dX9_readD_88 rfl k_b82 hf (fun hf => ?_)
    refine a_if_ne (t := 96) dX9_readD_89 rfl rfl hf (fun _ hf => ?_) (fun _ hf => ?_)
    · refine a_iconst (v := nI 1) dX9_readD_92 rfl (by decide) ?_
      refine a_goto (t := 97) dX9_readD_93 rfl ?_
      exact AW.weak (wX9_readD_97 l hk11 v0 v2 v3 x79 (nI 1) h _ k_v0 hf) ⟨rfl, ⟨rfl, ⟨rfl, ⟨rfl, trivial⟩⟩⟩⟩
    refine a_iconst (v := nI 0) dX9_readD_96 rfl (by decide) ?_
    exact AW.weak (wX9_readD_97 l hk11 v0 v2 v3 x79 (nI 0) h _ k_v0 hf) ⟨rfl, ⟨rfl, ⟨rfl, ⟨rfl, trivial⟩⟩⟩⟩
  refine a_aload_n dX9_readD_56 rfl rfl ?_
  refine a_bipush (v := nI 8) dX9_readD_57 rfl (by decide) ?_
  refine a_iload_n dX9_readD_59 rfl rfl ?_
  obtain ⟨r60, h60, hc60, hf⟩ := am_bind_some hf
  refine a_callV (As := [.int (nI 8), .int v2]) (r1 := (some (.int r60), Γ, h60)) (sX9_wrong l k_v0 hc60) ccX9_wrong tw_928 tw_930 tp_23 (ci := 9) rfl (by decide) ⟨Nat.le_of_ble_eq_true rfl, Nat.le_of_ble_eq_true rfl, Nat.le_of_ble_eq_true rfl, Nat.le_of_ble_eq_true rfl⟩ dX9_readD_60 rfl k_v0 rfl (Nat.le_of_ble_eq_true rfl) rfl rfl (fun hr60 => ?_)
  cases hf
  exact a_zret dX9_readD_63 rfl rfl rfl (hr60.2 rfl _ rfl)
set_option maxRecDepth 100000 in
set_option maxHeartbeats 4000000 in
theorem wX9_readD_11 (l : Launch) {Γ : Gm} {r : Int32} {h' : AH} : ∀ (z : Nat) (v0 : Nat) (v2 : Int32) (v3 : Int32) (h : AH), ∀ n_v0 : Nat, Γ[v0]? = some (9, n_v0) → fX9_readD_11 Γ z v0 v2 v3 h = some (r, h') → AW l mX9_readD (some (.int r), Γ, h') 0 0 11 [some (.ref v0), none, some (.int v2), some (.int v3), none, none, none, none, none, none, none] [] Γ h := by
  intro z
  induction z with
  | zero => intro v0 v2 v3 h n_v0 k_v0 hf; cases hf
  | succ z ih =>
    intro v0 v2 v3 h n_v0 k_v0 hf
    unfold fX9_readD_11 at hf
    refine a_iload_n dX9_readD_11 rfl rfl ?_
    refine a_iload_n dX9_readD_12 rfl rfl ?_
    refine a_icmp_lt (t := 27) dX9_readD_13 rfl rfl hf (fun _ hf => ?_) (fun _ hf => ?_)
    · exact AW.weak (wX9_readD_27 l ih v0 v2 v3 h _ k_v0 hf) ⟨rfl, ⟨rfl, ⟨rfl, trivial⟩⟩⟩
    refine a_aload_n dX9_readD_16 rfl rfl ?_
    refine a_getR fl_RX9_35 dX9_readD_17 rfl k_v0 rfl (by decide) hf (fun b17 n_b17 _ k_b17 hf => ?_)
    refine a_sipush (v := nI 1001) dX9_readD_20 rfl (by decide) ?_
    refine a_iald dX9_readD_23 rfl k_b17 hf (fun hf => ?_)
    refine a_if_ne (t := 545) dX9_readD_24 rfl rfl hf (fun _ hf => ?_) (fun _ hf => ?_)
    · exact AW.weak (wX9_readD_27 l ih v0 v2 v3 h _ k_v0 hf) ⟨rfl, ⟨rfl, ⟨rfl, trivial⟩⟩⟩
    refine a_iconst (v := nI 1) dX9_readD_545 rfl (by decide) ?_
    cases hf
    exact a_zret dX9_readD_546 rfl rfl rfl (by decide)
set_option maxRecDepth 100000 in
set_option maxHeartbeats 4000000 in
theorem sX9_readD (l : Launch) {Γ : Gm} {h h' : AH} {v0 : Nat} {v1 : Int32} {v2 : Int32} {r : Int32} {n_v0 : Nat} (k_v0 : Γ[v0]? = some (9, n_v0)) (hf : fX9_readD Γ v0 v1 v2 h = some (r, h')) : AR l yX9_readD mX9_readD [.ref v0, .int v1, .int v2] Γ h (some (.int r), Γ, h') := by
  refine AR.of [some (.ref v0), some (.int v1), some (.int v2), none, none, none, none, none, none, none, none] (by decide +kernel) rfl (fun z => by cases z) (Nat.le_of_ble_eq_true rfl) ⟨rfl, ⟨rfl, ⟨rfl, trivial⟩⟩⟩ ?_
  unfold fX9_readD at hf
  refine a_aload_n dX9_readD_0 rfl rfl ?_
  refine a_getR fl_RX9_35 dX9_readD_1 rfl k_v0 rfl (by decide) hf (fun b1 n_b1 _ k_b1 hf => ?_)
  refine a_sipush (v := nI 1001) dX9_readD_4 rfl (by decide) ?_
  refine a_iconst (v := nI 0) dX9_readD_7 rfl (by decide) ?_
  refine a_iast dX9_readD_8 rfl k_b1 hf (fun h8 hf => ?_)
  refine a_iload_n dX9_readD_9 rfl rfl ?_
  refine a_istore_n (L' := [some (.ref v0), some (.int v1), some (.int v2), some (.int v1), none, none, none, none, none, none, none]) dX9_readD_10 rfl (Nat.le_of_ble_eq_true rfl) (fun _ _ hv => by cases hv; rfl) rfl ?_
  exact AW.weak (wX9_readD_11 l am_fuel v0 v2 v1 h8 _ k_v0 hf) ⟨rfl, ⟨rfl, ⟨rfl, trivial⟩⟩⟩
