set_option maxRecDepth 100000 in
set_option maxHeartbeats 4000000 in
theorem sX8_feed (l : Launch) {Γ : Gm} {h h' : AH} {v0 : Nat} {v1 : Int32} {v2 : Int32} {v3 : Int32} {v4 : Int32} {v5 : Int32} {r : Int32} {n_v0 : Nat} (k_v0 : Γ[v0]? = some (8, n_v0)) (hf : fX8_feed Γ v0 v1 v2 v3 v4 v5 h = some (r, h')) : AR l yX8_feed mX8_feed [.ref v0, .int v1, .int v2, .int v3, .int v4, .int v5] Γ h (some (.int r), Γ, h') := by
  refine AR.of [some (.ref v0), some (.int v1), some (.int v2), some (.int v3), some (.int v4), some (.int v5)] (by decide +kernel) rfl (fun z => by cases z) (Nat.le_of_ble_eq_true rfl) ⟨rfl, ⟨rfl, ⟨rfl, ⟨rfl, ⟨rfl, ⟨rfl, trivial⟩⟩⟩⟩⟩⟩ ?_
  unfold fX8_feed at hf
  refine a_aload_n dX8_feed_0 rfl rfl ?_
  refine a_getR fl_RX8_27 dX8_feed_1 rfl k_v0 rfl (by decide) hf (fun b1 n_b1 _ k_b1 hf => ?_)
  obtain ⟨r4, h4, hc4, hf⟩ := am_bind_some hf
  refine a_callV (As := []) (r1 := (some (.int r4), Γ, h4)) (sX0_room l k_b1 hc4) ccX0_room tw_281 tw_282 tw_283 (ci := 0) rfl (by decide) ⟨Nat.le_of_ble_eq_true rfl, Nat.le_of_ble_eq_true rfl, Nat.le_of_ble_eq_true rfl, Nat.le_of_ble_eq_true rfl⟩ dX8_feed_4 rfl k_b1 rfl (Nat.le_of_ble_eq_true rfl) rfl rfl (fun hr4 => ?_)
  refine a_bipush (v := nI 20) dX8_feed_7 rfl (by decide) ?_
  refine a_icmp_ge (t := 15) dX8_feed_9 rfl rfl hf (fun _ hf => ?_) (fun _ hf => ?_)
  · refine a_aload_n dX8_feed_15 rfl rfl ?_
    refine a_getR fl_RX8_27 dX8_feed_16 rfl k_v0 rfl (by decide) hf (fun b16 n_b16 _ k_b16 hf => ?_)
    refine a_iload_n dX8_feed_19 rfl rfl ?_
    refine a_iconst (v := nI 4) dX8_feed_20 rfl (by decide) ?_
    obtain ⟨r21, h21, hc21, hf⟩ := am_bind_some hf
    refine a_callV (As := [.int v1, .int (nI 4)]) (r1 := (none, Γ, h21)) (sX0_addNumber l k_b16 hc21) ccX0_addNumber tw_285 tw_286 tw_287 (ci := 0) rfl (by decide) ⟨Nat.le_of_ble_eq_true rfl, Nat.le_of_ble_eq_true rfl, Nat.le_of_ble_eq_true rfl, Nat.le_of_ble_eq_true rfl⟩ dX8_feed_21 rfl k_b16 rfl (Nat.le_of_ble_eq_true rfl) rfl rfl (fun hr21 => ?_)
    refine a_aload_n dX8_feed_24 rfl rfl ?_
    refine a_getR fl_RX8_27 dX8_feed_25 rfl k_v0 rfl (by decide) hf (fun b25 n_b25 _ k_b25 hf => ?_)
    refine a_iload_n dX8_feed_28 rfl rfl ?_
    refine a_iconst (v := nI 4) dX8_feed_29 rfl (by decide) ?_
    obtain ⟨r30, h30, hc30, hf⟩ := am_bind_some hf
    refine a_callV (As := [.int v2, .int (nI 4)]) (r1 := (none, Γ, h30)) (sX0_addNumber l k_b25 hc30) ccX0_addNumber tw_285 tw_286 tw_287 (ci := 0) rfl (by decide) ⟨Nat.le_of_ble_eq_true rfl, Nat.le_of_ble_eq_true rfl, Nat.le_of_ble_eq_true rfl, Nat.le_of_ble_eq_true rfl⟩ dX8_feed_30 rfl k_b25 rfl (Nat.le_of_ble_eq_true rfl) rfl rfl (fun hr30 => ?_)
    refine a_aload_n dX8_feed_33 rfl rfl ?_
    refine a_getR fl_RX8_27 dX8_feed_34 rfl k_v0 rfl (by decide) hf (fun b34 n_b34 _ k_b34 hf => ?_)
    refine a_iload_n dX8_feed_37 rfl rfl ?_
    refine a_iconst (v := nI 4) dX8_feed_38 rfl (by decide) ?_
    obtain ⟨r39, h39, hc39, hf⟩ := am_bind_some hf
    refine a_callV (As := [.int v3, .int (nI 4)]) (r1 := (none, Γ, h39)) (sX0_addNumber l k_b34 hc39) ccX0_addNumber tw_285 tw_286 tw_287 (ci := 0) rfl (by decide) ⟨Nat.le_of_ble_eq_true rfl, Nat.le_of_ble_eq_true rfl, Nat.le_of_ble_eq_true rfl, Nat.le_of_ble_eq_true rfl⟩ dX8_feed_39 rfl k_b34 rfl (Nat.le_of_ble_eq_true rfl) rfl rfl (fun hr39 => ?_)
    refine a_aload_n dX8_feed_42 rfl rfl ?_
    refine a_getR fl_RX8_27 dX8_feed_43 rfl k_v0 rfl (by decide) hf (fun b43 n_b43 _ k_b43 hf => ?_)
    refine a_iload dX8_feed_46 rfl rfl ?_
    refine a_iconst (v := nI 4) dX8_feed_48 rfl (by decide) ?_
    obtain ⟨r49, h49, hc49, hf⟩ := am_bind_some hf
    refine a_callV (As := [.int v4, .int (nI 4)]) (r1 := (none, Γ, h49)) (sX0_addNumber l k_b43 hc49) ccX0_addNumber tw_285 tw_286 tw_287 (ci := 0) rfl (by decide) ⟨Nat.le_of_ble_eq_true rfl, Nat.le_of_ble_eq_true rfl, Nat.le_of_ble_eq_true rfl, Nat.le_of_ble_eq_true rfl⟩ dX8_feed_49 rfl k_b43 rfl (Nat.le_of_ble_eq_true rfl) rfl rfl (fun hr49 => ?_)
    refine a_aload_n dX8_feed_52 rfl rfl ?_
    refine a_getR fl_RX8_27 dX8_feed_53 rfl k_v0 rfl (by decide) hf (fun b53 n_b53 _ k_b53 hf => ?_)
    refine a_iload dX8_feed_56 rfl rfl ?_
    refine a_iconst (v := nI 4) dX8_feed_58 rfl (by decide) ?_
    obtain ⟨r59, h59, hc59, hf⟩ := am_bind_some hf
    refine a_callV (As := [.int v5, .int (nI 4)]) (r1 := (none, Γ, h59)) (sX0_addNumber l k_b53 hc59) ccX0_addNumber tw_285 tw_286 tw_287 (ci := 0) rfl (by decide) ⟨Nat.le_of_ble_eq_true rfl, Nat.le_of_ble_eq_true rfl, Nat.le_of_ble_eq_true rfl, Nat.le_of_ble_eq_true rfl⟩ dX8_feed_59 rfl k_b53 rfl (Nat.le_of_ble_eq_true rfl) rfl rfl (fun hr59 => ?_)
    refine a_aload_n dX8_feed_62 rfl rfl ?_
    refine a_getR fl_RX8_27 dX8_feed_63 rfl k_v0 rfl (by decide) hf (fun b63 n_b63 _ k_b63 hf => ?_)
    refine a_getI fl_RX8_101 dX8_feed_66 rfl k_b63 rfl ?_
    cases hf
    exact a_iret dX8_feed_69 rfl rfl rfl (by decide)
  refine a_bipush (v := (-3 : Int32)) dX8_feed_12 rfl (by decide) ?_
  cases hf
  exact a_iret dX8_feed_14 rfl rfl rfl (by decide)
set_option maxRecDepth 100000 in
set_option maxHeartbeats 4000000 in
theorem sX8_within (l : Launch) {Γ : Gm} {h h' : AH} {v0 : Int32} {v1 : Int32} {r : Int32} (hf : fX8_within Γ v0 v1 h = some (r, h')) : AR l yX8_within mX8_within [.int v0, .int v1] Γ h (some (.int r), Γ, h') := by
  refine AR.of [some (.int v0), some (.int v1)] (by decide +kernel) rfl (fun z => by cases z) (Nat.le_of_ble_eq_true rfl) ⟨rfl, ⟨rfl, trivial⟩⟩ ?_
  unfold fX8_within at hf
  refine a_iload_n dX8_within_0 rfl rfl ?_
  refine a_if_lt (t := 13) dX8_within_1 rfl rfl hf (fun _ hf => ?_) (fun _ hf => ?_)
  · refine a_iconst (v := nI 0) dX8_within_13 rfl (by decide) ?_
    cases hf
    exact a_zret dX8_within_14 rfl rfl rfl (by decide)
  refine a_iload_n dX8_within_4 rfl rfl ?_
  refine a_iload_n dX8_within_5 rfl rfl ?_
  refine a_icmp_gt (t := 13) dX8_within_6 rfl rfl hf (fun _ hf => ?_) (fun _ hf => ?_)
  · refine a_iconst (v := nI 0) dX8_within_13 rfl (by decide) ?_
    cases hf
    exact a_zret dX8_within_14 rfl rfl rfl (by decide)
  refine a_iconst (v := nI 1) dX8_within_9 rfl (by decide) ?_
  refine a_goto (t := 14) dX8_within_10 rfl ?_
  cases hf
  exact a_zret dX8_within_14 rfl rfl rfl (by decide)
set_option maxRecDepth 100000 in
set_option maxHeartbeats 4000000 in
theorem sX8_end (l : Launch) {Γ : Gm} {h h' : AH} {v0 : Nat} {v1 : Int32} {r : Int32} {n_v0 : Nat} (k_v0 : Γ[v0]? = some (8, n_v0)) (hf : fX8_end Γ v0 v1 h = some (r, h')) : AR l yX8_end mX8_end [.ref v0, .int v1] Γ h (some (.int r), Γ, h') := by
  refine AR.of [some (.ref v0), some (.int v1), none] (by decide +kernel) rfl (fun z => by cases z) (Nat.le_of_ble_eq_true rfl) ⟨rfl, ⟨rfl, trivial⟩⟩ ?_
  unfold fX8_end at hf
  refine a_iload_n dX8_end_0 rfl rfl ?_
  refine a_aload_n dX8_end_1 rfl rfl ?_
  refine a_getR fl_RX8_27 dX8_end_2 rfl k_v0 rfl (by decide) hf (fun b2 n_b2 _ k_b2 hf => ?_)
  refine a_getI fl_RX8_101 dX8_end_5 rfl k_b2 rfl ?_
  obtain ⟨r8, h8, hc8, hf⟩ := am_bind_some hf
  refine a_callS (As := [.int v1, .int (h.1 b2 1)]) (r1 := (some (.int r8), Γ, h8)) (sX8_within l hc8) ccX8_within tw_297 tw_298 ⟨Nat.le_of_ble_eq_true rfl, Nat.le_of_ble_eq_true rfl, Nat.le_of_ble_eq_true rfl, Nat.le_of_ble_eq_true rfl⟩ dX8_end_8 rfl rfl (Nat.le_of_ble_eq_true rfl) rfl rfl (fun hr8 => ?_)
  refine a_if_ne (t := 16) dX8_end_11 rfl rfl hf (fun _ hf => ?_) (fun _ hf => ?_)
  · refine a_iconst (v := (-1 : Int32)) dX8_end_14 rfl (by decide) ?_
    cases hf
    exact a_iret dX8_end_15 rfl rfl rfl (by decide)
  refine a_aload_n dX8_end_16 rfl rfl ?_
  refine a_getR fl_RX8_27 dX8_end_17 rfl k_v0 rfl (by decide) hf (fun b17 n_b17 _ k_b17 hf => ?_)
  refine a_getI fl_RX8_101 dX8_end_20 rfl k_b17 rfl ?_
  refine a_iload_n dX8_end_23 rfl rfl ?_
  refine a_isub dX8_end_24 rfl ?_
  refine a_nmI hf (fun x25 hf => ?_)
  refine a_istore_n (L' := [some (.ref v0), some (.int v1), some (.int x25)]) dX8_end_25 rfl (Nat.le_of_ble_eq_true rfl) (fun _ _ hv => by cases hv; rfl) rfl ?_
  refine a_aload_n dX8_end_26 rfl rfl ?_
  refine a_getR fl_RX8_27 dX8_end_27 rfl k_v0 rfl (by decide) hf (fun b27 n_b27 _ k_b27 hf => ?_)
  refine a_iload_n dX8_end_30 rfl rfl ?_
  obtain ⟨r31, h31, hc31, hf⟩ := am_bind_some hf
  refine a_callV (As := [.int v1]) (r1 := (none, Γ, h31)) (sX0_keepFirst l k_b27 hc31) ccX0_keepFirst tw_300 tw_301 tw_302 (ci := 0) rfl (by decide) ⟨Nat.le_of_ble_eq_true rfl, Nat.le_of_ble_eq_true rfl, Nat.le_of_ble_eq_true rfl, Nat.le_of_ble_eq_true rfl⟩ dX8_end_31 rfl k_b27 rfl (Nat.le_of_ble_eq_true rfl) rfl rfl (fun hr31 => ?_)
  refine a_iload_n dX8_end_34 rfl rfl ?_
  cases hf
  exact a_iret dX8_end_35 rfl rfl rfl (by decide)
set_option maxRecDepth 100000 in
set_option maxHeartbeats 4000000 in
theorem sX8_out (l : Launch) {Γ : Gm} {h h' : AH} {v0 : Nat} {v1 : Int32} {r : Int32} {n_v0 : Nat} (k_v0 : Γ[v0]? = some (8, n_v0)) (hf : fX8_out Γ v0 v1 h = some (r, h')) : AR l yX8_out mX8_out [.ref v0, .int v1] Γ h (some (.int r), Γ, h') := by
  refine AR.of [some (.ref v0), some (.int v1)] (by decide +kernel) rfl (fun z => by cases z) (Nat.le_of_ble_eq_true rfl) ⟨rfl, ⟨rfl, trivial⟩⟩ ?_
  unfold fX8_out at hf
  refine a_iload_n dX8_out_0 rfl rfl ?_
  refine a_aload_n dX8_out_1 rfl rfl ?_
  refine a_getR fl_RX8_31 dX8_out_2 rfl k_v0 rfl (by decide) hf (fun b2 n_b2 _ k_b2 hf => ?_)
  refine a_getI fl_RX8_101 dX8_out_5 rfl k_b2 rfl ?_
  refine a_iconst (v := nI 1) dX8_out_8 rfl (by decide) ?_
  refine a_isub dX8_out_9 rfl ?_
  obtain ⟨r10, h10, hc10, hf⟩ := am_bind_some hf
  refine a_callS (As := [.int v1, .int ((h.1 b2 1) - (nI 1))]) (r1 := (some (.int r10), Γ, h10)) (sX8_within l hc10) ccX8_within tw_297 tw_298 ⟨Nat.le_of_ble_eq_true rfl, Nat.le_of_ble_eq_true rfl, Nat.le_of_ble_eq_true rfl, Nat.le_of_ble_eq_true rfl⟩ dX8_out_10 rfl rfl (Nat.le_of_ble_eq_true rfl) rfl rfl (fun hr10 => ?_)
  refine a_if_eq (t := 27) dX8_out_13 rfl rfl hf (fun _ hf => ?_) (fun _ hf => ?_)
  · refine a_iconst (v := (-1 : Int32)) dX8_out_27 rfl (by decide) ?_
    cases hf
    exact a_iret dX8_out_28 rfl rfl rfl (by decide)
  refine a_aload_n dX8_out_16 rfl rfl ?_
  refine a_getR fl_RX8_31 dX8_out_17 rfl k_v0 rfl (by decide) hf (fun b17 n_b17 _ k_b17 hf => ?_)
  refine a_iload_n dX8_out_20 rfl rfl ?_
  obtain ⟨r21, h21, hc21, hf⟩ := am_bind_some hf
  refine a_callV (As := [.int v1]) (r1 := (some (.int r21), Γ, h21)) (sX0_at l k_b17 hc21) ccX0_at tw_308 tw_309 tw_310 (ci := 0) rfl (by decide) ⟨Nat.le_of_ble_eq_true rfl, Nat.le_of_ble_eq_true rfl, Nat.le_of_ble_eq_true rfl, Nat.le_of_ble_eq_true rfl⟩ dX8_out_21 rfl k_b17 rfl (Nat.le_of_ble_eq_true rfl) rfl rfl (fun hr21 => ?_)
  refine a_goto (t := 28) dX8_out_24 rfl ?_
  cases hf
  exact a_iret dX8_out_28 rfl rfl rfl (by decide)
set_option maxRecDepth 100000 in
set_option maxHeartbeats 4000000 in
theorem sX8_fillTape (l : Launch) {Γ : Gm} {h h' : AH} {v0 : Nat} {v1 : Nat} {r : Int32} {n_v0 : Nat} (k_v0 : Γ[v0]? = some (8, n_v0)) {n_v1 : Nat} (k_v1 : Γ[v1]? = some (0, n_v1)) (hf : fX8_fillTape Γ v0 v1 h = some (r, h')) : AR l yX8_fillTape mX8_fillTape [.ref v0, .ref v1] Γ h (some (.int r), Γ, h') := by
  refine AR.of [some (.ref v0), some (.ref v1)] (by decide +kernel) rfl (fun z => by cases z) (Nat.le_of_ble_eq_true rfl) ⟨rfl, ⟨rfl, trivial⟩⟩ ?_
  unfold fX8_fillTape at hf
  refine a_aload_n dX8_fillTape_0 rfl rfl ?_
  refine a_getI fl_RX8_101 dX8_fillTape_1 rfl k_v1 rfl ?_
  refine a_sipush (v := nI 2000) dX8_fillTape_4 rfl (by decide) ?_
  refine a_icmp_le (t := 13) dX8_fillTape_7 rfl rfl hf (fun _ hf => ?_) (fun _ hf => ?_)
  · refine a_aload_n dX8_fillTape_13 rfl rfl ?_
    refine a_getR fl_RX8_27 dX8_fillTape_14 rfl k_v0 rfl (by decide) hf (fun b14 n_b14 _ k_b14 hf => ?_)
    refine a_aload_n dX8_fillTape_17 rfl rfl ?_
    obtain ⟨r18, h18, hc18, hf⟩ := am_bind_some hf
    refine a_callV (As := [.ref v1]) (r1 := (none, Γ, h18)) (sX0_copyOf l k_b14 k_v1 hc18) ccX0_copyOf tw_320 tw_321 tw_322 (ci := 0) rfl (by decide) ⟨Nat.le_of_ble_eq_true rfl, Nat.le_of_ble_eq_true rfl, Nat.le_of_ble_eq_true rfl, Nat.le_of_ble_eq_true rfl⟩ dX8_fillTape_18 rfl k_b14 rfl (Nat.le_of_ble_eq_true rfl) rfl rfl (fun hr18 => ?_)
    refine a_aload_n dX8_fillTape_21 rfl rfl ?_
    refine a_getR fl_RX8_27 dX8_fillTape_22 rfl k_v0 rfl (by decide) hf (fun b22 n_b22 _ k_b22 hf => ?_)
    refine a_getI fl_RX8_101 dX8_fillTape_25 rfl k_b22 rfl ?_
    cases hf
    exact a_iret dX8_fillTape_28 rfl rfl rfl (by decide)
  refine a_bipush (v := (-3 : Int32)) dX8_fillTape_10 rfl (by decide) ?_
  cases hf
  exact a_iret dX8_fillTape_12 rfl rfl rfl (by decide)
set_option maxRecDepth 100000 in
set_option maxHeartbeats 4000000 in
theorem sX8_back (l : Launch) {Γ : Gm} {h h' : AH} {v0 : Nat} {r : Int32} {n_v0 : Nat} (k_v0 : Γ[v0]? = some (8, n_v0)) (hf : fX8_back Γ v0 h = some (r, h')) : AR l yX8_back mX8_back [.ref v0] Γ h (some (.int r), Γ, h') := by
  refine AR.of [some (.ref v0)] (by decide +kernel) rfl (fun z => by cases z) (Nat.le_of_ble_eq_true rfl) ⟨rfl, trivial⟩ ?_
  unfold fX8_back at hf
  refine a_aload_n dX8_back_0 rfl rfl ?_
  refine a_aload_n dX8_back_1 rfl rfl ?_
  refine a_getR fl_RX8_31 dX8_back_2 rfl k_v0 rfl (by decide) hf (fun b2 n_b2 _ k_b2 hf => ?_)
  obtain ⟨r5, h5, hc5, hf⟩ := am_bind_some hf
  refine a_callV (As := [.ref b2]) (r1 := (some (.int r5), Γ, h5)) (sX8_fillTape l k_v0 k_b2 hc5) ccX8_fillTape tw_316 tw_318 tp_0 (ci := 8) rfl (by decide) ⟨Nat.le_of_ble_eq_true rfl, Nat.le_of_ble_eq_true rfl, Nat.le_of_ble_eq_true rfl, Nat.le_of_ble_eq_true rfl⟩ dX8_back_5 rfl k_v0 rfl (Nat.le_of_ble_eq_true rfl) rfl rfl (fun hr5 => ?_)
  cases hf
  exact a_iret dX8_back_8 rfl rfl rfl (by decide)
set_option maxRecDepth 100000 in
set_option maxHeartbeats 4000000 in
theorem wX8_story_69 (l : Launch) {Γ : Gm} {r : Int32} {h' : AH} (v0 : Nat) (v1 : Int32) (v2 : Int32) (h : AH) : ∀ n_v0 : Nat, Γ[v0]? = some (8, n_v0) → fX8_story_69 Γ v0 v1 v2 h = some (r, h') → AW l mX8_story (some (.int r), Γ, h') 0 0 69 [some (.ref v0), some (.int v1), some (.int v2)] [] Γ h := by
  intro n_v0 k_v0 hf
  unfold fX8_story_69 at hf
  refine a_aload_n dX8_story_69 rfl rfl ?_
  refine a_getR fl_RX8_27 dX8_story_70 rfl k_v0 rfl (by decide) hf (fun b70 n_b70 _ k_b70 hf => ?_)
  obtain ⟨r73, h73, hc73, hf⟩ := am_bind_some hf
  refine a_callV (As := []) (r1 := (none, Γ, h73)) (sX0_clear l k_b70 hc73) ccX0_clear tw_379 tw_325 tw_326 (ci := 0) rfl (by decide) ⟨Nat.le_of_ble_eq_true rfl, Nat.le_of_ble_eq_true rfl, Nat.le_of_ble_eq_true rfl, Nat.le_of_ble_eq_true rfl⟩ dX8_story_73 rfl k_b70 rfl (Nat.le_of_ble_eq_true rfl) rfl rfl (fun hr73 => ?_)
  refine a_iload_n dX8_story_76 rfl rfl ?_
  refine a_if_eq (t := 84) dX8_story_77 rfl rfl hf (fun _ hf => ?_) (fun _ hf => ?_)
  · refine a_iconst (v := (-1 : Int32)) dX8_story_84 rfl (by decide) ?_
    cases hf
    exact a_iret dX8_story_85 rfl rfl rfl (by decide)
  refine a_iload_n dX8_story_80 rfl rfl ?_
  refine a_goto (t := 85) dX8_story_81 rfl ?_
  cases hf
  exact a_iret dX8_story_85 rfl rfl rfl (by decide)
set_option maxRecDepth 100000 in
set_option maxHeartbeats 4000000 in
theorem wX8_story_28 (l : Launch) {Γ : Gm} {r : Int32} {h' : AH} (v0 : Nat) (v1 : Int32) (s0 : Int32) (h : AH) : ∀ n_v0 : Nat, Γ[v0]? = some (8, n_v0) → fX8_story_28 Γ v0 v1 s0 h = some (r, h') → AW l mX8_story (some (.int r), Γ, h') 0 0 28 [some (.ref v0), some (.int v1), none] [.int s0] Γ h := by
  intro n_v0 k_v0 hf
  unfold fX8_story_28 at hf
  refine a_istore_n (L' := [some (.ref v0), some (.int v1), some (.int s0)]) dX8_story_28 rfl (Nat.le_of_ble_eq_true rfl) (fun _ _ hv => by cases hv; rfl) rfl ?_
  refine a_iload_n dX8_story_29 rfl rfl ?_
  refine a_if_eq (t := 69) dX8_story_30 rfl rfl hf (fun _ hf => ?_) (fun _ hf => ?_)
  · exact AW.weak (wX8_story_69 l v0 v1 s0 h _ k_v0 hf) ⟨rfl, ⟨rfl, ⟨rfl, trivial⟩⟩⟩
  refine a_aload_n dX8_story_33 rfl rfl ?_
  refine a_getR fl_RX8_48 dX8_story_34 rfl k_v0 rfl (by decide) hf (fun b34 n_b34 _ k_b34 hf => ?_)
  refine a_aload_n dX8_story_37 rfl rfl ?_
  refine a_getR fl_RX8_27 dX8_story_38 rfl k_v0 rfl (by decide) hf (fun b38 n_b38 _ k_b38 hf => ?_)
  obtain ⟨r41, h41, hc41, hf⟩ := am_bind_some hf
  refine a_callV (As := [.ref b38]) (r1 := (none, Γ, h41)) (sX5_takeFrom l k_b34 k_b38 hc41) ccX5_takeFrom tw_340 tw_341 tw_342 (ci := 5) rfl (by decide) ⟨Nat.le_of_ble_eq_true rfl, Nat.le_of_ble_eq_true rfl, Nat.le_of_ble_eq_true rfl, Nat.le_of_ble_eq_true rfl⟩ dX8_story_41 rfl k_b34 rfl (Nat.le_of_ble_eq_true rfl) rfl rfl (fun hr41 => ?_)
  refine a_aload_n dX8_story_44 rfl rfl ?_
  refine a_getR fl_RX8_62 dX8_story_45 rfl k_v0 rfl (by decide) hf (fun b45 n_b45 _ k_b45 hf => ?_)
  refine a_aload_n dX8_story_48 rfl rfl ?_
  refine a_getR fl_RX8_48 dX8_story_49 rfl k_v0 rfl (by decide) hf (fun b49 n_b49 _ k_b49 hf => ?_)
  obtain ⟨r52, h52, hc52, hf⟩ := am_bind_some hf
  refine a_callV (As := [.ref b49]) (r1 := (none, Γ, h52)) (sX4_begin l k_b45 k_b49 hc52) ccX4_begin tw_349 tw_350 tw_351 (ci := 4) rfl (by decide) ⟨Nat.le_of_ble_eq_true rfl, Nat.le_of_ble_eq_true rfl, Nat.le_of_ble_eq_true rfl, Nat.le_of_ble_eq_true rfl⟩ dX8_story_52 rfl k_b45 rfl (Nat.le_of_ble_eq_true rfl) rfl rfl (fun hr52 => ?_)
  refine a_aload_n dX8_story_55 rfl rfl ?_
  refine a_getR fl_RX8_72 dX8_story_56 rfl k_v0 rfl (by decide) hf (fun b56 n_b56 _ k_b56 hf => ?_)
  obtain ⟨r59, h59, hc59, hf⟩ := am_bind_some hf
  refine a_callV (As := []) (r1 := (none, Γ, h59)) (sX6_clear l k_b56 hc59) ccX6_clear tw_369 tw_370 tw_371 (ci := 6) rfl (by decide) ⟨Nat.le_of_ble_eq_true rfl, Nat.le_of_ble_eq_true rfl, Nat.le_of_ble_eq_true rfl, Nat.le_of_ble_eq_true rfl⟩ dX8_story_59 rfl k_b56 rfl (Nat.le_of_ble_eq_true rfl) rfl rfl (fun hr59 => ?_)
  refine a_aload_n dX8_story_62 rfl rfl ?_
  refine a_getR fl_RX8_55 dX8_story_63 rfl k_v0 rfl (by decide) hf (fun b63 n_b63 _ k_b63 hf => ?_)
  obtain ⟨r66, h66, hc66, hf⟩ := am_bind_some hf
  refine a_callV (As := []) (r1 := (none, Γ, h66)) (sX2_clear l k_b63 hc66) ccX2_clear tw_374 tw_375 tw_376 (ci := 2) rfl (by decide) ⟨Nat.le_of_ble_eq_true rfl, Nat.le_of_ble_eq_true rfl, Nat.le_of_ble_eq_true rfl, Nat.le_of_ble_eq_true rfl⟩ dX8_story_66 rfl k_b63 rfl (Nat.le_of_ble_eq_true rfl) rfl rfl (fun hr66 => ?_)
  exact AW.weak (wX8_story_69 l v0 v1 s0 h66 _ k_v0 hf) ⟨rfl, ⟨rfl, ⟨rfl, trivial⟩⟩⟩
set_option maxRecDepth 100000 in
set_option maxHeartbeats 4000000 in
theorem wX8_story_27 (l : Launch) {Γ : Gm} {r : Int32} {h' : AH} (v0 : Nat) (v1 : Int32) (h : AH) : ∀ n_v0 : Nat, Γ[v0]? = some (8, n_v0) → fX8_story_27 Γ v0 v1 h = some (r, h') → AW l mX8_story (some (.int r), Γ, h') 0 0 27 [some (.ref v0), some (.int v1), none] [] Γ h := by
  intro n_v0 k_v0 hf
  unfold fX8_story_27 at hf
  refine a_iconst (v := nI 0) dX8_story_27 rfl (by decide) ?_
  exact AW.weak (wX8_story_28 l v0 v1 (nI 0) h _ k_v0 hf) ⟨rfl, ⟨rfl, trivial⟩⟩
set_option maxRecDepth 100000 in
set_option maxHeartbeats 4000000 in
theorem sX8_story (l : Launch) {Γ : Gm} {h h' : AH} {v0 : Nat} {r : Int32} {n_v0 : Nat} (k_v0 : Γ[v0]? = some (8, n_v0)) (hf : fX8_story Γ v0 h = some (r, h')) : AR l yX8_story mX8_story [.ref v0] Γ h (some (.int r), Γ, h') := by
  refine AR.of [some (.ref v0), none, none] (by decide +kernel) rfl (fun z => by cases z) (Nat.le_of_ble_eq_true rfl) ⟨rfl, trivial⟩ ?_
  unfold fX8_story at hf
  refine a_aload_n dX8_story_0 rfl rfl ?_
  refine a_getR fl_RX8_27 dX8_story_1 rfl k_v0 rfl (by decide) hf (fun b1 n_b1 _ k_b1 hf => ?_)
  refine a_getI fl_RX8_101 dX8_story_4 rfl k_b1 rfl ?_
  refine a_bipush (v := nI 10) dX8_story_7 rfl (by decide) ?_
  refine a_isub dX8_story_9 rfl ?_
  refine a_nmI hf (fun x10 hf => ?_)
  refine a_istore_n (L' := [some (.ref v0), some (.int x10), none]) dX8_story_10 rfl (Nat.le_of_ble_eq_true rfl) (fun _ _ hv => by cases hv; rfl) rfl ?_
  refine a_iload_n dX8_story_11 rfl rfl ?_
  refine a_iconst (v := nI 1) dX8_story_12 rfl (by decide) ?_
  refine a_icmp_lt (t := 27) dX8_story_13 rfl rfl hf (fun _ hf => ?_) (fun _ hf => ?_)
  · exact AW.weak (wX8_story_27 l v0 x10 h _ k_v0 hf) ⟨rfl, ⟨rfl, trivial⟩⟩
  refine a_iload_n dX8_story_16 rfl rfl ?_
  refine a_sipush (v := nI 1000) dX8_story_17 rfl (by decide) ?_
  refine a_icmp_gt (t := 27) dX8_story_20 rfl rfl hf (fun _ hf => ?_) (fun _ hf => ?_)
  · exact AW.weak (wX8_story_27 l v0 x10 h _ k_v0 hf) ⟨rfl, ⟨rfl, trivial⟩⟩
  refine a_iconst (v := nI 1) dX8_story_23 rfl (by decide) ?_
  refine a_goto (t := 28) dX8_story_24 rfl ?_
  exact AW.weak (wX8_story_28 l v0 x10 (nI 1) h _ k_v0 hf) ⟨rfl, ⟨rfl, trivial⟩⟩
set_option maxRecDepth 100000 in
set_option maxHeartbeats 4000000 in
theorem sX8_noStory (l : Launch) {Γ : Gm} {h h' : AH} {v0 : Nat} {r : Int32} {n_v0 : Nat} (k_v0 : Γ[v0]? = some (8, n_v0)) (hf : fX8_noStory Γ v0 h = some (r, h')) : AR l yX8_noStory mX8_noStory [.ref v0] Γ h (some (.int r), Γ, h') := by
  refine AR.of [some (.ref v0)] (by decide +kernel) rfl (fun z => by cases z) (Nat.le_of_ble_eq_true rfl) ⟨rfl, trivial⟩ ?_
  unfold fX8_noStory at hf
  refine a_aload_n dX8_noStory_0 rfl rfl ?_
  refine a_getR fl_RX8_48 dX8_noStory_1 rfl k_v0 rfl (by decide) hf (fun b1 n_b1 _ k_b1 hf => ?_)
  refine a_getI fl_RX8_271 dX8_noStory_4 rfl k_b1 rfl ?_
  refine a_if_ne (t := 14) dX8_noStory_7 rfl rfl hf (fun _ hf => ?_) (fun _ hf => ?_)
  · refine a_iconst (v := nI 1) dX8_noStory_10 rfl (by decide) ?_
    refine a_goto (t := 15) dX8_noStory_11 rfl ?_
    cases hf
    exact a_zret dX8_noStory_15 rfl rfl rfl (by decide)
  refine a_iconst (v := nI 0) dX8_noStory_14 rfl (by decide) ?_
  cases hf
  exact a_zret dX8_noStory_15 rfl rfl rfl (by decide)
set_option maxRecDepth 100000 in
set_option maxHeartbeats 4000000 in
theorem sX8_poke (l : Launch) {Γ : Gm} {h h' : AH} {v0 : Nat} {v1 : Int32} {v2 : Int32} {r : Int32} {n_v0 : Nat} (k_v0 : Γ[v0]? = some (8, n_v0)) (hf : fX8_poke Γ v0 v1 v2 h = some (r, h')) : AR l yX8_poke mX8_poke [.ref v0, .int v1, .int v2] Γ h (some (.int r), Γ, h') := by
  refine AR.of [some (.ref v0), some (.int v1), some (.int v2), none] (by decide +kernel) rfl (fun z => by cases z) (Nat.le_of_ble_eq_true rfl) ⟨rfl, ⟨rfl, ⟨rfl, trivial⟩⟩⟩ ?_
  unfold fX8_poke at hf
  refine a_aload_n dX8_poke_0 rfl rfl ?_
  obtain ⟨r1, h1, hc1, hf⟩ := am_bind_some hf
  refine a_callV (As := []) (r1 := (some (.int r1), Γ, h1)) (sX8_noStory l k_v0 hc1) ccX8_noStory tw_384 tw_386 tp_1 (ci := 8) rfl (by decide) ⟨Nat.le_of_ble_eq_true rfl, Nat.le_of_ble_eq_true rfl, Nat.le_of_ble_eq_true rfl, Nat.le_of_ble_eq_true rfl⟩ dX8_poke_1 rfl k_v0 rfl (Nat.le_of_ble_eq_true rfl) rfl rfl (fun hr1 => ?_)
  refine a_if_eq (t := 10) dX8_poke_4 rfl rfl hf (fun _ hf => ?_) (fun _ hf => ?_)
  · refine a_iload_n dX8_poke_10 rfl rfl ?_
    refine a_aload_n dX8_poke_11 rfl rfl ?_
    refine a_getR fl_RX8_62 dX8_poke_12 rfl k_v0 rfl (by decide) hf (fun b12 n_b12 _ k_b12 hf => ?_)
    refine a_getI fl_RX8_136 dX8_poke_15 rfl k_b12 rfl ?_
    refine a_iconst (v := nI 1) dX8_poke_18 rfl (by decide) ?_
    refine a_isub dX8_poke_19 rfl ?_
    obtain ⟨r20, h20, hc20, hf⟩ := am_bind_some hf
    refine a_callS (As := [.int v1, .int ((h1.1 b12 2) - (nI 1))]) (r1 := (some (.int r20), Γ, h20)) (sX8_within l hc20) ccX8_within tw_297 tw_298 ⟨Nat.le_of_ble_eq_true rfl, Nat.le_of_ble_eq_true rfl, Nat.le_of_ble_eq_true rfl, Nat.le_of_ble_eq_true rfl⟩ dX8_poke_20 rfl rfl (Nat.le_of_ble_eq_true rfl) rfl rfl (fun hr20 => ?_)
    refine a_if_eq (t := 36) dX8_poke_23 rfl rfl hf (fun _ hf => ?_) (fun _ hf => ?_)
    · refine a_iconst (v := (-1 : Int32)) dX8_poke_36 rfl (by decide) ?_
      cases hf
      exact a_iret dX8_poke_37 rfl rfl rfl (by decide)
    refine a_iload_n dX8_poke_26 rfl rfl ?_
    refine a_sipush (v := nI 255) dX8_poke_27 rfl (by decide) ?_
    obtain ⟨r30, h30, hc30, hf⟩ := am_bind_some hf
    refine a_callS (As := [.int v2, .int (nI 255)]) (r1 := (some (.int r30), Γ, h30)) (sX8_within l hc30) ccX8_within tw_297 tw_298 ⟨Nat.le_of_ble_eq_true rfl, Nat.le_of_ble_eq_true rfl, Nat.le_of_ble_eq_true rfl, Nat.le_of_ble_eq_true rfl⟩ dX8_poke_30 rfl rfl (Nat.le_of_ble_eq_true rfl) rfl rfl (fun hr30 => ?_)
    refine a_if_ne (t := 38) dX8_poke_33 rfl rfl hf (fun _ hf => ?_) (fun _ hf => ?_)
    · refine a_iconst (v := (-1 : Int32)) dX8_poke_36 rfl (by decide) ?_
      cases hf
      exact a_iret dX8_poke_37 rfl rfl rfl (by decide)
    refine a_aload_n dX8_poke_38 rfl rfl ?_
    refine a_getR fl_RX8_62 dX8_poke_39 rfl k_v0 rfl (by decide) hf (fun b39 n_b39 _ k_b39 hf => ?_)
    refine a_iload_n dX8_poke_42 rfl rfl ?_
    obtain ⟨r43, h43, hc43, hf⟩ := am_bind_some hf
    refine a_callV (As := [.int v1]) (r1 := (some (.int r43), Γ, h43)) (sX4_byteAt l k_b39 hc43) ccX4_byteAt tw_388 tw_389 tw_390 (ci := 4) rfl (by decide) ⟨Nat.le_of_ble_eq_true rfl, Nat.le_of_ble_eq_true rfl, Nat.le_of_ble_eq_true rfl, Nat.le_of_ble_eq_true rfl⟩ dX8_poke_43 rfl k_b39 rfl (Nat.le_of_ble_eq_true rfl) rfl rfl (fun hr43 => ?_)
    refine a_istore_n (L' := [some (.ref v0), some (.int v1), some (.int v2), some (.int r43)]) dX8_poke_46 rfl (Nat.le_of_ble_eq_true rfl) (fun _ _ hv => by cases hv; rfl) rfl ?_
    refine a_aload_n dX8_poke_47 rfl rfl ?_
    refine a_getR fl_RX8_62 dX8_poke_48 rfl k_v0 rfl (by decide) hf (fun b48 n_b48 _ k_b48 hf => ?_)
    refine a_iload_n dX8_poke_51 rfl rfl ?_
    refine a_iload_n dX8_poke_52 rfl rfl ?_
    obtain ⟨r53, h53, hc53, hf⟩ := am_bind_some hf
    refine a_callV (As := [.int v1, .int v2]) (r1 := (none, Γ, h53)) (sX4_setByte l k_b48 hc53) ccX4_setByte tw_392 tw_358 tw_359 (ci := 4) rfl (by decide) ⟨Nat.le_of_ble_eq_true rfl, Nat.le_of_ble_eq_true rfl, Nat.le_of_ble_eq_true rfl, Nat.le_of_ble_eq_true rfl⟩ dX8_poke_53 rfl k_b48 rfl (Nat.le_of_ble_eq_true rfl) rfl rfl (fun hr53 => ?_)
    refine a_iload_n dX8_poke_56 rfl rfl ?_
    cases hf
    exact a_iret dX8_poke_57 rfl rfl rfl (by decide)
  refine a_bipush (v := (-4 : Int32)) dX8_poke_7 rfl (by decide) ?_
  cases hf
  exact a_iret dX8_poke_9 rfl rfl rfl (by decide)
set_option maxRecDepth 100000 in
set_option maxHeartbeats 4000000 in
theorem sX8_peek (l : Launch) {Γ : Gm} {h h' : AH} {v0 : Nat} {v1 : Int32} {r : Int32} {n_v0 : Nat} (k_v0 : Γ[v0]? = some (8, n_v0)) (hf : fX8_peek Γ v0 v1 h = some (r, h')) : AR l yX8_peek mX8_peek [.ref v0, .int v1] Γ h (some (.int r), Γ, h') := by
  refine AR.of [some (.ref v0), some (.int v1)] (by decide +kernel) rfl (fun z => by cases z) (Nat.le_of_ble_eq_true rfl) ⟨rfl, ⟨rfl, trivial⟩⟩ ?_
  unfold fX8_peek at hf
  refine a_aload_n dX8_peek_0 rfl rfl ?_
  obtain ⟨r1, h1, hc1, hf⟩ := am_bind_some hf
  refine a_callV (As := []) (r1 := (some (.int r1), Γ, h1)) (sX8_noStory l k_v0 hc1) ccX8_noStory tw_384 tw_386 tp_1 (ci := 8) rfl (by decide) ⟨Nat.le_of_ble_eq_true rfl, Nat.le_of_ble_eq_true rfl, Nat.le_of_ble_eq_true rfl, Nat.le_of_ble_eq_true rfl⟩ dX8_peek_1 rfl k_v0 rfl (Nat.le_of_ble_eq_true rfl) rfl rfl (fun hr1 => ?_)
  refine a_if_eq (t := 10) dX8_peek_4 rfl rfl hf (fun _ hf => ?_) (fun _ hf => ?_)
  · refine a_iload_n dX8_peek_10 rfl rfl ?_
    refine a_aload_n dX8_peek_11 rfl rfl ?_
    refine a_getR fl_RX8_62 dX8_peek_12 rfl k_v0 rfl (by decide) hf (fun b12 n_b12 _ k_b12 hf => ?_)
    refine a_getI fl_RX8_136 dX8_peek_15 rfl k_b12 rfl ?_
    refine a_iconst (v := nI 1) dX8_peek_18 rfl (by decide) ?_
    refine a_isub dX8_peek_19 rfl ?_
    obtain ⟨r20, h20, hc20, hf⟩ := am_bind_some hf
    refine a_callS (As := [.int v1, .int ((h1.1 b12 2) - (nI 1))]) (r1 := (some (.int r20), Γ, h20)) (sX8_within l hc20) ccX8_within tw_297 tw_298 ⟨Nat.le_of_ble_eq_true rfl, Nat.le_of_ble_eq_true rfl, Nat.le_of_ble_eq_true rfl, Nat.le_of_ble_eq_true rfl⟩ dX8_peek_20 rfl rfl (Nat.le_of_ble_eq_true rfl) rfl rfl (fun hr20 => ?_)
    refine a_if_eq (t := 37) dX8_peek_23 rfl rfl hf (fun _ hf => ?_) (fun _ hf => ?_)
    · refine a_iconst (v := (-1 : Int32)) dX8_peek_37 rfl (by decide) ?_
      cases hf
      exact a_iret dX8_peek_38 rfl rfl rfl (by decide)
    refine a_aload_n dX8_peek_26 rfl rfl ?_
    refine a_getR fl_RX8_62 dX8_peek_27 rfl k_v0 rfl (by decide) hf (fun b27 n_b27 _ k_b27 hf => ?_)
    refine a_iload_n dX8_peek_30 rfl rfl ?_
    obtain ⟨r31, h31, hc31, hf⟩ := am_bind_some hf
    refine a_callV (As := [.int v1]) (r1 := (some (.int r31), Γ, h31)) (sX4_byteAt l k_b27 hc31) ccX4_byteAt tw_388 tw_389 tw_390 (ci := 4) rfl (by decide) ⟨Nat.le_of_ble_eq_true rfl, Nat.le_of_ble_eq_true rfl, Nat.le_of_ble_eq_true rfl, Nat.le_of_ble_eq_true rfl⟩ dX8_peek_31 rfl k_b27 rfl (Nat.le_of_ble_eq_true rfl) rfl rfl (fun hr31 => ?_)
    refine a_goto (t := 38) dX8_peek_34 rfl ?_
    cases hf
    exact a_iret dX8_peek_38 rfl rfl rfl (by decide)
  refine a_bipush (v := (-4 : Int32)) dX8_peek_7 rfl (by decide) ?_
  cases hf
  exact a_iret dX8_peek_9 rfl rfl rfl (by decide)
set_option maxRecDepth 100000 in
set_option maxHeartbeats 4000000 in
theorem sX8_jump (l : Launch) {Γ : Gm} {h h' : AH} {v0 : Nat} {v1 : Int32} {r : Int32} {n_v0 : Nat} (k_v0 : Γ[v0]? = some (8, n_v0)) (hf : fX8_jump Γ v0 v1 h = some (r, h')) : AR l yX8_jump mX8_jump [.ref v0, .int v1] Γ h (some (.int r), Γ, h') := by
  refine AR.of [some (.ref v0), some (.int v1), none] (by decide +kernel) rfl (fun z => by cases z) (Nat.le_of_ble_eq_true rfl) ⟨rfl, ⟨rfl, trivial⟩⟩ ?_
  unfold fX8_jump at hf
  refine a_aload_n dX8_jump_0 rfl rfl ?_
  obtain ⟨r1, h1, hc1, hf⟩ := am_bind_some hf
  refine a_callV (As := []) (r1 := (some (.int r1), Γ, h1)) (sX8_noStory l k_v0 hc1) ccX8_noStory tw_384 tw_386 tp_1 (ci := 8) rfl (by decide) ⟨Nat.le_of_ble_eq_true rfl, Nat.le_of_ble_eq_true rfl, Nat.le_of_ble_eq_true rfl, Nat.le_of_ble_eq_true rfl⟩ dX8_jump_1 rfl k_v0 rfl (Nat.le_of_ble_eq_true rfl) rfl rfl (fun hr1 => ?_)
  refine a_if_eq (t := 10) dX8_jump_4 rfl rfl hf (fun _ hf => ?_) (fun _ hf => ?_)
  · refine a_iload_n dX8_jump_10 rfl rfl ?_
    refine a_ldc (v := nI 16777215) dX8_jump_11 rfl tw_401 ?_
    obtain ⟨r13, h13, hc13, hf⟩ := am_bind_some hf
    refine a_callS (As := [.int v1, .int (nI 16777215)]) (r1 := (some (.int r13), Γ, h13)) (sX8_within l hc13) ccX8_within tw_297 tw_298 ⟨Nat.le_of_ble_eq_true rfl, Nat.le_of_ble_eq_true rfl, Nat.le_of_ble_eq_true rfl, Nat.le_of_ble_eq_true rfl⟩ dX8_jump_13 rfl rfl (Nat.le_of_ble_eq_true rfl) rfl rfl (fun hr13 => ?_)
    refine a_if_ne (t := 21) dX8_jump_16 rfl rfl hf (fun _ hf => ?_) (fun _ hf => ?_)
    · refine a_iconst (v := (-1 : Int32)) dX8_jump_19 rfl (by decide) ?_
      cases hf
      exact a_iret dX8_jump_20 rfl rfl rfl (by decide)
    refine a_aload_n dX8_jump_21 rfl rfl ?_
    refine a_getR fl_RX8_62 dX8_jump_22 rfl k_v0 rfl (by decide) hf (fun b22 n_b22 _ k_b22 hf => ?_)
    refine a_getI fl_RX8_144 dX8_jump_25 rfl k_b22 rfl ?_
    refine a_nmI hf (fun x28 hf => ?_)
    refine a_istore_n (L' := [some (.ref v0), some (.int v1), some (.int x28)]) dX8_jump_28 rfl (Nat.le_of_ble_eq_true rfl) (fun _ _ hv => by cases hv; rfl) rfl ?_
    refine a_aload_n dX8_jump_29 rfl rfl ?_
    refine a_getR fl_RX8_62 dX8_jump_30 rfl k_v0 rfl (by decide) hf (fun b30 n_b30 _ k_b30 hf => ?_)
    refine a_iload_n dX8_jump_33 rfl rfl ?_
    refine a_putI fp_RX8_144 dX8_jump_34 rfl k_b30 rfl hf (fun h34 hf => ?_)
    refine a_iload_n dX8_jump_37 rfl rfl ?_
    cases hf
    exact a_iret dX8_jump_38 rfl rfl rfl (by decide)
  refine a_bipush (v := (-4 : Int32)) dX8_jump_7 rfl (by decide) ?_
  cases hf
  exact a_iret dX8_jump_9 rfl rfl rfl (by decide)
set_option maxRecDepth 100000 in
set_option maxHeartbeats 4000000 in
theorem wX8_call_31 (l : Launch) {Γ : Gm} {r : Int32} {h' : AH} (v0 : Nat) (v1 : Int32) (v2 : Int32) (v3 : Int32) (v4 : Int32) (s0 : Int32) (h : AH) : ∀ n_v0 : Nat, Γ[v0]? = some (8, n_v0) → fX8_call_31 Γ v0 v1 v2 v3 v4 s0 h = some (r, h') → AW l mX8_call (some (.int r), Γ, h') 0 0 31 [some (.ref v0), some (.int v1), some (.int v2), some (.int v3), some (.int v4), none] [.int s0] Γ h := by
  intro n_v0 k_v0 hf
  unfold fX8_call_31 at hf
  refine a_istore (L' := [some (.ref v0), some (.int v1), some (.int v2), some (.int v3), some (.int v4), some (.int s0)]) dX8_call_31 rfl (Nat.le_of_ble_eq_true rfl) (fun _ _ hv => by cases hv; rfl) rfl ?_
  refine a_iload_n dX8_call_33 rfl rfl ?_
  refine a_ldc (v := nI 16777215) dX8_call_34 rfl tw_401 ?_
  obtain ⟨r36, h36, hc36, hf⟩ := am_bind_some hf
  refine a_callS (As := [.int v1, .int (nI 16777215)]) (r1 := (some (.int r36), Γ, h36)) (sX8_within l hc36) ccX8_within tw_297 tw_298 ⟨Nat.le_of_ble_eq_true rfl, Nat.le_of_ble_eq_true rfl, Nat.le_of_ble_eq_true rfl, Nat.le_of_ble_eq_true rfl⟩ dX8_call_36 rfl rfl (Nat.le_of_ble_eq_true rfl) rfl rfl (fun hr36 => ?_)
  refine a_if_eq (t := 66) dX8_call_39 rfl rfl hf (fun _ hf => ?_) (fun _ hf => ?_)
  · refine a_iconst (v := (-1 : Int32)) dX8_call_66 rfl (by decide) ?_
    cases hf
    exact a_iret dX8_call_67 rfl rfl rfl (by decide)
  refine a_iload dX8_call_42 rfl rfl ?_
  refine a_if_eq (t := 66) dX8_call_44 rfl rfl hf (fun _ hf => ?_) (fun _ hf => ?_)
  · refine a_iconst (v := (-1 : Int32)) dX8_call_66 rfl (by decide) ?_
    cases hf
    exact a_iret dX8_call_67 rfl rfl rfl (by decide)
  refine a_iload_n dX8_call_47 rfl rfl ?_
  refine a_bipush (v := nI 7) dX8_call_48 rfl (by decide) ?_
  obtain ⟨r50, h50, hc50, hf⟩ := am_bind_some hf
  refine a_callS (As := [.int v3, .int (nI 7)]) (r1 := (some (.int r50), Γ, h50)) (sX8_within l hc50) ccX8_within tw_297 tw_298 ⟨Nat.le_of_ble_eq_true rfl, Nat.le_of_ble_eq_true rfl, Nat.le_of_ble_eq_true rfl, Nat.le_of_ble_eq_true rfl⟩ dX8_call_50 rfl rfl (Nat.le_of_ble_eq_true rfl) rfl rfl (fun hr50 => ?_)
  refine a_if_eq (t := 66) dX8_call_53 rfl rfl hf (fun _ hf => ?_) (fun _ hf => ?_)
  · refine a_iconst (v := (-1 : Int32)) dX8_call_66 rfl (by decide) ?_
    cases hf
    exact a_iret dX8_call_67 rfl rfl rfl (by decide)
  refine a_iload dX8_call_56 rfl rfl ?_
  refine a_bipush (v := nI 15) dX8_call_58 rfl (by decide) ?_
  obtain ⟨r60, h60, hc60, hf⟩ := am_bind_some hf
  refine a_callS (As := [.int v4, .int (nI 15)]) (r1 := (some (.int r60), Γ, h60)) (sX8_within l hc60) ccX8_within tw_297 tw_298 ⟨Nat.le_of_ble_eq_true rfl, Nat.le_of_ble_eq_true rfl, Nat.le_of_ble_eq_true rfl, Nat.le_of_ble_eq_true rfl⟩ dX8_call_60 rfl rfl (Nat.le_of_ble_eq_true rfl) rfl rfl (fun hr60 => ?_)
  refine a_if_ne (t := 68) dX8_call_63 rfl rfl hf (fun _ hf => ?_) (fun _ hf => ?_)
  · refine a_iconst (v := (-1 : Int32)) dX8_call_66 rfl (by decide) ?_
    cases hf
    exact a_iret dX8_call_67 rfl rfl rfl (by decide)
  refine a_aload_n dX8_call_68 rfl rfl ?_
  refine a_getR fl_RX8_62 dX8_call_69 rfl k_v0 rfl (by decide) hf (fun b69 n_b69 _ k_b69 hf => ?_)
  refine a_getI fl_RX8_147 dX8_call_72 rfl k_b69 rfl ?_
  refine a_bipush (v := nI 20) dX8_call_75 rfl (by decide) ?_
  refine a_icmp_lt (t := 83) dX8_call_77 rfl rfl hf (fun _ hf => ?_) (fun _ hf => ?_)
  · refine a_aload_n dX8_call_83 rfl rfl ?_
    refine a_getR fl_RX8_62 dX8_call_84 rfl k_v0 rfl (by decide) hf (fun b84 n_b84 _ k_b84 hf => ?_)
    refine a_aload_n dX8_call_87 rfl rfl ?_
    refine a_getR fl_RX8_62 dX8_call_88 rfl k_v0 rfl (by decide) hf (fun b88 n_b88 _ k_b88 hf => ?_)
    refine a_getI fl_RX8_144 dX8_call_91 rfl k_b88 rfl ?_
    refine a_iload_n dX8_call_94 rfl rfl ?_
    refine a_iload_n dX8_call_95 rfl rfl ?_
    refine a_iload dX8_call_96 rfl rfl ?_
    obtain ⟨r98, h98, hc98, hf⟩ := am_bind_some hf
    refine a_callV (As := [.int (h60.1 b88 3), .int v2, .int v3, .int v4]) (r1 := (none, Γ, h98)) (sX4_addFrame l k_b84 hc98) ccX4_addFrame tw_406 tw_362 tw_363 (ci := 4) rfl (by decide) ⟨Nat.le_of_ble_eq_true rfl, Nat.le_of_ble_eq_true rfl, Nat.le_of_ble_eq_true rfl, Nat.le_of_ble_eq_true rfl⟩ dX8_call_98 rfl k_b84 rfl (Nat.le_of_ble_eq_true rfl) rfl rfl (fun hr98 => ?_)
    refine a_aload_n dX8_call_101 rfl rfl ?_
    refine a_getR fl_RX8_62 dX8_call_102 rfl k_v0 rfl (by decide) hf (fun b102 n_b102 _ k_b102 hf => ?_)
    refine a_iload_n dX8_call_105 rfl rfl ?_
    refine a_putI fp_RX8_144 dX8_call_106 rfl k_b102 rfl hf (fun h106 hf => ?_)
    refine a_aload_n dX8_call_109 rfl rfl ?_
    refine a_getR fl_RX8_62 dX8_call_110 rfl k_v0 rfl (by decide) hf (fun b110 n_b110 _ k_b110 hf => ?_)
    refine a_getI fl_RX8_147 dX8_call_113 rfl k_b110 rfl ?_
    cases hf
    exact a_iret dX8_call_116 rfl rfl rfl (by decide)
  refine a_bipush (v := (-3 : Int32)) dX8_call_80 rfl (by decide) ?_
  cases hf
  exact a_iret dX8_call_82 rfl rfl rfl (by decide)
set_option maxRecDepth 100000 in
set_option maxHeartbeats 4000000 in
theorem wX8_call_26 (l : Launch) {Γ : Gm} {r : Int32} {h' : AH} (v0 : Nat) (v1 : Int32) (v2 : Int32) (v3 : Int32) (v4 : Int32) (h : AH) : ∀ n_v0 : Nat, Γ[v0]? = some (8, n_v0) → fX8_call_26 Γ v0 v1 v2 v3 v4 h = some (r, h') → AW l mX8_call (some (.int r), Γ, h') 0 0 26 [some (.ref v0), some (.int v1), some (.int v2), some (.int v3), some (.int v4), none] [] Γ h := by
  intro n_v0 k_v0 hf
  unfold fX8_call_26 at hf
  refine a_iconst (v := nI 1) dX8_call_26 rfl (by decide) ?_
  refine a_goto (t := 31) dX8_call_27 rfl ?_
  exact AW.weak (wX8_call_31 l v0 v1 v2 v3 v4 (nI 1) h _ k_v0 hf) ⟨rfl, ⟨rfl, ⟨rfl, ⟨rfl, ⟨rfl, trivial⟩⟩⟩⟩⟩
set_option maxRecDepth 100000 in
set_option maxHeartbeats 4000000 in
theorem sX8_call (l : Launch) {Γ : Gm} {h h' : AH} {v0 : Nat} {v1 : Int32} {v2 : Int32} {v3 : Int32} {v4 : Int32} {r : Int32} {n_v0 : Nat} (k_v0 : Γ[v0]? = some (8, n_v0)) (hf : fX8_call Γ v0 v1 v2 v3 v4 h = some (r, h')) : AR l yX8_call mX8_call [.ref v0, .int v1, .int v2, .int v3, .int v4] Γ h (some (.int r), Γ, h') := by
  refine AR.of [some (.ref v0), some (.int v1), some (.int v2), some (.int v3), some (.int v4), none] (by decide +kernel) rfl (fun z => by cases z) (Nat.le_of_ble_eq_true rfl) ⟨rfl, ⟨rfl, ⟨rfl, ⟨rfl, ⟨rfl, trivial⟩⟩⟩⟩⟩ ?_
  unfold fX8_call at hf
  refine a_aload_n dX8_call_0 rfl rfl ?_
  obtain ⟨r1, h1, hc1, hf⟩ := am_bind_some hf
  refine a_callV (As := []) (r1 := (some (.int r1), Γ, h1)) (sX8_noStory l k_v0 hc1) ccX8_noStory tw_384 tw_386 tp_1 (ci := 8) rfl (by decide) ⟨Nat.le_of_ble_eq_true rfl, Nat.le_of_ble_eq_true rfl, Nat.le_of_ble_eq_true rfl, Nat.le_of_ble_eq_true rfl⟩ dX8_call_1 rfl k_v0 rfl (Nat.le_of_ble_eq_true rfl) rfl rfl (fun hr1 => ?_)
  refine a_if_eq (t := 10) dX8_call_4 rfl rfl hf (fun _ hf => ?_) (fun _ hf => ?_)
  · refine a_iload_n dX8_call_10 rfl rfl ?_
    refine a_bipush (v := (-2 : Int32)) dX8_call_11 rfl (by decide) ?_
    refine a_icmp_eq (t := 26) dX8_call_13 rfl rfl hf (fun _ hf => ?_) (fun _ hf => ?_)
    · exact AW.weak (wX8_call_26 l v0 v1 v2 v3 v4 h1 _ k_v0 hf) ⟨rfl, ⟨rfl, ⟨rfl, ⟨rfl, ⟨rfl, trivial⟩⟩⟩⟩⟩
    refine a_iload_n dX8_call_16 rfl rfl ?_
    refine a_sipush (v := nI 255) dX8_call_17 rfl (by decide) ?_
    obtain ⟨r20, h20, hc20, hf⟩ := am_bind_some hf
    refine a_callS (As := [.int v2, .int (nI 255)]) (r1 := (some (.int r20), Γ, h20)) (sX8_within l hc20) ccX8_within tw_297 tw_298 ⟨Nat.le_of_ble_eq_true rfl, Nat.le_of_ble_eq_true rfl, Nat.le_of_ble_eq_true rfl, Nat.le_of_ble_eq_true rfl⟩ dX8_call_20 rfl rfl (Nat.le_of_ble_eq_true rfl) rfl rfl (fun hr20 => ?_)
    refine a_if_eq (t := 30) dX8_call_23 rfl rfl hf (fun _ hf => ?_) (fun _ hf => ?_)
    · refine a_iconst (v := nI 0) dX8_call_30 rfl (by decide) ?_
      exact AW.weak (wX8_call_31 l v0 v1 v2 v3 v4 (nI 0) h20 _ k_v0 hf) ⟨rfl, ⟨rfl, ⟨rfl, ⟨rfl, ⟨rfl, trivial⟩⟩⟩⟩⟩
    exact AW.weak (wX8_call_26 l v0 v1 v2 v3 v4 h20 _ k_v0 hf) ⟨rfl, ⟨rfl, ⟨rfl, ⟨rfl, ⟨rfl, trivial⟩⟩⟩⟩⟩
  refine a_bipush (v := (-4 : Int32)) dX8_call_7 rfl (by decide) ?_
  cases hf
  exact a_iret dX8_call_9 rfl rfl rfl (by decide)
