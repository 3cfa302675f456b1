set_option maxRecDepth 100000 in
set_option maxHeartbeats 4000000 in
theorem wX9_story_60 (l : Launch) {Γ : Gm} {r : Int32} {h' : AH} : ∀ (z : Nat) (v0 : Nat) (v2 : Int32) (h : AH), ∀ n_v0 : Nat, Γ[v0]? = some (9, n_v0) → fX9_story_60 Γ z v0 v2 h = some (r, h') → AW l mX9_story (some (.int r), Γ, h') 0 0 60 [some (.ref v0), none, some (.int v2)] [] Γ h := by
  intro z
  induction z with
  | zero => intro v0 v2 h n_v0 k_v0 hf; cases hf
  | succ z ih =>
    intro v0 v2 h n_v0 k_v0 hf
    unfold fX9_story_60 at hf
    refine a_iload_n dX9_story_60 rfl rfl ?_
    refine a_aload_n dX9_story_61 rfl rfl ?_
    refine a_getI fl_RX9_82 dX9_story_62 rfl k_v0 rfl ?_
    refine a_icmp_ge (t := 89) dX9_story_65 rfl rfl hf (fun _ hf => ?_) (fun _ hf => ?_)
    · refine a_aload_n dX9_story_89 rfl rfl ?_
      obtain ⟨r90, h90, hc90, hf⟩ := am_bind_some hf
      refine a_callV (As := []) (r1 := (none, Γ, h90)) (sX9_begin l k_v0 hc90) ccX9_begin tw_834 tw_836 tp_14 (ci := 9) rfl (by decide) ⟨Nat.le_of_ble_eq_true rfl, Nat.le_of_ble_eq_true rfl, Nat.le_of_ble_eq_true rfl, Nat.le_of_ble_eq_true rfl⟩ dX9_story_90 rfl k_v0 rfl (Nat.le_of_ble_eq_true rfl) rfl rfl (fun hr90 => ?_)
      refine a_aload_n dX9_story_93 rfl rfl ?_
      refine a_iconst (v := nI 0) dX9_story_94 rfl (by decide) ?_
      refine a_putI fp_RX9_88 dX9_story_95 rfl k_v0 rfl hf (fun h95 hf => ?_)
      refine a_aload_n dX9_story_98 rfl rfl ?_
      refine a_iconst (v := nI 0) dX9_story_99 rfl (by decide) ?_
      refine a_putI fp_RX9_91 dX9_story_100 rfl k_v0 rfl hf (fun h100 hf => ?_)
      refine a_aload_n dX9_story_103 rfl rfl ?_
      refine a_getI fl_RX9_82 dX9_story_104 rfl k_v0 rfl ?_
      cases hf
      exact a_iret dX9_story_107 rfl rfl rfl (by decide)
    refine a_aload_n dX9_story_68 rfl rfl ?_
    refine a_getR fl_RX9_29 dX9_story_69 rfl k_v0 rfl (by decide) hf (fun b69 n_b69 _ k_b69 hf => ?_)
    refine a_iload_n dX9_story_72 rfl rfl ?_
    refine a_aload_n dX9_story_73 rfl rfl ?_
    refine a_getR fl_RX9_9 dX9_story_74 rfl k_v0 rfl (by decide) hf (fun b74 n_b74 _ k_b74 hf => ?_)
    refine a_bipush (v := nI 10) dX9_story_77 rfl (by decide) ?_
    refine a_iload_n dX9_story_79 rfl rfl ?_
    refine a_iadd dX9_story_80 rfl ?_
    refine a_iald dX9_story_81 rfl k_b74 hf (fun hf => ?_)
    refine a_iast dX9_story_82 rfl k_b69 hf (fun h82 hf => ?_)
    refine a_iinc (v := v2 + nI 1) (L' := [some (.ref v0), none, some (.int (v2 + nI 1))]) dX9_story_83 rfl rfl rfl (Nat.le_of_ble_eq_true rfl) (fun _ _ hv => by cases hv) rfl ?_
    refine a_goto (t := 60) dX9_story_86 rfl ?_
    exact AW.weak (ih v0 (v2 + nI 1) h82 _ k_v0 hf) ⟨rfl, ⟨rfl, trivial⟩⟩
set_option maxRecDepth 100000 in
set_option maxHeartbeats 4000000 in
theorem wX9_story_26 (l : Launch) {Γ : Gm} {r : Int32} {h' : AH} : ∀ (z : Nat) (v0 : Nat) (v1 : Int32) (v2 : Int32) (h : AH), ∀ n_v0 : Nat, Γ[v0]? = some (9, n_v0) → fX9_story_26 Γ z v0 v1 v2 h = some (r, h') → AW l mX9_story (some (.int r), Γ, h') 0 0 26 [some (.ref v0), some (.int v1), some (.int v2)] [] Γ h := by
  intro z
  induction z with
  | zero => intro v0 v1 v2 h n_v0 k_v0 hf; cases hf
  | succ z ih =>
    intro v0 v1 v2 h n_v0 k_v0 hf
    unfold fX9_story_26 at hf
    refine a_iload_n dX9_story_26 rfl rfl ?_
    refine a_bipush (v := nI 10) dX9_story_27 rfl (by decide) ?_
    refine a_icmp_ge (t := 50) dX9_story_29 rfl rfl hf (fun _ hf => ?_) (fun _ hf => ?_)
    · refine a_aload_n dX9_story_50 rfl rfl ?_
      refine a_iload_n dX9_story_51 rfl rfl ?_
      refine a_bipush (v := nI 10) dX9_story_52 rfl (by decide) ?_
      refine a_isub dX9_story_54 rfl ?_
      refine a_putI fp_RX9_82 dX9_story_55 rfl k_v0 rfl hf (fun h55 hf => ?_)
      refine a_iconst (v := nI 0) dX9_story_58 rfl (by decide) ?_
      refine a_istore_n (L' := [some (.ref v0), some (.int v1), some (.int (nI 0))]) dX9_story_59 rfl (Nat.le_of_ble_eq_true rfl) (fun _ _ hv => by cases hv; rfl) rfl ?_
      exact AW.weak (wX9_story_60 l am_fuel v0 (nI 0) h55 _ k_v0 hf) ⟨rfl, ⟨rfl, trivial⟩⟩
    refine a_aload_n dX9_story_32 rfl rfl ?_
    refine a_getR fl_RX9_26 dX9_story_33 rfl k_v0 rfl (by decide) hf (fun b33 n_b33 _ k_b33 hf => ?_)
    refine a_iload_n dX9_story_36 rfl rfl ?_
    refine a_aload_n dX9_story_37 rfl rfl ?_
    refine a_getR fl_RX9_9 dX9_story_38 rfl k_v0 rfl (by decide) hf (fun b38 n_b38 _ k_b38 hf => ?_)
    refine a_iload_n dX9_story_41 rfl rfl ?_
    refine a_iald dX9_story_42 rfl k_b38 hf (fun hf => ?_)
    refine a_iast dX9_story_43 rfl k_b33 hf (fun h43 hf => ?_)
    refine a_iinc (v := v2 + nI 1) (L' := [some (.ref v0), some (.int v1), some (.int (v2 + nI 1))]) dX9_story_44 rfl rfl rfl (Nat.le_of_ble_eq_true rfl) (fun _ _ hv => by cases hv; rfl) rfl ?_
    refine a_goto (t := 26) dX9_story_47 rfl ?_
    exact AW.weak (ih v0 v1 (v2 + nI 1) h43 _ k_v0 hf) ⟨rfl, ⟨rfl, ⟨rfl, trivial⟩⟩⟩
set_option maxRecDepth 100000 in
set_option maxHeartbeats 4000000 in
theorem sX9_story (l : Launch) {Γ : Gm} {h h' : AH} {v0 : Nat} {r : Int32} {n_v0 : Nat} (k_v0 : Γ[v0]? = some (9, n_v0)) (hf : fX9_story Γ v0 h = some (r, h')) : AR l yX9_story mX9_story [.ref v0] Γ h (some (.int r), Γ, h') := by
  refine AR.of [some (.ref v0), none, none] (by decide +kernel) rfl (fun z => by cases z) (Nat.le_of_ble_eq_true rfl) ⟨rfl, trivial⟩ ?_
  unfold fX9_story at hf
  refine a_aload_n dX9_story_0 rfl rfl ?_
  refine a_getI fl_RX9_68 dX9_story_1 rfl k_v0 rfl ?_
  refine a_nmI hf (fun x4 hf => ?_)
  refine a_istore_n (L' := [some (.ref v0), some (.int x4), none]) dX9_story_4 rfl (Nat.le_of_ble_eq_true rfl) (fun _ _ hv => by cases hv; rfl) rfl ?_
  refine a_aload_n dX9_story_5 rfl rfl ?_
  refine a_iconst (v := nI 0) dX9_story_6 rfl (by decide) ?_
  refine a_putI fp_RX9_68 dX9_story_7 rfl k_v0 rfl hf (fun h7 hf => ?_)
  refine a_iload_n dX9_story_10 rfl rfl ?_
  refine a_bipush (v := nI 11) dX9_story_11 rfl (by decide) ?_
  refine a_sipush (v := nI 1010) dX9_story_13 rfl (by decide) ?_
  obtain ⟨r16, h16, hc16, hf⟩ := am_bind_some hf
  refine a_callS (As := [.int x4, .int (nI 11), .int (nI 1010)]) (r1 := (some (.int r16), Γ, h16)) (sX9_outside l hc16) ccX9_outside tw_819 tw_820 ⟨Nat.le_of_ble_eq_true rfl, Nat.le_of_ble_eq_true rfl, Nat.le_of_ble_eq_true rfl, Nat.le_of_ble_eq_true rfl⟩ dX9_story_16 rfl rfl (Nat.le_of_ble_eq_true rfl) rfl rfl (fun hr16 => ?_)
  refine a_if_eq (t := 24) dX9_story_19 rfl rfl hf (fun _ hf => ?_) (fun _ hf => ?_)
  · refine a_iconst (v := nI 0) dX9_story_24 rfl (by decide) ?_
    refine a_istore_n (L' := [some (.ref v0), some (.int x4), some (.int (nI 0))]) dX9_story_25 rfl (Nat.le_of_ble_eq_true rfl) (fun _ _ hv => by cases hv; rfl) rfl ?_
    exact AW.weak (wX9_story_26 l am_fuel v0 x4 (nI 0) h16 _ k_v0 hf) ⟨rfl, ⟨rfl, ⟨rfl, trivial⟩⟩⟩
  refine a_iconst (v := (-1 : Int32)) dX9_story_22 rfl (by decide) ?_
  cases hf
  exact a_iret dX9_story_23 rfl rfl rfl (by decide)
set_option maxRecDepth 100000 in
set_option maxHeartbeats 4000000 in
theorem sX9_bits (l : Launch) {Γ : Gm} {h h' : AH} {v0 : Nat} {r : Int32} {n_v0 : Nat} (k_v0 : Γ[v0]? = some (9, n_v0)) (hf : fX9_bits Γ v0 h = some (r, h')) : AR l yX9_bits mX9_bits [.ref v0] Γ h (some (.int r), Γ, h') := by
  refine AR.of [some (.ref v0)] (by decide +kernel) rfl (fun z => by cases z) (Nat.le_of_ble_eq_true rfl) ⟨rfl, trivial⟩ ?_
  unfold fX9_bits at hf
  refine a_aload_n dX9_bits_0 rfl rfl ?_
  refine a_getI fl_RX9_82 dX9_bits_1 rfl k_v0 rfl ?_
  refine a_bipush (v := nI 17) dX9_bits_4 rfl (by decide) ?_
  refine a_icmp_le (t := 21) dX9_bits_6 rfl rfl hf (fun _ hf => ?_) (fun _ hf => ?_)
  · refine a_iconst (v := nI 0) dX9_bits_21 rfl (by decide) ?_
    cases hf
    exact a_iret dX9_bits_22 rfl rfl rfl (by decide)
  refine a_aload_n dX9_bits_9 rfl rfl ?_
  refine a_getR fl_RX9_32 dX9_bits_10 rfl k_v0 rfl (by decide) hf (fun b10 n_b10 _ k_b10 hf => ?_)
  refine a_bipush (v := nI 17) dX9_bits_13 rfl (by decide) ?_
  refine a_iald dX9_bits_15 rfl k_b10 hf (fun hf => ?_)
  refine a_iconst (v := nI 3) dX9_bits_16 rfl (by decide) ?_
  refine a_iand dX9_bits_17 rfl ?_
  refine a_goto (t := 22) dX9_bits_18 rfl ?_
  cases hf
  exact a_iret dX9_bits_22 rfl rfl rfl (by decide)
set_option maxRecDepth 100000 in
set_option maxHeartbeats 4000000 in
theorem sX9_stay (l : Launch) {Γ : Gm} {h h' : AH} {v0 : Nat} {v1 : Int32} {r : Unit} {n_v0 : Nat} (k_v0 : Γ[v0]? = some (9, n_v0)) (hf : fX9_stay Γ v0 v1 h = some (r, h')) : AR l yX9_stay mX9_stay [.ref v0, .int v1] Γ h (none, Γ, h') := by
  refine AR.of [some (.ref v0), some (.int v1)] (by decide +kernel) rfl (fun z => by cases z) (Nat.le_of_ble_eq_true rfl) ⟨rfl, ⟨rfl, trivial⟩⟩ ?_
  unfold fX9_stay at hf
  refine a_aload_n dX9_stay_0 rfl rfl ?_
  refine a_getI fl_RX9_82 dX9_stay_1 rfl k_v0 rfl ?_
  refine a_bipush (v := nI 17) dX9_stay_4 rfl (by decide) ?_
  refine a_icmp_le (t := 29) dX9_stay_6 rfl rfl hf (fun _ hf => ?_) (fun _ hf => ?_)
  · cases hf
    exact a_ret dX9_stay_29 rfl rfl rfl
  refine a_aload_n dX9_stay_9 rfl rfl ?_
  refine a_getR fl_RX9_32 dX9_stay_10 rfl k_v0 rfl (by decide) hf (fun b10 n_b10 _ k_b10 hf => ?_)
  refine a_bipush (v := nI 17) dX9_stay_13 rfl (by decide) ?_
  refine a_aload_n dX9_stay_15 rfl rfl ?_
  refine a_getR fl_RX9_32 dX9_stay_16 rfl k_v0 rfl (by decide) hf (fun b16 n_b16 _ k_b16 hf => ?_)
  refine a_bipush (v := nI 17) dX9_stay_19 rfl (by decide) ?_
  refine a_iald dX9_stay_21 rfl k_b16 hf (fun hf => ?_)
  refine a_sipush (v := nI 252) dX9_stay_22 rfl (by decide) ?_
  refine a_iand dX9_stay_25 rfl ?_
  refine a_iload_n dX9_stay_26 rfl rfl ?_
  refine a_ior dX9_stay_27 rfl ?_
  refine a_iast dX9_stay_28 rfl k_b10 hf (fun h28 hf => ?_)
  cases hf
  exact a_ret dX9_stay_29 rfl rfl rfl
set_option maxRecDepth 100000 in
set_option maxHeartbeats 4000000 in
theorem sX9_poke (l : Launch) {Γ : Gm} {h h' : AH} {v0 : Nat} {v1 : Int32} {v2 : Int32} {r : Int32} {n_v0 : Nat} (k_v0 : Γ[v0]? = some (9, n_v0)) (hf : fX9_poke Γ v0 v1 v2 h = some (r, h')) : AR l yX9_poke mX9_poke [.ref v0, .int v1, .int v2] Γ h (some (.int r), Γ, h') := by
  refine AR.of [some (.ref v0), some (.int v1), some (.int v2), none] (by decide +kernel) rfl (fun z => by cases z) (Nat.le_of_ble_eq_true rfl) ⟨rfl, ⟨rfl, ⟨rfl, trivial⟩⟩⟩ ?_
  unfold fX9_poke at hf
  refine a_aload_n dX9_poke_0 rfl rfl ?_
  refine a_getI fl_RX9_82 dX9_poke_1 rfl k_v0 rfl ?_
  refine a_if_ne (t := 10) dX9_poke_4 rfl rfl hf (fun _ hf => ?_) (fun _ hf => ?_)
  · refine a_bipush (v := (-4 : Int32)) dX9_poke_7 rfl (by decide) ?_
    cases hf
    exact a_iret dX9_poke_9 rfl rfl rfl (by decide)
  refine a_iload_n dX9_poke_10 rfl rfl ?_
  refine a_iconst (v := nI 0) dX9_poke_11 rfl (by decide) ?_
  refine a_aload_n dX9_poke_12 rfl rfl ?_
  refine a_getI fl_RX9_82 dX9_poke_13 rfl k_v0 rfl ?_
  refine a_iconst (v := nI 1) dX9_poke_16 rfl (by decide) ?_
  refine a_isub dX9_poke_17 rfl ?_
  obtain ⟨r18, h18, hc18, hf⟩ := am_bind_some hf
  refine a_callS (As := [.int v1, .int (nI 0), .int ((h.1 v0 9) - (nI 1))]) (r1 := (some (.int r18), Γ, h18)) (sX9_outside l hc18) ccX9_outside tw_819 tw_820 ⟨Nat.le_of_ble_eq_true rfl, Nat.le_of_ble_eq_true rfl, Nat.le_of_ble_eq_true rfl, Nat.le_of_ble_eq_true rfl⟩ dX9_poke_18 rfl rfl (Nat.le_of_ble_eq_true rfl) rfl rfl (fun hr18 => ?_)
  refine a_if_ne (t := 35) dX9_poke_21 rfl rfl hf (fun _ hf => ?_) (fun _ hf => ?_)
  · refine a_iload_n dX9_poke_24 rfl rfl ?_
    refine a_iconst (v := nI 0) dX9_poke_25 rfl (by decide) ?_
    refine a_sipush (v := nI 255) dX9_poke_26 rfl (by decide) ?_
    obtain ⟨r29, h29, hc29, hf⟩ := am_bind_some hf
    refine a_callS (As := [.int v2, .int (nI 0), .int (nI 255)]) (r1 := (some (.int r29), Γ, h29)) (sX9_outside l hc29) ccX9_outside tw_819 tw_820 ⟨Nat.le_of_ble_eq_true rfl, Nat.le_of_ble_eq_true rfl, Nat.le_of_ble_eq_true rfl, Nat.le_of_ble_eq_true rfl⟩ dX9_poke_29 rfl rfl (Nat.le_of_ble_eq_true rfl) rfl rfl (fun hr29 => ?_)
    refine a_if_eq (t := 37) dX9_poke_32 rfl rfl hf (fun _ hf => ?_) (fun _ hf => ?_)
    · refine a_aload_n dX9_poke_37 rfl rfl ?_
      refine a_getR fl_RX9_32 dX9_poke_38 rfl k_v0 rfl (by decide) hf (fun b38 n_b38 _ k_b38 hf => ?_)
      refine a_iload_n dX9_poke_41 rfl rfl ?_
      refine a_iald dX9_poke_42 rfl k_b38 hf (fun hf => ?_)
      refine a_nmI hf (fun x43 hf => ?_)
      refine a_istore_n (L' := [some (.ref v0), some (.int v1), some (.int v2), some (.int x43)]) dX9_poke_43 rfl (Nat.le_of_ble_eq_true rfl) (fun _ _ hv => by cases hv; rfl) rfl ?_
      refine a_aload_n dX9_poke_44 rfl rfl ?_
      refine a_getR fl_RX9_32 dX9_poke_45 rfl k_v0 rfl (by decide) hf (fun b45 n_b45 _ k_b45 hf => ?_)
      refine a_iload_n dX9_poke_48 rfl rfl ?_
      refine a_iload_n dX9_poke_49 rfl rfl ?_
      refine a_iast dX9_poke_50 rfl k_b45 hf (fun h50 hf => ?_)
      refine a_iload_n dX9_poke_51 rfl rfl ?_
      cases hf
      exact a_iret dX9_poke_52 rfl rfl rfl (by decide)
    refine a_iconst (v := (-1 : Int32)) dX9_poke_35 rfl (by decide) ?_
    cases hf
    exact a_iret dX9_poke_36 rfl rfl rfl (by decide)
  refine a_iconst (v := (-1 : Int32)) dX9_poke_35 rfl (by decide) ?_
  cases hf
  exact a_iret dX9_poke_36 rfl rfl rfl (by decide)
set_option maxRecDepth 100000 in
set_option maxHeartbeats 4000000 in
theorem sX9_peek (l : Launch) {Γ : Gm} {h h' : AH} {v0 : Nat} {v1 : Int32} {r : Int32} {n_v0 : Nat} (k_v0 : Γ[v0]? = some (9, n_v0)) (hf : fX9_peek Γ v0 v1 h = some (r, h')) : AR l yX9_peek mX9_peek [.ref v0, .int v1] Γ h (some (.int r), Γ, h') := by
  refine AR.of [some (.ref v0), some (.int v1)] (by decide +kernel) rfl (fun z => by cases z) (Nat.le_of_ble_eq_true rfl) ⟨rfl, ⟨rfl, trivial⟩⟩ ?_
  unfold fX9_peek at hf
  refine a_aload_n dX9_peek_0 rfl rfl ?_
  refine a_getI fl_RX9_82 dX9_peek_1 rfl k_v0 rfl ?_
  refine a_if_ne (t := 12) dX9_peek_4 rfl rfl hf (fun _ hf => ?_) (fun _ hf => ?_)
  · refine a_bipush (v := (-4 : Int32)) dX9_peek_7 rfl (by decide) ?_
    refine a_goto (t := 36) dX9_peek_9 rfl ?_
    cases hf
    exact a_iret dX9_peek_36 rfl rfl rfl (by decide)
  refine a_iload_n dX9_peek_12 rfl rfl ?_
  refine a_iconst (v := nI 0) dX9_peek_13 rfl (by decide) ?_
  refine a_aload_n dX9_peek_14 rfl rfl ?_
  refine a_getI fl_RX9_82 dX9_peek_15 rfl k_v0 rfl ?_
  refine a_iconst (v := nI 1) dX9_peek_18 rfl (by decide) ?_
  refine a_isub dX9_peek_19 rfl ?_
  obtain ⟨r20, h20, hc20, hf⟩ := am_bind_some hf
  refine a_callS (As := [.int v1, .int (nI 0), .int ((h.1 v0 9) - (nI 1))]) (r1 := (some (.int r20), Γ, h20)) (sX9_outside l hc20) ccX9_outside tw_819 tw_820 ⟨Nat.le_of_ble_eq_true rfl, Nat.le_of_ble_eq_true rfl, Nat.le_of_ble_eq_true rfl, Nat.le_of_ble_eq_true rfl⟩ dX9_peek_20 rfl rfl (Nat.le_of_ble_eq_true rfl) rfl rfl (fun hr20 => ?_)
  refine a_if_eq (t := 30) dX9_peek_23 rfl rfl hf (fun _ hf => ?_) (fun _ hf => ?_)
  · refine a_aload_n dX9_peek_30 rfl rfl ?_
    refine a_getR fl_RX9_32 dX9_peek_31 rfl k_v0 rfl (by decide) hf (fun b31 n_b31 _ k_b31 hf => ?_)
    refine a_iload_n dX9_peek_34 rfl rfl ?_
    refine a_iald dX9_peek_35 rfl k_b31 hf (fun hf => ?_)
    cases hf
    exact a_iret dX9_peek_36 rfl rfl rfl (by decide)
  refine a_iconst (v := (-1 : Int32)) dX9_peek_26 rfl (by decide) ?_
  refine a_goto (t := 36) dX9_peek_27 rfl ?_
  cases hf
  exact a_iret dX9_peek_36 rfl rfl rfl (by decide)
set_option maxRecDepth 100000 in
set_option maxHeartbeats 4000000 in
theorem sX9_jump (l : Launch) {Γ : Gm} {h h' : AH} {v0 : Nat} {v1 : Int32} {r : Int32} {n_v0 : Nat} (k_v0 : Γ[v0]? = some (9, n_v0)) (hf : fX9_jump Γ v0 v1 h = some (r, h')) : AR l yX9_jump mX9_jump [.ref v0, .int v1] Γ h (some (.int r), Γ, h') := by
  refine AR.of [some (.ref v0), some (.int v1), none] (by decide +kernel) rfl (fun z => by cases z) (Nat.le_of_ble_eq_true rfl) ⟨rfl, ⟨rfl, trivial⟩⟩ ?_
  unfold fX9_jump at hf
  refine a_aload_n dX9_jump_0 rfl rfl ?_
  refine a_getI fl_RX9_82 dX9_jump_1 rfl k_v0 rfl ?_
  refine a_if_ne (t := 10) dX9_jump_4 rfl rfl hf (fun _ hf => ?_) (fun _ hf => ?_)
  · refine a_bipush (v := (-4 : Int32)) dX9_jump_7 rfl (by decide) ?_
    cases hf
    exact a_iret dX9_jump_9 rfl rfl rfl (by decide)
  refine a_iload_n dX9_jump_10 rfl rfl ?_
  refine a_iconst (v := nI 0) dX9_jump_11 rfl (by decide) ?_
  refine a_ldc (v := nI 16777215) dX9_jump_12 rfl tw_850 ?_
  obtain ⟨r14, h14, hc14, hf⟩ := am_bind_some hf
  refine a_callS (As := [.int v1, .int (nI 0), .int (nI 16777215)]) (r1 := (some (.int r14), Γ, h14)) (sX9_outside l hc14) ccX9_outside tw_819 tw_820 ⟨Nat.le_of_ble_eq_true rfl, Nat.le_of_ble_eq_true rfl, Nat.le_of_ble_eq_true rfl, Nat.le_of_ble_eq_true rfl⟩ dX9_jump_14 rfl rfl (Nat.le_of_ble_eq_true rfl) rfl rfl (fun hr14 => ?_)
  refine a_if_eq (t := 22) dX9_jump_17 rfl rfl hf (fun _ hf => ?_) (fun _ hf => ?_)
  · refine a_aload_n dX9_jump_22 rfl rfl ?_
    refine a_getR fl_RX9_32 dX9_jump_23 rfl k_v0 rfl (by decide) hf (fun b23 n_b23 _ k_b23 hf => ?_)
    refine a_sipush (v := nI 1000) dX9_jump_26 rfl (by decide) ?_
    refine a_iald dX9_jump_29 rfl k_b23 hf (fun hf => ?_)
    refine a_nmI hf (fun x30 hf => ?_)
    refine a_istore_n (L' := [some (.ref v0), some (.int v1), some (.int x30)]) dX9_jump_30 rfl (Nat.le_of_ble_eq_true rfl) (fun _ _ hv => by cases hv; rfl) rfl ?_
    refine a_aload_n dX9_jump_31 rfl rfl ?_
    refine a_getR fl_RX9_32 dX9_jump_32 rfl k_v0 rfl (by decide) hf (fun b32 n_b32 _ k_b32 hf => ?_)
    refine a_sipush (v := nI 1000) dX9_jump_35 rfl (by decide) ?_
    refine a_iload_n dX9_jump_38 rfl rfl ?_
    refine a_iast dX9_jump_39 rfl k_b32 hf (fun h39 hf => ?_)
    refine a_iload_n dX9_jump_40 rfl rfl ?_
    cases hf
    exact a_iret dX9_jump_41 rfl rfl rfl (by decide)
  refine a_iconst (v := (-1 : Int32)) dX9_jump_20 rfl (by decide) ?_
  cases hf
  exact a_iret dX9_jump_21 rfl rfl rfl (by decide)
set_option maxRecDepth 100000 in
set_option maxHeartbeats 4000000 in
theorem sX9_newest (l : Launch) {Γ : Gm} {h h' : AH} {v0 : Nat} {r : Int32} {n_v0 : Nat} (k_v0 : Γ[v0]? = some (9, n_v0)) (hf : fX9_newest Γ v0 h = some (r, h')) : AR l yX9_newest mX9_newest [.ref v0] Γ h (some (.int r), Γ, h') := by
  refine AR.of [some (.ref v0)] (by decide +kernel) rfl (fun z => by cases z) (Nat.le_of_ble_eq_true rfl) ⟨rfl, trivial⟩ ?_
  unfold fX9_newest at hf
  refine a_sipush (v := nI 1002) dX9_newest_0 rfl (by decide) ?_
  refine a_aload_n dX9_newest_3 rfl rfl ?_
  refine a_getR fl_RX9_32 dX9_newest_4 rfl k_v0 rfl (by decide) hf (fun b4 n_b4 _ k_b4 hf => ?_)
  refine a_sipush (v := nI 1001) dX9_newest_7 rfl (by decide) ?_
  refine a_iald dX9_newest_10 rfl k_b4 hf (fun hf => ?_)
  refine a_iconst (v := nI 1) dX9_newest_11 rfl (by decide) ?_
  refine a_isub dX9_newest_12 rfl ?_
  refine a_bipush (v := nI 60) dX9_newest_13 rfl (by decide) ?_
  refine a_imul dX9_newest_15 rfl ?_
  refine a_iadd dX9_newest_16 rfl ?_
  cases hf
  exact a_iret dX9_newest_17 rfl rfl rfl (by decide)
set_option maxRecDepth 100000 in
set_option maxHeartbeats 4000000 in
theorem wX9_call_97 (l : Launch) {Γ : Gm} {r : Int32} {h' : AH} : ∀ (z : Nat) (v0 : Nat) (v1 : Int32) (v2 : Int32) (v3 : Int32) (v4 : Int32) (v5 : Int32) (v6 : Int32) (h : AH), ∀ n_v0 : Nat, Γ[v0]? = some (9, n_v0) → fX9_call_97 Γ z v0 v1 v2 v3 v4 v5 v6 h = some (r, h') → AW l mX9_call (some (.int r), Γ, h') 0 0 97 [some (.ref v0), some (.int v1), some (.int v2), some (.int v3), some (.int v4), some (.int v5), some (.int v6)] [] Γ h := by
  intro z
  induction z with
  | zero => intro v0 v1 v2 v3 v4 v5 v6 h n_v0 k_v0 hf; cases hf
  | succ z ih =>
    intro v0 v1 v2 v3 v4 v5 v6 h n_v0 k_v0 hf
    unfold fX9_call_97 at hf
    refine a_iload dX9_call_97 rfl rfl ?_
    refine a_bipush (v := nI 60) dX9_call_99 rfl (by decide) ?_
    refine a_icmp_ge (t := 121) dX9_call_101 rfl rfl hf (fun _ hf => ?_) (fun _ hf => ?_)
    · refine a_aload_n dX9_call_121 rfl rfl ?_
      refine a_getR fl_RX9_32 dX9_call_122 rfl k_v0 rfl (by decide) hf (fun b122 n_b122 _ k_b122 hf => ?_)
      refine a_iload dX9_call_125 rfl rfl ?_
      refine a_aload_n dX9_call_127 rfl rfl ?_
      refine a_getR fl_RX9_32 dX9_call_128 rfl k_v0 rfl (by decide) hf (fun b128 n_b128 _ k_b128 hf => ?_)
      refine a_sipush (v := nI 1000) dX9_call_131 rfl (by decide) ?_
      refine a_iald dX9_call_134 rfl k_b128 hf (fun hf => ?_)
      refine a_iast dX9_call_135 rfl k_b122 hf (fun h135 hf => ?_)
      refine a_aload_n dX9_call_136 rfl rfl ?_
      refine a_getR fl_RX9_32 dX9_call_137 rfl k_v0 rfl (by decide) hf (fun b137 n_b137 _ k_b137 hf => ?_)
      refine a_iload dX9_call_140 rfl rfl ?_
      refine a_iconst (v := nI 1) dX9_call_142 rfl (by decide) ?_
      refine a_iadd dX9_call_143 rfl ?_
      refine a_iload_n dX9_call_144 rfl rfl ?_
      refine a_iast dX9_call_145 rfl k_b137 hf (fun h145 hf => ?_)
      refine a_aload_n dX9_call_146 rfl rfl ?_
      refine a_getR fl_RX9_32 dX9_call_147 rfl k_v0 rfl (by decide) hf (fun b147 n_b147 _ k_b147 hf => ?_)
      refine a_iload dX9_call_150 rfl rfl ?_
      refine a_iconst (v := nI 2) dX9_call_152 rfl (by decide) ?_
      refine a_iadd dX9_call_153 rfl ?_
      refine a_iload_n dX9_call_154 rfl rfl ?_
      refine a_iast dX9_call_155 rfl k_b147 hf (fun h155 hf => ?_)
      refine a_aload_n dX9_call_156 rfl rfl ?_
      refine a_getR fl_RX9_32 dX9_call_157 rfl k_v0 rfl (by decide) hf (fun b157 n_b157 _ k_b157 hf => ?_)
      refine a_iload dX9_call_160 rfl rfl ?_
      refine a_iconst (v := nI 3) dX9_call_162 rfl (by decide) ?_
      refine a_iadd dX9_call_163 rfl ?_
      refine a_iload dX9_call_164 rfl rfl ?_
      refine a_iast dX9_call_166 rfl k_b157 hf (fun h166 hf => ?_)
      refine a_aload_n dX9_call_167 rfl rfl ?_
      refine a_getR fl_RX9_32 dX9_call_168 rfl k_v0 rfl (by decide) hf (fun b168 n_b168 _ k_b168 hf => ?_)
      refine a_sipush (v := nI 1000) dX9_call_171 rfl (by decide) ?_
      refine a_iload_n dX9_call_174 rfl rfl ?_
      refine a_iast dX9_call_175 rfl k_b168 hf (fun h175 hf => ?_)
      refine a_aload_n dX9_call_176 rfl rfl ?_
      refine a_getR fl_RX9_32 dX9_call_177 rfl k_v0 rfl (by decide) hf (fun b177 n_b177 _ k_b177 hf => ?_)
      refine a_sipush (v := nI 1001) dX9_call_180 rfl (by decide) ?_
      refine a_iald dX9_call_183 rfl k_b177 hf (fun hf => ?_)
      cases hf
      exact a_iret dX9_call_184 rfl rfl rfl (by decide)
    refine a_aload_n dX9_call_104 rfl rfl ?_
    refine a_getR fl_RX9_32 dX9_call_105 rfl k_v0 rfl (by decide) hf (fun b105 n_b105 _ k_b105 hf => ?_)
    refine a_iload dX9_call_108 rfl rfl ?_
    refine a_iload dX9_call_110 rfl rfl ?_
    refine a_iadd dX9_call_112 rfl ?_
    refine a_iconst (v := nI 0) dX9_call_113 rfl (by decide) ?_
    refine a_iast dX9_call_114 rfl k_b105 hf (fun h114 hf => ?_)
    refine a_iinc (v := v6 + nI 1) (L' := [some (.ref v0), some (.int v1), some (.int v2), some (.int v3), some (.int v4), some (.int v5), some (.int (v6 + nI 1))]) dX9_call_115 rfl rfl rfl (Nat.le_of_ble_eq_true rfl) (fun _ _ hv => by cases hv; rfl) rfl ?_
    refine a_goto (t := 97) dX9_call_118 rfl ?_
    exact AW.weak (ih v0 v1 v2 v3 v4 v5 (v6 + nI 1) h114 _ k_v0 hf) ⟨rfl, ⟨rfl, ⟨rfl, ⟨rfl, ⟨rfl, ⟨rfl, ⟨rfl, trivial⟩⟩⟩⟩⟩⟩⟩
set_option maxRecDepth 100000 in
set_option maxHeartbeats 4000000 in
theorem wX9_call_37 (l : Launch) {Γ : Gm} {r : Int32} {h' : AH} (v0 : Nat) (v1 : Int32) (v2 : Int32) (v3 : Int32) (v4 : Int32) (h : AH) : ∀ n_v0 : Nat, Γ[v0]? = some (9, n_v0) → fX9_call_37 Γ v0 v1 v2 v3 v4 h = some (r, h') → AW l mX9_call (some (.int r), Γ, h') 0 0 37 [some (.ref v0), some (.int v1), some (.int v2), some (.int v3), some (.int v4), none, none] [] Γ h := by
  intro n_v0 k_v0 hf
  unfold fX9_call_37 at hf
  refine a_iload_n dX9_call_37 rfl rfl ?_
  refine a_iconst (v := nI 0) dX9_call_38 rfl (by decide) ?_
  refine a_bipush (v := nI 7) dX9_call_39 rfl (by decide) ?_
  obtain ⟨r41, h41, hc41, hf⟩ := am_bind_some hf
  refine a_callS (As := [.int v3, .int (nI 0), .int (nI 7)]) (r1 := (some (.int r41), Γ, h41)) (sX9_outside l hc41) ccX9_outside tw_819 tw_820 ⟨Nat.le_of_ble_eq_true rfl, Nat.le_of_ble_eq_true rfl, Nat.le_of_ble_eq_true rfl, Nat.le_of_ble_eq_true rfl⟩ dX9_call_41 rfl rfl (Nat.le_of_ble_eq_true rfl) rfl rfl (fun hr41 => ?_)
  refine a_if_ne (t := 58) dX9_call_44 rfl rfl hf (fun _ hf => ?_) (fun _ hf => ?_)
  · refine a_iload dX9_call_47 rfl rfl ?_
    refine a_iconst (v := nI 0) dX9_call_49 rfl (by decide) ?_
    refine a_bipush (v := nI 15) dX9_call_50 rfl (by decide) ?_
    obtain ⟨r52, h52, hc52, hf⟩ := am_bind_some hf
    refine a_callS (As := [.int v4, .int (nI 0), .int (nI 15)]) (r1 := (some (.int r52), Γ, h52)) (sX9_outside l hc52) ccX9_outside tw_819 tw_820 ⟨Nat.le_of_ble_eq_true rfl, Nat.le_of_ble_eq_true rfl, Nat.le_of_ble_eq_true rfl, Nat.le_of_ble_eq_true rfl⟩ dX9_call_52 rfl rfl (Nat.le_of_ble_eq_true rfl) rfl rfl (fun hr52 => ?_)
    refine a_if_eq (t := 60) dX9_call_55 rfl rfl hf (fun _ hf => ?_) (fun _ hf => ?_)
    · refine a_aload_n dX9_call_60 rfl rfl ?_
      refine a_getR fl_RX9_32 dX9_call_61 rfl k_v0 rfl (by decide) hf (fun b61 n_b61 _ k_b61 hf => ?_)
      refine a_sipush (v := nI 1001) dX9_call_64 rfl (by decide) ?_
      refine a_iald dX9_call_67 rfl k_b61 hf (fun hf => ?_)
      refine a_bipush (v := nI 20) dX9_call_68 rfl (by decide) ?_
      refine a_icmp_ne (t := 76) dX9_call_70 rfl rfl hf (fun _ hf => ?_) (fun _ hf => ?_)
      · refine a_bipush (v := (-3 : Int32)) dX9_call_73 rfl (by decide) ?_
        cases hf
        exact a_iret dX9_call_75 rfl rfl rfl (by decide)
      refine a_aload_n dX9_call_76 rfl rfl ?_
      refine a_getR fl_RX9_32 dX9_call_77 rfl k_v0 rfl (by decide) hf (fun b77 n_b77 _ k_b77 hf => ?_)
      refine a_sipush (v := nI 1001) dX9_call_80 rfl (by decide) ?_
      refine a_dup2 dX9_call_83 rfl rfl rfl ?_
      refine a_iald dX9_call_84 rfl k_b77 hf (fun hf => ?_)
      refine a_iconst (v := nI 1) dX9_call_85 rfl (by decide) ?_
      refine a_iadd dX9_call_86 rfl ?_
      refine a_iast dX9_call_87 rfl k_b77 hf (fun h87 hf => ?_)
      refine a_aload_n dX9_call_88 rfl rfl ?_
      obtain ⟨r89, h89, hc89, hf⟩ := am_bind_some hf
      refine a_callV (As := []) (r1 := (some (.int r89), Γ, h89)) (sX9_newest l k_v0 hc89) ccX9_newest tw_855 tw_857 tp_15 (ci := 9) rfl (by decide) ⟨Nat.le_of_ble_eq_true rfl, Nat.le_of_ble_eq_true rfl, Nat.le_of_ble_eq_true rfl, Nat.le_of_ble_eq_true rfl⟩ dX9_call_89 rfl k_v0 rfl (Nat.le_of_ble_eq_true rfl) rfl rfl (fun hr89 => ?_)
      refine a_istore (L' := [some (.ref v0), some (.int v1), some (.int v2), some (.int v3), some (.int v4), some (.int r89), none]) dX9_call_92 rfl (Nat.le_of_ble_eq_true rfl) (fun _ _ hv => by cases hv; rfl) rfl ?_
      refine a_iconst (v := nI 0) dX9_call_94 rfl (by decide) ?_
      refine a_istore (L' := [some (.ref v0), some (.int v1), some (.int v2), some (.int v3), some (.int v4), some (.int r89), some (.int (nI 0))]) dX9_call_95 rfl (Nat.le_of_ble_eq_true rfl) (fun _ _ hv => by cases hv; rfl) rfl ?_
      exact AW.weak (wX9_call_97 l am_fuel v0 v1 v2 v3 v4 r89 (nI 0) h89 _ k_v0 hf) ⟨rfl, ⟨rfl, ⟨rfl, ⟨rfl, ⟨rfl, ⟨rfl, ⟨rfl, trivial⟩⟩⟩⟩⟩⟩⟩
    refine a_iconst (v := (-1 : Int32)) dX9_call_58 rfl (by decide) ?_
    cases hf
    exact a_iret dX9_call_59 rfl rfl rfl (by decide)
  refine a_iconst (v := (-1 : Int32)) dX9_call_58 rfl (by decide) ?_
  cases hf
  exact a_iret dX9_call_59 rfl rfl rfl (by decide)
set_option maxRecDepth 100000 in
set_option maxHeartbeats 4000000 in
theorem sX9_call (l : Launch) {Γ : Gm} {h h' : AH} {v0 : Nat} {v1 : Int32} {v2 : Int32} {v3 : Int32} {v4 : Int32} {r : Int32} {n_v0 : Nat} (k_v0 : Γ[v0]? = some (9, n_v0)) (hf : fX9_call Γ v0 v1 v2 v3 v4 h = some (r, h')) : AR l yX9_call mX9_call [.ref v0, .int v1, .int v2, .int v3, .int v4] Γ h (some (.int r), Γ, h') := by
  refine AR.of [some (.ref v0), some (.int v1), some (.int v2), some (.int v3), some (.int v4), none, none] (by decide +kernel) rfl (fun z => by cases z) (Nat.le_of_ble_eq_true rfl) ⟨rfl, ⟨rfl, ⟨rfl, ⟨rfl, ⟨rfl, trivial⟩⟩⟩⟩⟩ ?_
  unfold fX9_call at hf
  refine a_aload_n dX9_call_0 rfl rfl ?_
  refine a_getI fl_RX9_82 dX9_call_1 rfl k_v0 rfl ?_
  refine a_if_ne (t := 10) dX9_call_4 rfl rfl hf (fun _ hf => ?_) (fun _ hf => ?_)
  · refine a_bipush (v := (-4 : Int32)) dX9_call_7 rfl (by decide) ?_
    cases hf
    exact a_iret dX9_call_9 rfl rfl rfl (by decide)
  refine a_iload_n dX9_call_10 rfl rfl ?_
  refine a_iconst (v := nI 0) dX9_call_11 rfl (by decide) ?_
  refine a_ldc (v := nI 16777215) dX9_call_12 rfl tw_850 ?_
  obtain ⟨r14, h14, hc14, hf⟩ := am_bind_some hf
  refine a_callS (As := [.int v1, .int (nI 0), .int (nI 16777215)]) (r1 := (some (.int r14), Γ, h14)) (sX9_outside l hc14) ccX9_outside tw_819 tw_820 ⟨Nat.le_of_ble_eq_true rfl, Nat.le_of_ble_eq_true rfl, Nat.le_of_ble_eq_true rfl, Nat.le_of_ble_eq_true rfl⟩ dX9_call_14 rfl rfl (Nat.le_of_ble_eq_true rfl) rfl rfl (fun hr14 => ?_)
  refine a_if_ne (t := 58) dX9_call_17 rfl rfl hf (fun _ hf => ?_) (fun _ hf => ?_)
  · refine a_iload_n dX9_call_20 rfl rfl ?_
    refine a_bipush (v := (-2 : Int32)) dX9_call_21 rfl (by decide) ?_
    refine a_icmp_eq (t := 37) dX9_call_23 rfl rfl hf (fun _ hf => ?_) (fun _ hf => ?_)
    · exact AW.weak (wX9_call_37 l v0 v1 v2 v3 v4 h14 _ k_v0 hf) ⟨rfl, ⟨rfl, ⟨rfl, ⟨rfl, ⟨rfl, trivial⟩⟩⟩⟩⟩
    refine a_iload_n dX9_call_26 rfl rfl ?_
    refine a_iconst (v := nI 0) dX9_call_27 rfl (by decide) ?_
    refine a_sipush (v := nI 255) dX9_call_28 rfl (by decide) ?_
    obtain ⟨r31, h31, hc31, hf⟩ := am_bind_some hf
    refine a_callS (As := [.int v2, .int (nI 0), .int (nI 255)]) (r1 := (some (.int r31), Γ, h31)) (sX9_outside l hc31) ccX9_outside tw_819 tw_820 ⟨Nat.le_of_ble_eq_true rfl, Nat.le_of_ble_eq_true rfl, Nat.le_of_ble_eq_true rfl, Nat.le_of_ble_eq_true rfl⟩ dX9_call_31 rfl rfl (Nat.le_of_ble_eq_true rfl) rfl rfl (fun hr31 => ?_)
    refine a_if_ne (t := 58) dX9_call_34 rfl rfl hf (fun _ hf => ?_) (fun _ hf => ?_)
    · exact AW.weak (wX9_call_37 l v0 v1 v2 v3 v4 h31 _ k_v0 hf) ⟨rfl, ⟨rfl, ⟨rfl, ⟨rfl, ⟨rfl, trivial⟩⟩⟩⟩⟩
    refine a_iconst (v := (-1 : Int32)) dX9_call_58 rfl (by decide) ?_
    cases hf
    exact a_iret dX9_call_59 rfl rfl rfl (by decide)
  refine a_iconst (v := (-1 : Int32)) dX9_call_58 rfl (by decide) ?_
  cases hf
  exact a_iret dX9_call_59 rfl rfl rfl (by decide)
set_option maxRecDepth 100000 in
set_option maxHeartbeats 4000000 in
theorem sX9_leave (l : Launch) {Γ : Gm} {h h' : AH} {v0 : Nat} {r : Int32} {n_v0 : Nat} (k_v0 : Γ[v0]? = some (9, n_v0)) (hf : fX9_leave Γ v0 h = some (r, h')) : AR l yX9_leave mX9_leave [.ref v0] Γ h (some (.int r), Γ, h') := by
  refine AR.of [some (.ref v0)] (by decide +kernel) rfl (fun z => by cases z) (Nat.le_of_ble_eq_true rfl) ⟨rfl, trivial⟩ ?_
  unfold fX9_leave at hf
  refine a_aload_n dX9_leave_0 rfl rfl ?_
  refine a_getI fl_RX9_82 dX9_leave_1 rfl k_v0 rfl ?_
  refine a_if_ne (t := 10) dX9_leave_4 rfl rfl hf (fun _ hf => ?_) (fun _ hf => ?_)
  · refine a_bipush (v := (-4 : Int32)) dX9_leave_7 rfl (by decide) ?_
    cases hf
    exact a_iret dX9_leave_9 rfl rfl rfl (by decide)
  refine a_aload_n dX9_leave_10 rfl rfl ?_
  refine a_getR fl_RX9_32 dX9_leave_11 rfl k_v0 rfl (by decide) hf (fun b11 n_b11 _ k_b11 hf => ?_)
  refine a_sipush (v := nI 1001) dX9_leave_14 rfl (by decide) ?_
  refine a_iald dX9_leave_17 rfl k_b11 hf (fun hf => ?_)
  refine a_iconst (v := nI 1) dX9_leave_18 rfl (by decide) ?_
  refine a_icmp_ne (t := 25) dX9_leave_19 rfl rfl hf (fun _ hf => ?_) (fun _ hf => ?_)
  · refine a_bipush (v := (-2 : Int32)) dX9_leave_22 rfl (by decide) ?_
    cases hf
    exact a_iret dX9_leave_24 rfl rfl rfl (by decide)
  refine a_aload_n dX9_leave_25 rfl rfl ?_
  refine a_getR fl_RX9_32 dX9_leave_26 rfl k_v0 rfl (by decide) hf (fun b26 n_b26 _ k_b26 hf => ?_)
  refine a_sipush (v := nI 1000) dX9_leave_29 rfl (by decide) ?_
  refine a_aload_n dX9_leave_32 rfl rfl ?_
  refine a_getR fl_RX9_32 dX9_leave_33 rfl k_v0 rfl (by decide) hf (fun b33 n_b33 _ k_b33 hf => ?_)
  refine a_aload_n dX9_leave_36 rfl rfl ?_
  obtain ⟨r37, h37, hc37, hf⟩ := am_bind_some hf
  refine a_callV (As := []) (r1 := (some (.int r37), Γ, h37)) (sX9_newest l k_v0 hc37) ccX9_newest tw_855 tw_857 tp_15 (ci := 9) rfl (by decide) ⟨Nat.le_of_ble_eq_true rfl, Nat.le_of_ble_eq_true rfl, Nat.le_of_ble_eq_true rfl, Nat.le_of_ble_eq_true rfl⟩ dX9_leave_37 rfl k_v0 rfl (Nat.le_of_ble_eq_true rfl) rfl rfl (fun hr37 => ?_)
  refine a_iald dX9_leave_40 rfl k_b33 hf (fun hf => ?_)
  refine a_iast dX9_leave_41 rfl k_b26 hf (fun h41 hf => ?_)
  refine a_aload_n dX9_leave_42 rfl rfl ?_
  refine a_getR fl_RX9_32 dX9_leave_43 rfl k_v0 rfl (by decide) hf (fun b43 n_b43 _ k_b43 hf => ?_)
  refine a_sipush (v := nI 1001) dX9_leave_46 rfl (by decide) ?_
  refine a_dup2 dX9_leave_49 rfl rfl rfl ?_
  refine a_iald dX9_leave_50 rfl k_b43 hf (fun hf => ?_)
  refine a_iconst (v := nI 1) dX9_leave_51 rfl (by decide) ?_
  refine a_isub dX9_leave_52 rfl ?_
  refine a_iast dX9_leave_53 rfl k_b43 hf (fun h53 hf => ?_)
  refine a_aload_n dX9_leave_54 rfl rfl ?_
  refine a_getR fl_RX9_32 dX9_leave_55 rfl k_v0 rfl (by decide) hf (fun b55 n_b55 _ k_b55 hf => ?_)
  refine a_sipush (v := nI 1000) dX9_leave_58 rfl (by decide) ?_
  refine a_iald dX9_leave_61 rfl k_b55 hf (fun hf => ?_)
  cases hf
  exact a_iret dX9_leave_62 rfl rfl rfl (by decide)
