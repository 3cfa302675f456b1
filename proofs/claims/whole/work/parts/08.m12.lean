set_option maxRecDepth 100000 in
set_option maxHeartbeats 4000000 in
theorem wX9_back_15 (l : Launch) {Γ : Gm} {r : Int32} {h' : AH} : ∀ (z : Nat) (v0 : Nat) (v1 : Int32) (h : AH), ∀ n_v0 : Nat, Γ[v0]? = some (9, n_v0) → fX9_back_15 Γ z v0 v1 h = some (r, h') → AW l mX9_back (some (.int r), Γ, h') 0 0 15 [some (.ref v0), some (.int v1)] [] Γ h := by
  intro z
  induction z with
  | zero => intro v0 v1 h n_v0 k_v0 hf; cases hf
  | succ z ih =>
    intro v0 v1 h n_v0 k_v0 hf
    unfold fX9_back_15 at hf
    refine a_iload_n dX9_back_15 rfl rfl ?_
    refine a_aload_n dX9_back_16 rfl rfl ?_
    refine a_getI fl_RX9_79 dX9_back_17 rfl k_v0 rfl ?_
    refine a_icmp_ge (t := 41) dX9_back_20 rfl rfl hf (fun _ hf => ?_) (fun _ hf => ?_)
    · refine a_aload_n dX9_back_41 rfl rfl ?_
      refine a_aload_n dX9_back_42 rfl rfl ?_
      refine a_getI fl_RX9_79 dX9_back_43 rfl k_v0 rfl ?_
      refine a_putI fp_RX9_68 dX9_back_46 rfl k_v0 rfl hf (fun h46 hf => ?_)
      refine a_aload_n dX9_back_49 rfl rfl ?_
      refine a_getI fl_RX9_68 dX9_back_50 rfl k_v0 rfl ?_
      cases hf
      exact a_iret dX9_back_53 rfl rfl rfl (by decide)
    refine a_aload_n dX9_back_23 rfl rfl ?_
    refine a_getR fl_RX9_9 dX9_back_24 rfl k_v0 rfl (by decide) hf (fun b24 n_b24 _ k_b24 hf => ?_)
    refine a_iload_n dX9_back_27 rfl rfl ?_
    refine a_aload_n dX9_back_28 rfl rfl ?_
    refine a_getR fl_RX9_13 dX9_back_29 rfl k_v0 rfl (by decide) hf (fun b29 n_b29 _ k_b29 hf => ?_)
    refine a_iload_n dX9_back_32 rfl rfl ?_
    refine a_iald dX9_back_33 rfl k_b29 hf (fun hf => ?_)
    refine a_iast dX9_back_34 rfl k_b24 hf (fun h34 hf => ?_)
    refine a_iinc (v := v1 + (1 : Int32)) (L' := [some (.ref v0), some (.int (v1 + (1 : Int32)))]) dX9_back_35 rfl rfl rfl (Nat.le_of_ble_eq_true rfl) (fun _ _ hv => by cases hv; rfl) rfl ?_
    refine a_goto (t := 15) dX9_back_38 rfl ?_
    exact AW.weak (ih v0 (v1 + (1 : Int32)) h34 _ k_v0 hf) ⟨rfl, ⟨rfl, trivial⟩⟩
set_option maxRecDepth 100000 in
set_option maxHeartbeats 4000000 in
theorem sX9_back (l : Launch) {Γ : Gm} {h h' : AH} {v0 : Nat} {r : Int32} {n_v0 : Nat} (k_v0 : Γ[v0]? = some (9, n_v0)) (hf : fX9_back Γ v0 h = some (r, h')) : AR l yX9_back mX9_back [.ref v0] Γ h (some (.int r), Γ, h') := by
  refine AR.of [some (.ref v0), none] (by decide +kernel) rfl (fun z => by cases z) (Nat.le_of_ble_eq_true rfl) ⟨rfl, trivial⟩ ?_
  unfold fX9_back at hf
  refine a_aload_n dX9_back_0 rfl rfl ?_
  refine a_getI fl_RX9_79 dX9_back_1 rfl k_v0 rfl ?_
  refine a_sipush (v := (2000 : Int32)) dX9_back_4 rfl (by decide) ?_
  refine a_icmp_le (t := 13) dX9_back_7 rfl rfl hf (fun _ hf => ?_) (fun _ hf => ?_)
  · refine a_iconst (v := (0 : Int32)) dX9_back_13 rfl (by decide) ?_
    refine a_istore_n (L' := [some (.ref v0), some (.int ((0 : Int32)))]) dX9_back_14 rfl (Nat.le_of_ble_eq_true rfl) (fun _ _ hv => by cases hv; rfl) rfl ?_
    exact AW.weak (wX9_back_15 l am_fuel v0 ((0 : Int32)) h _ k_v0 hf) ⟨rfl, ⟨rfl, trivial⟩⟩
  refine a_bipush (v := (-3 : Int32)) dX9_back_10 rfl (by decide) ?_
  cases hf
  exact a_iret dX9_back_12 rfl rfl rfl (by decide)
set_option maxRecDepth 100000 in
set_option maxHeartbeats 4000000 in
theorem wX9_begin_32 (l : Launch) {Γ : Gm} {r : Unit} {h' : AH} {k2 : Nat → Int32 → AH → Option (Unit × AH)} (hk2 : ∀ v0 v1 (h : AH), ∀ n_v0 : Nat, Γ[v0]? = some (9, n_v0) → k2 v0 v1 h = some (r, h') → AW l mX9_begin (none, Γ, h') 0 0 2 [some (.ref v0), some (.int v1)] [] Γ h) (v0 : Nat) (v1 : Int32) (s0 : Nat) (s1 : Int32) (s2 : Int32) (h : AH) : ∀ n_v0 : Nat, Γ[v0]? = some (9, n_v0) → ∀ n_s0 : Nat, Γ[s0]? = some (10, n_s0) → fX9_begin_32 Γ k2 v0 v1 s0 s1 s2 h = some (r, h') → AW l mX9_begin (none, Γ, h') 0 0 32 [some (.ref v0), some (.int (v1 + (1 : Int32)))] [] Γ h := by
  intro n_v0 k_v0 n_s0 k_s0 hf
  unfold fX9_begin_32 at hf
  refine a_iast dX9_begin_32 rfl k_s0 hf (fun h32 hf => ?_)
  refine a_iinc (v := v1 + (1 : Int32)) (L' := [some (.ref v0), some (.int (v1 + (1 : Int32)))]) dX9_begin_33 rfl rfl rfl (Nat.le_of_ble_eq_true rfl) (fun _ _ hv => by cases hv; rfl) rfl ?_
  refine a_goto (t := 2) dX9_begin_36 rfl ?_
  exact AW.weak (hk2 v0 (v1 + (1 : Int32)) h32 _ k_v0 hf) ⟨rfl, ⟨rfl, trivial⟩⟩
set_option maxRecDepth 100000 in
set_option maxHeartbeats 4000000 in
theorem wX9_begin_2 (l : Launch) {Γ : Gm} {r : Unit} {h' : AH} : ∀ (z : Nat) (v0 : Nat) (v1 : Int32) (h : AH), ∀ n_v0 : Nat, Γ[v0]? = some (9, n_v0) → fX9_begin_2 Γ z v0 v1 h = some (r, h') → AW l mX9_begin (none, Γ, h') 0 0 2 [some (.ref v0), some (.int v1)] [] Γ h := by
  intro z
  induction z with
  | zero => intro v0 v1 h n_v0 k_v0 hf; cases hf
  | succ z ih =>
    intro v0 v1 h n_v0 k_v0 hf
    unfold fX9_begin_2 at hf
    refine a_iload_n dX9_begin_2 rfl rfl ?_
    refine a_sipush (v := (2202 : Int32)) dX9_begin_3 rfl (by decide) ?_
    refine a_icmp_ge (t := 39) dX9_begin_6 rfl rfl hf (fun _ hf => ?_) (fun _ hf => ?_)
    · refine a_aload_n dX9_begin_39 rfl rfl ?_
      refine a_getR fl_RX9_32 dX9_begin_40 rfl k_v0 rfl (by decide) hf (fun b40 n_b40 _ k_b40 hf => ?_)
      refine a_sipush (v := (1001 : Int32)) dX9_begin_43 rfl (by decide) ?_
      refine a_iconst (v := (1 : Int32)) dX9_begin_46 rfl (by decide) ?_
      refine a_iast dX9_begin_47 rfl k_b40 hf (fun h47 hf => ?_)
      cases hf
      exact a_ret dX9_begin_48 rfl rfl rfl
    refine a_aload_n dX9_begin_9 rfl rfl ?_
    refine a_getR fl_RX9_32 dX9_begin_10 rfl k_v0 rfl (by decide) hf (fun b10 n_b10 _ k_b10 hf => ?_)
    refine a_iload_n dX9_begin_13 rfl rfl ?_
    refine a_iload_n dX9_begin_14 rfl rfl ?_
    refine a_aload_n dX9_begin_15 rfl rfl ?_
    refine a_getI fl_RX9_82 dX9_begin_16 rfl k_v0 rfl ?_
    refine a_icmp_ge (t := 31) dX9_begin_19 rfl rfl hf (fun _ hf => ?_) (fun _ hf => ?_)
    · refine a_iconst (v := (0 : Int32)) dX9_begin_31 rfl (by decide) ?_
      exact AW.weak (wX9_begin_32 l ih v0 v1 b10 v1 ((0 : Int32)) h _ k_v0 _ k_b10 hf) ⟨rfl, ⟨rfl, trivial⟩⟩
    refine a_aload_n dX9_begin_22 rfl rfl ?_
    refine a_getR fl_RX9_29 dX9_begin_23 rfl k_v0 rfl (by decide) hf (fun b23 n_b23 _ k_b23 hf => ?_)
    refine a_iload_n dX9_begin_26 rfl rfl ?_
    refine a_iald dX9_begin_27 rfl k_b23 hf (fun hf => ?_)
    refine a_goto (t := 32) dX9_begin_28 rfl ?_
    exact AW.weak (wX9_begin_32 l ih v0 v1 b10 v1 (h.1 b23 v1.toNatClampNeg) h _ k_v0 _ k_b10 hf) ⟨rfl, ⟨rfl, trivial⟩⟩
set_option maxRecDepth 100000 in
set_option maxHeartbeats 4000000 in
theorem sX9_begin (l : Launch) {Γ : Gm} {h h' : AH} {v0 : Nat} {r : Unit} {n_v0 : Nat} (k_v0 : Γ[v0]? = some (9, n_v0)) (hf : fX9_begin Γ v0 h = some (r, h')) : AR l yX9_begin mX9_begin [.ref v0] Γ h (none, Γ, h') := by
  refine AR.of [some (.ref v0), none] (by decide +kernel) rfl (fun z => by cases z) (Nat.le_of_ble_eq_true rfl) ⟨rfl, trivial⟩ ?_
  unfold fX9_begin at hf
  refine a_iconst (v := (0 : Int32)) dX9_begin_0 rfl (by decide) ?_
  refine a_istore_n (L' := [some (.ref v0), some (.int ((0 : Int32)))]) dX9_begin_1 rfl (Nat.le_of_ble_eq_true rfl) (fun _ _ hv => by cases hv; rfl) rfl ?_
  exact AW.weak (wX9_begin_2 l am_fuel v0 ((0 : Int32)) h _ k_v0 hf) ⟨rfl, ⟨rfl, trivial⟩⟩
set_option maxRecDepth 100000 in
set_option maxHeartbeats 4000000 in
theorem wX9_story_60 (l : Launch) {Γ : Gm} {r : Int32} {h' : AH} : ∀ (z : Nat) (v0 : Nat) (v2 : Int32) (h : AH), ∀ n_v0 : Nat, Γ[v0]? = some (9, n_v0) → fX9_story_60 Γ z v0 v2 h = some (r, h') → AW l mX9_story (some (.int r), Γ, h') 0 0 60 [some (.ref v0), none, some (.int v2)] [] Γ h := by
  intro z
  induction z with
  | zero => intro v0 v2 h n_v0 k_v0 hf; cases hf
  | succ z ih =>
    intro v0 v2 h n_v0 k_v0 hf
    unfold fX9_story_60 at hf
    refine a_iload_n dX9_story_60 rfl rfl ?_
    refine a_aload_n dX9_story_61 rfl rfl ?_
    refine a_getI fl_RX9_82 dX9_story_62 rfl k_v0 rfl ?_
    refine a_icmp_ge (t := 89) dX9_story_65 rfl rfl hf (fun _ hf => ?_) (fun _ hf => ?_)
    · refine a_aload_n dX9_story_89 rfl rfl ?_
      obtain ⟨r90, h90, hc90, hf⟩ := am_bind_some hf
      refine a_callV (As := []) (r1 := (none, Γ, h90)) (sX9_begin l k_v0 hc90) ccX9_begin tw_834 tw_836 tp_14 (ci := 9) rfl (by decide) ⟨Nat.le_of_ble_eq_true rfl, Nat.le_of_ble_eq_true rfl, Nat.le_of_ble_eq_true rfl, Nat.le_of_ble_eq_true rfl⟩ dX9_story_90 rfl k_v0 rfl (Nat.le_of_ble_eq_true rfl) rfl rfl (fun hr90 => ?_)
      refine a_aload_n dX9_story_93 rfl rfl ?_
      refine a_iconst (v := (0 : Int32)) dX9_story_94 rfl (by decide) ?_
      refine a_putI fp_RX9_88 dX9_story_95 rfl k_v0 rfl hf (fun h95 hf => ?_)
      refine a_aload_n dX9_story_98 rfl rfl ?_
      refine a_iconst (v := (0 : Int32)) dX9_story_99 rfl (by decide) ?_
      refine a_putI fp_RX9_91 dX9_story_100 rfl k_v0 rfl hf (fun h100 hf => ?_)
      refine a_aload_n dX9_story_103 rfl rfl ?_
      refine a_getI fl_RX9_82 dX9_story_104 rfl k_v0 rfl ?_
      cases hf
      exact a_iret dX9_story_107 rfl rfl rfl (by decide)
    refine a_aload_n dX9_story_68 rfl rfl ?_
    refine a_getR fl_RX9_29 dX9_story_69 rfl k_v0 rfl (by decide) hf (fun b69 n_b69 _ k_b69 hf => ?_)
    refine a_iload_n dX9_story_72 rfl rfl ?_
    refine a_aload_n dX9_story_73 rfl rfl ?_
    refine a_getR fl_RX9_9 dX9_story_74 rfl k_v0 rfl (by decide) hf (fun b74 n_b74 _ k_b74 hf => ?_)
    refine a_bipush (v := (10 : Int32)) dX9_story_77 rfl (by decide) ?_
    refine a_iload_n dX9_story_79 rfl rfl ?_
    refine a_iadd dX9_story_80 rfl ?_
    refine a_iald dX9_story_81 rfl k_b74 hf (fun hf => ?_)
    refine a_iast dX9_story_82 rfl k_b69 hf (fun h82 hf => ?_)
    refine a_iinc (v := v2 + (1 : Int32)) (L' := [some (.ref v0), none, some (.int (v2 + (1 : Int32)))]) dX9_story_83 rfl rfl rfl (Nat.le_of_ble_eq_true rfl) (fun _ _ hv => by cases hv) rfl ?_
    refine a_goto (t := 60) dX9_story_86 rfl ?_
    exact AW.weak (ih v0 (v2 + (1 : Int32)) h82 _ k_v0 hf) ⟨rfl, ⟨rfl, trivial⟩⟩
set_option maxRecDepth 100000 in
set_option maxHeartbeats 4000000 in
theorem wX9_story_26 (l : Launch) {Γ : Gm} {r : Int32} {h' : AH} : ∀ (z : Nat) (v0 : Nat) (v1 : Int32) (v2 : Int32) (h : AH), ∀ n_v0 : Nat, Γ[v0]? = some (9, n_v0) → fX9_story_26 Γ z v0 v1 v2 h = some (r, h') → AW l mX9_story (some (.int r), Γ, h') 0 0 26 [some (.ref v0), some (.int v1), some (.int v2)] [] Γ h := by
  intro z
  induction z with
  | zero => intro v0 v1 v2 h n_v0 k_v0 hf; cases hf
  | succ z ih =>
    intro v0 v1 v2 h n_v0 k_v0 hf
    unfold fX9_story_26 at hf
    refine a_iload_n dX9_story_26 rfl rfl ?_
    refine a_bipush (v := (10 : Int32)) dX9_story_27 rfl (by decide) ?_
    refine a_icmp_ge (t := 50) dX9_story_29 rfl rfl hf (fun _ hf => ?_) (fun _ hf => ?_)
    · refine a_aload_n dX9_story_50 rfl rfl ?_
      refine a_iload_n dX9_story_51 rfl rfl ?_
      refine a_bipush (v := (10 : Int32)) dX9_story_52 rfl (by decide) ?_
      refine a_isub dX9_story_54 rfl ?_
      refine a_putI fp_RX9_82 dX9_story_55 rfl k_v0 rfl hf (fun h55 hf => ?_)
      refine a_iconst (v := (0 : Int32)) dX9_story_58 rfl (by decide) ?_
      refine a_istore_n (L' := [some (.ref v0), some (.int v1), some (.int ((0 : Int32)))]) dX9_story_59 rfl (Nat.le_of_ble_eq_true rfl) (fun _ _ hv => by cases hv; rfl) rfl ?_
      exact AW.weak (wX9_story_60 l am_fuel v0 ((0 : Int32)) h55 _ k_v0 hf) ⟨rfl, ⟨rfl, trivial⟩⟩
    refine a_aload_n dX9_story_32 rfl rfl ?_
    refine a_getR fl_RX9_26 dX9_story_33 rfl k_v0 rfl (by decide) hf (fun b33 n_b33 _ k_b33 hf => ?_)
    refine a_iload_n dX9_story_36 rfl rfl ?_
    refine a_aload_n dX9_story_37 rfl rfl ?_
    refine a_getR fl_RX9_9 dX9_story_38 rfl k_v0 rfl (by decide) hf (fun b38 n_b38 _ k_b38 hf => ?_)
    refine a_iload_n dX9_story_41 rfl rfl ?_
    refine a_iald dX9_story_42 rfl k_b38 hf (fun hf => ?_)
    refine a_iast dX9_story_43 rfl k_b33 hf (fun h43 hf => ?_)
    refine a_iinc (v := v2 + (1 : Int32)) (L' := [some (.ref v0), some (.int v1), some (.int (v2 + (1 : Int32)))]) dX9_story_44 rfl rfl rfl (Nat.le_of_ble_eq_true rfl) (fun _ _ hv => by cases hv; rfl) rfl ?_
    refine a_goto (t := 26) dX9_story_47 rfl ?_
    exact AW.weak (ih v0 v1 (v2 + (1 : Int32)) h43 _ k_v0 hf) ⟨rfl, ⟨rfl, ⟨rfl, trivial⟩⟩⟩
set_option maxRecDepth 100000 in
set_option maxHeartbeats 4000000 in
theorem sX9_story (l : Launch) {Γ : Gm} {h h' : AH} {v0 : Nat} {r : Int32} {n_v0 : Nat} (k_v0 : Γ[v0]? = some (9, n_v0)) (hf : fX9_story Γ v0 h = some (r, h')) : AR l yX9_story mX9_story [.ref v0] Γ h (some (.int r), Γ, h') := by
  refine AR.of [some (.ref v0), none, none] (by decide +kernel) rfl (fun z => by cases z) (Nat.le_of_ble_eq_true rfl) ⟨rfl, trivial⟩ ?_
  unfold fX9_story at hf
  refine a_aload_n dX9_story_0 rfl rfl ?_
  refine a_getI fl_RX9_68 dX9_story_1 rfl k_v0 rfl ?_
  refine a_nmI hf (fun x4 hf => ?_)
  refine a_istore_n (L' := [some (.ref v0), some (.int x4), none]) dX9_story_4 rfl (Nat.le_of_ble_eq_true rfl) (fun _ _ hv => by cases hv; rfl) rfl ?_
  refine a_aload_n dX9_story_5 rfl rfl ?_
  refine a_iconst (v := (0 : Int32)) dX9_story_6 rfl (by decide) ?_
  refine a_putI fp_RX9_68 dX9_story_7 rfl k_v0 rfl hf (fun h7 hf => ?_)
  refine a_iload_n dX9_story_10 rfl rfl ?_
  refine a_bipush (v := (11 : Int32)) dX9_story_11 rfl (by decide) ?_
  refine a_sipush (v := (1010 : Int32)) dX9_story_13 rfl (by decide) ?_
  obtain ⟨r16, h16, hc16, hf⟩ := am_bind_some hf
  refine a_callS (As := [.int x4, .int ((11 : Int32)), .int ((1010 : Int32))]) (r1 := (some (.int r16), Γ, h16)) (sX9_outside l hc16) ccX9_outside tw_819 tw_820 ⟨Nat.le_of_ble_eq_true rfl, Nat.le_of_ble_eq_true rfl, Nat.le_of_ble_eq_true rfl, Nat.le_of_ble_eq_true rfl⟩ dX9_story_16 rfl rfl (Nat.le_of_ble_eq_true rfl) rfl rfl (fun hr16 => ?_)
  refine a_if_eq (t := 24) dX9_story_19 rfl rfl hf (fun _ hf => ?_) (fun _ hf => ?_)
  · refine a_iconst (v := (0 : Int32)) dX9_story_24 rfl (by decide) ?_
    refine a_istore_n (L' := [some (.ref v0), some (.int x4), some (.int ((0 : Int32)))]) dX9_story_25 rfl (Nat.le_of_ble_eq_true rfl) (fun _ _ hv => by cases hv; rfl) rfl ?_
    exact AW.weak (wX9_story_26 l am_fuel v0 x4 ((0 : Int32)) h16 _ k_v0 hf) ⟨rfl, ⟨rfl, ⟨rfl, trivial⟩⟩⟩
  refine a_iconst (v := (-1 : Int32)) dX9_story_22 rfl (by decide) ?_
  cases hf
  exact a_iret dX9_story_23 rfl rfl rfl (by decide)
set_option maxRecDepth 100000 in
set_option maxHeartbeats 4000000 in
theorem sX9_bits (l : Launch) {Γ : Gm} {h h' : AH} {v0 : Nat} {r : Int32} {n_v0 : Nat} (k_v0 : Γ[v0]? = some (9, n_v0)) (hf : fX9_bits Γ v0 h = some (r, h')) : AR l yX9_bits mX9_bits [.ref v0] Γ h (some (.int r), Γ, h') := by
  refine AR.of [some (.ref v0)] (by decide +kernel) rfl (fun z => by cases z) (Nat.le_of_ble_eq_true rfl) ⟨rfl, trivial⟩ ?_
  unfold fX9_bits at hf
  refine a_aload_n dX9_bits_0 rfl rfl ?_
  refine a_getI fl_RX9_82 dX9_bits_1 rfl k_v0 rfl ?_
  refine a_bipush (v := (17 : Int32)) dX9_bits_4 rfl (by decide) ?_
  refine a_icmp_le (t := 21) dX9_bits_6 rfl rfl hf (fun _ hf => ?_) (fun _ hf => ?_)
  · refine a_iconst (v := (0 : Int32)) dX9_bits_21 rfl (by decide) ?_
    cases hf
    exact a_iret dX9_bits_22 rfl rfl rfl (by decide)
  refine a_aload_n dX9_bits_9 rfl rfl ?_
  refine a_getR fl_RX9_32 dX9_bits_10 rfl k_v0 rfl (by decide) hf (fun b10 n_b10 _ k_b10 hf => ?_)
  refine a_bipush (v := (17 : Int32)) dX9_bits_13 rfl (by decide) ?_
  refine a_iald dX9_bits_15 rfl k_b10 hf (fun hf => ?_)
  refine a_iconst (v := (3 : Int32)) dX9_bits_16 rfl (by decide) ?_
  refine a_iand dX9_bits_17 rfl ?_
  refine a_goto (t := 22) dX9_bits_18 rfl ?_
  cases hf
  exact a_iret dX9_bits_22 rfl rfl rfl (by decide)
set_option maxRecDepth 100000 in
set_option maxHeartbeats 4000000 in
theorem sX9_stay (l : Launch) {Γ : Gm} {h h' : AH} {v0 : Nat} {v1 : Int32} {r : Unit} {n_v0 : Nat} (k_v0 : Γ[v0]? = some (9, n_v0)) (hf : fX9_stay Γ v0 v1 h = some (r, h')) : AR l yX9_stay mX9_stay [.ref v0, .int v1] Γ h (none, Γ, h') := by
  refine AR.of [some (.ref v0), some (.int v1)] (by decide +kernel) rfl (fun z => by cases z) (Nat.le_of_ble_eq_true rfl) ⟨rfl, ⟨rfl, trivial⟩⟩ ?_
  unfold fX9_stay at hf
  refine a_aload_n dX9_stay_0 rfl rfl ?_
  refine a_getI fl_RX9_82 dX9_stay_1 rfl k_v0 rfl ?_
  refine a_bipush (v := (17 : Int32)) dX9_stay_4 rfl (by decide) ?_
  refine a_icmp_le (t := 29) dX9_stay_6 rfl rfl hf (fun _ hf => ?_) (fun _ hf => ?_)
  · cases hf
    exact a_ret dX9_stay_29 rfl rfl rfl
  refine a_aload_n dX9_stay_9 rfl rfl ?_
  refine a_getR fl_RX9_32 dX9_stay_10 rfl k_v0 rfl (by decide) hf (fun b10 n_b10 _ k_b10 hf => ?_)
  refine a_bipush (v := (17 : Int32)) dX9_stay_13 rfl (by decide) ?_
  refine a_aload_n dX9_stay_15 rfl rfl ?_
  refine a_getR fl_RX9_32 dX9_stay_16 rfl k_v0 rfl (by decide) hf (fun b16 n_b16 _ k_b16 hf => ?_)
  refine a_bipush (v := (17 : Int32)) dX9_stay_19 rfl (by decide) ?_
  refine a_iald dX9_stay_21 rfl k_b16 hf (fun hf => ?_)
  refine a_sipush (v := (252 : Int32)) dX9_stay_22 rfl (by decide) ?_
  refine a_iand dX9_stay_25 rfl ?_
  refine a_iload_n dX9_stay_26 rfl rfl ?_
  refine a_ior dX9_stay_27 rfl ?_
  refine a_iast dX9_stay_28 rfl k_b10 hf (fun h28 hf => ?_)
  cases hf
  exact a_ret dX9_stay_29 rfl rfl rfl
set_option maxRecDepth 100000 in
set_option maxHeartbeats 4000000 in
theorem sX9_poke (l : Launch) {Γ : Gm} {h h' : AH} {v0 : Nat} {v1 : Int32} {v2 : Int32} {r : Int32} {n_v0 : Nat} (k_v0 : Γ[v0]? = some (9, n_v0)) (hf : fX9_poke Γ v0 v1 v2 h = some (r, h')) : AR l yX9_poke mX9_poke [.ref v0, .int v1, .int v2] Γ h (some (.int r), Γ, h') := by
  refine AR.of [some (.ref v0), some (.int v1), some (.int v2), none] (by decide +kernel) rfl (fun z => by cases z) (Nat.le_of_ble_eq_true rfl) ⟨rfl, ⟨rfl, ⟨rfl, trivial⟩⟩⟩ ?_
  unfold fX9_poke at hf
  refine a_aload_n dX9_poke_0 rfl rfl ?_
  refine a_getI fl_RX9_82 dX9_poke_1 rfl k_v0 rfl ?_
  refine a_if_ne (t := 10) dX9_poke_4 rfl rfl hf (fun _ hf => ?_) (fun _ hf => ?_)
  · refine a_bipush (v := (-4 : Int32)) dX9_poke_7 rfl (by decide) ?_
    cases hf
    exact a_iret dX9_poke_9 rfl rfl rfl (by decide)
  refine a_iload_n dX9_poke_10 rfl rfl ?_
  refine a_iconst (v := (0 : Int32)) dX9_poke_11 rfl (by decide) ?_
  refine a_aload_n dX9_poke_12 rfl rfl ?_
  refine a_getI fl_RX9_82 dX9_poke_13 rfl k_v0 rfl ?_
  refine a_iconst (v := (1 : Int32)) dX9_poke_16 rfl (by decide) ?_
  refine a_isub dX9_poke_17 rfl ?_
  obtain ⟨r18, h18, hc18, hf⟩ := am_bind_some hf
  refine a_callS (As := [.int v1, .int ((0 : Int32)), .int ((h.1 v0 9) - ((1 : Int32)))]) (r1 := (some (.int r18), Γ, h18)) (sX9_outside l hc18) ccX9_outside tw_819 tw_820 ⟨Nat.le_of_ble_eq_true rfl, Nat.le_of_ble_eq_true rfl, Nat.le_of_ble_eq_true rfl, Nat.le_of_ble_eq_true rfl⟩ dX9_poke_18 rfl rfl (Nat.le_of_ble_eq_true rfl) rfl rfl (fun hr18 => ?_)
  refine a_if_ne (t := 35) dX9_poke_21 rfl rfl hf (fun _ hf => ?_) (fun _ hf => ?_)
  · refine a_iload_n dX9_poke_24 rfl rfl ?_
    refine a_iconst (v := (0 : Int32)) dX9_poke_25 rfl (by decide) ?_
    refine a_sipush (v := (255 : Int32)) dX9_poke_26 rfl (by decide) ?_
    obtain ⟨r29, h29, hc29, hf⟩ := am_bind_some hf
    refine a_callS (As := [.int v2, .int ((0 : Int32)), .int ((255 : Int32))]) (r1 := (some (.int r29), Γ, h29)) (sX9_outside l hc29) ccX9_outside tw_819 tw_820 ⟨Nat.le_of_ble_eq_true rfl, Nat.le_of_ble_eq_true rfl, Nat.le_of_ble_eq_true rfl, Nat.le_of_ble_eq_true rfl⟩ dX9_poke_29 rfl rfl (Nat.le_of_ble_eq_true rfl) rfl rfl (fun hr29 => ?_)
    refine a_if_eq (t := 37) dX9_poke_32 rfl rfl hf (fun _ hf => ?_) (fun _ hf => ?_)
    · refine a_aload_n dX9_poke_37 rfl rfl ?_
      refine a_getR fl_RX9_32 dX9_poke_38 rfl k_v0 rfl (by decide) hf (fun b38 n_b38 _ k_b38 hf => ?_)
      refine a_iload_n dX9_poke_41 rfl rfl ?_
      refine a_iald dX9_poke_42 rfl k_b38 hf (fun hf => ?_)
      refine a_nmI hf (fun x43 hf => ?_)
      refine a_istore_n (L' := [some (.ref v0), some (.int v1), some (.int v2), some (.int x43)]) dX9_poke_43 rfl (Nat.le_of_ble_eq_true rfl) (fun _ _ hv => by cases hv; rfl) rfl ?_
      refine a_aload_n dX9_poke_44 rfl rfl ?_
      refine a_getR fl_RX9_32 dX9_poke_45 rfl k_v0 rfl (by decide) hf (fun b45 n_b45 _ k_b45 hf => ?_)
      refine a_iload_n dX9_poke_48 rfl rfl ?_
      refine a_iload_n dX9_poke_49 rfl rfl ?_
      refine a_iast dX9_poke_50 rfl k_b45 hf (fun h50 hf => ?_)
      refine a_iload_n dX9_poke_51 rfl rfl ?_
      cases hf
      exact a_iret dX9_poke_52 rfl rfl rfl (by decide)
    refine a_iconst (v := (-1 : Int32)) dX9_poke_35 rfl (by decide) ?_
    cases hf
    exact a_iret dX9_poke_36 rfl rfl rfl (by decide)
  refine a_iconst (v := (-1 : Int32)) dX9_poke_35 rfl (by decide) ?_
  cases hf
  exact a_iret dX9_poke_36 rfl rfl rfl (by decide)
set_option maxRecDepth 100000 in
set_option maxHeartbeats 4000000 in
theorem sX9_peek (l : Launch) {Γ : Gm} {h h' : AH} {v0 : Nat} {v1 : Int32} {r : Int32} {n_v0 : Nat} (k_v0 : Γ[v0]? = some (9, n_v0)) (hf : fX9_peek Γ v0 v1 h = some (r, h')) : AR l yX9_peek mX9_peek [.ref v0, .int v1] Γ h (some (.int r), Γ, h') := by
  refine AR.of [some (.ref v0), some (.int v1)] (by decide +kernel) rfl (fun z => by cases z) (Nat.le_of_ble_eq_true rfl) ⟨rfl, ⟨rfl, trivial⟩⟩ ?_
  unfold fX9_peek at hf
  refine a_aload_n dX9_peek_0 rfl rfl ?_
  refine a_getI fl_RX9_82 dX9_peek_1 rfl k_v0 rfl ?_
  refine a_if_ne (t := 12) dX9_peek_4 rfl rfl hf (fun _ hf => ?_) (fun _ hf => ?_)
  · refine a_bipush (v := (-4 : Int32)) dX9_peek_7 rfl (by decide) ?_
    refine a_goto (t := 36) dX9_peek_9 rfl ?_
    cases hf
    exact a_iret dX9_peek_36 rfl rfl rfl (by decide)
  refine a_iload_n dX9_peek_12 rfl rfl ?_
  refine a_iconst (v := (0 : Int32)) dX9_peek_13 rfl (by decide) ?_
  refine a_aload_n dX9_peek_14 rfl rfl ?_
  refine a_getI fl_RX9_82 dX9_peek_15 rfl k_v0 rfl ?_
  refine a_iconst (v := (1 : Int32)) dX9_peek_18 rfl (by decide) ?_
  refine a_isub dX9_peek_19 rfl ?_
  obtain ⟨r20, h20, hc20, hf⟩ := am_bind_some hf
  refine a_callS (As := [.int v1, .int ((0 : Int32)), .int ((h.1 v0 9) - ((1 : Int32)))]) (r1 := (some (.int r20), Γ, h20)) (sX9_outside l hc20) ccX9_outside tw_819 tw_820 ⟨Nat.le_of_ble_eq_true rfl, Nat.le_of_ble_eq_true rfl, Nat.le_of_ble_eq_true rfl, Nat.le_of_ble_eq_true rfl⟩ dX9_peek_20 rfl rfl (Nat.le_of_ble_eq_true rfl) rfl rfl (fun hr20 => ?_)
  refine a_if_eq (t := 30) dX9_peek_23 rfl rfl hf (fun _ hf => ?_) (fun _ hf => ?_)
  · refine a_aload_n dX9_peek_30 rfl rfl ?_
    refine a_getR fl_RX9_32 dX9_peek_31 rfl k_v0 rfl (by decide) hf (fun b31 n_b31 _ k_b31 hf => ?_)
    refine a_iload_n dX9_peek_34 rfl rfl ?_
    refine a_iald dX9_peek_35 rfl k_b31 hf (fun hf => ?_)
    cases hf
    exact a_iret dX9_peek_36 rfl rfl rfl (by decide)
  refine a_iconst (v := (-1 : Int32)) dX9_peek_26 rfl (by decide) ?_
  refine a_goto (t := 36) dX9_peek_27 rfl ?_
  cases hf
  exact a_iret dX9_peek_36 rfl rfl rfl (by decide)
set_option maxRecDepth 100000 in
set_option maxHeartbeats 4000000 in
theorem sX9_jump (l : Launch) {Γ : Gm} {h h' : AH} {v0 : Nat} {v1 : Int32} {r : Int32} {n_v0 : Nat} (k_v0 : Γ[v0]? = some (9, n_v0)) (hf : fX9_jump Γ v0 v1 h = some (r, h')) : AR l yX9_jump mX9_jump [.ref v0, .int v1] Γ h (some (.int r), Γ, h') := by
  refine AR.of [some (.ref v0), some (.int v1), none] (by decide +kernel) rfl (fun z => by cases z) (Nat.le_of_ble_eq_true rfl) ⟨rfl, ⟨rfl, trivial⟩⟩ ?_
  unfold fX9_jump at hf
  refine a_aload_n dX9_jump_0 rfl rfl ?_
  refine a_getI fl_RX9_82 dX9_jump_1 rfl k_v0 rfl ?_
  refine a_if_ne (t := 10) dX9_jump_4 rfl rfl hf (fun _ hf => ?_) (fun _ hf => ?_)
  · refine a_bipush (v := (-4 : Int32)) dX9_jump_7 rfl (by decide) ?_
    cases hf
    exact a_iret dX9_jump_9 rfl rfl rfl (by decide)
  refine a_iload_n dX9_jump_10 rfl rfl ?_
  refine a_iconst (v := (0 : Int32)) dX9_jump_11 rfl (by decide) ?_
  refine a_ldc (v := (16777215 : Int32)) dX9_jump_12 rfl tw_850 ?_
  obtain ⟨r14, h14, hc14, hf⟩ := am_bind_some hf
  refine a_callS (As := [.int v1, .int ((0 : Int32)), .int ((16777215 : Int32))]) (r1 := (some (.int r14), Γ, h14)) (sX9_outside l hc14) ccX9_outside tw_819 tw_820 ⟨Nat.le_of_ble_eq_true rfl, Nat.le_of_ble_eq_true rfl, Nat.le_of_ble_eq_true rfl, Nat.le_of_ble_eq_true rfl⟩ dX9_jump_14 rfl rfl (Nat.le_of_ble_eq_true rfl) rfl rfl (fun hr14 => ?_)
  refine a_if_eq (t := 22) dX9_jump_17 rfl rfl hf (fun _ hf => ?_) (fun _ hf => ?_)
  · refine a_aload_n dX9_jump_22 rfl rfl ?_
    refine a_getR fl_RX9_32 dX9_jump_23 rfl k_v0 rfl (by decide) hf (fun b23 n_b23 _ k_b23 hf => ?_)
    refine a_sipush (v := (1000 : Int32)) dX9_jump_26 rfl (by decide) ?_
    refine a_iald dX9_jump_29 rfl k_b23 hf (fun hf => ?_)
    refine a_nmI hf (fun x30 hf => ?_)
    refine a_istore_n (L' := [some (.ref v0), some (.int v1), some (.int x30)]) dX9_jump_30 rfl (Nat.le_of_ble_eq_true rfl) (fun _ _ hv => by cases hv; rfl) rfl ?_
    refine a_aload_n dX9_jump_31 rfl rfl ?_
    refine a_getR fl_RX9_32 dX9_jump_32 rfl k_v0 rfl (by decide) hf (fun b32 n_b32 _ k_b32 hf => ?_)
    refine a_sipush (v := (1000 : Int32)) dX9_jump_35 rfl (by decide) ?_
    refine a_iload_n dX9_jump_38 rfl rfl ?_
    refine a_iast dX9_jump_39 rfl k_b32 hf (fun h39 hf => ?_)
    refine a_iload_n dX9_jump_40 rfl rfl ?_
    cases hf
    exact a_iret dX9_jump_41 rfl rfl rfl (by decide)
  refine a_iconst (v := (-1 : Int32)) dX9_jump_20 rfl (by decide) ?_
  cases hf
  exact a_iret dX9_jump_21 rfl rfl rfl (by decide)
set_option maxRecDepth 100000 in
set_option maxHeartbeats 4000000 in
theorem sX9_newest (l : Launch) {Γ : Gm} {h h' : AH} {v0 : Nat} {r : Int32} {n_v0 : Nat} (k_v0 : Γ[v0]? = some (9, n_v0)) (hf : fX9_newest Γ v0 h = some (r, h')) : AR l yX9_newest mX9_newest [.ref v0] Γ h (some (.int r), Γ, h') := by
  refine AR.of [some (.ref v0)] (by decide +kernel) rfl (fun z => by cases z) (Nat.le_of_ble_eq_true rfl) ⟨rfl, trivial⟩ ?_
  unfold fX9_newest at hf
  refine a_sipush (v := (1002 : Int32)) dX9_newest_0 rfl (by decide) ?_
  refine a_aload_n dX9_newest_3 rfl rfl ?_
  refine a_getR fl_RX9_32 dX9_newest_4 rfl k_v0 rfl (by decide) hf (fun b4 n_b4 _ k_b4 hf => ?_)
  refine a_sipush (v := (1001 : Int32)) dX9_newest_7 rfl (by decide) ?_
  refine a_iald dX9_newest_10 rfl k_b4 hf (fun hf => ?_)
  refine a_iconst (v := (1 : Int32)) dX9_newest_11 rfl (by decide) ?_
  refine a_isub dX9_newest_12 rfl ?_
  refine a_bipush (v := (60 : Int32)) dX9_newest_13 rfl (by decide) ?_
  refine a_imul dX9_newest_15 rfl ?_
  refine a_iadd dX9_newest_16 rfl ?_
  cases hf
  exact a_iret dX9_newest_17 rfl rfl rfl (by decide)
