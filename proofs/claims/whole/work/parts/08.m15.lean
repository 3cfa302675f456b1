set_option maxRecDepth 100000 in
set_option maxHeartbeats 4000000 in
theorem wX9_save_258 (l : Launch) {Γ : Gm} {r : Int32} {h' : AH} : ∀ (z : Nat) (v0 : Nat) (v2 : Int32) (h : AH), ∀ n_v0 : Nat, Γ[v0]? = some (9, n_v0) → fX9_save_258 Γ z v0 v2 h = some (r, h') → AW l mX9_save (some (.int r), Γ, h') 0 0 258 [some (.ref v0), none, some (.int v2), none] [] Γ h := by
  intro z
  induction z with
  | zero => intro v0 v2 h n_v0 k_v0 hf; cases hf
  | succ z ih =>
    intro v0 v2 h n_v0 k_v0 hf
    unfold fX9_save_258 at hf
    refine a_iload_n dX9_save_258 rfl rfl ?_
    refine a_aload_n dX9_save_259 rfl rfl ?_
    refine a_getI fl_RX9_100 dX9_save_260 rfl k_v0 rfl ?_
    refine a_icmp_ge (t := 284) dX9_save_263 rfl rfl hf (fun _ hf => ?_) (fun _ hf => ?_)
    · refine a_aload_n dX9_save_284 rfl rfl ?_
      refine a_aload_n dX9_save_285 rfl rfl ?_
      refine a_getI fl_RX9_100 dX9_save_286 rfl k_v0 rfl ?_
      refine a_putI fp_RX9_79 dX9_save_289 rfl k_v0 rfl hf (fun h289 hf => ?_)
      refine a_aload_n dX9_save_292 rfl rfl ?_
      refine a_getI fl_RX9_79 dX9_save_293 rfl k_v0 rfl ?_
      cases hf
      exact a_iret dX9_save_296 rfl rfl rfl (by decide)
    refine a_aload_n dX9_save_266 rfl rfl ?_
    refine a_getR fl_RX9_13 dX9_save_267 rfl k_v0 rfl (by decide) hf (fun b267 n_b267 _ k_b267 hf => ?_)
    refine a_iload_n dX9_save_270 rfl rfl ?_
    refine a_aload_n dX9_save_271 rfl rfl ?_
    refine a_getR fl_RX9_65 dX9_save_272 rfl k_v0 rfl (by decide) hf (fun b272 n_b272 _ k_b272 hf => ?_)
    refine a_iload_n dX9_save_275 rfl rfl ?_
    refine a_iald dX9_save_276 rfl k_b272 hf (fun hf => ?_)
    refine a_iast dX9_save_277 rfl k_b267 hf (fun h277 hf => ?_)
    refine a_iinc (v := v2 + nI 1) (L' := [some (.ref v0), none, some (.int (v2 + nI 1)), none]) dX9_save_278 rfl rfl rfl (Nat.le_of_ble_eq_true rfl) (fun _ _ hv => by cases hv) rfl ?_
    refine a_goto (t := 258) dX9_save_281 rfl ?_
    exact AW.weak (ih v0 (v2 + nI 1) h277 _ k_v0 hf) ⟨rfl, ⟨rfl, trivial⟩⟩
set_option maxRecDepth 100000 in
set_option maxHeartbeats 4000000 in
theorem wX9_save_193 (l : Launch) {Γ : Gm} {r : Int32} {h' : AH} {k169 : Nat → Int32 → AH → Option (Int32 × AH)} (hk169 : ∀ v0 v2 (h : AH), ∀ n_v0 : Nat, Γ[v0]? = some (9, n_v0) → k169 v0 v2 h = some (r, h') → AW l mX9_save (some (.int r), Γ, h') 0 0 169 [some (.ref v0), none, some (.int v2), none] [] Γ h) : ∀ (z : Nat) (v0 : Nat) (v2 : Int32) (v3 : Int32) (h : AH), ∀ n_v0 : Nat, Γ[v0]? = some (9, n_v0) → fX9_save_193 Γ k169 z v0 v2 v3 h = some (r, h') → AW l mX9_save (some (.int r), Γ, h') 0 0 193 [some (.ref v0), none, some (.int v2), some (.int v3)] [] Γ h := by
  intro z
  induction z with
  | zero => intro v0 v2 v3 h n_v0 k_v0 hf; cases hf
  | succ z ih =>
    intro v0 v2 v3 h n_v0 k_v0 hf
    unfold fX9_save_193 at hf
    refine a_iload_n dX9_save_193 rfl rfl ?_
    refine a_aload_n dX9_save_194 rfl rfl ?_
    refine a_getR fl_RX9_47 dX9_save_195 rfl k_v0 rfl (by decide) hf (fun b195 n_b195 _ k_b195 hf => ?_)
    refine a_sipush (v := nI 202) dX9_save_198 rfl (by decide) ?_
    refine a_iload_n dX9_save_201 rfl rfl ?_
    refine a_imul dX9_save_202 rfl ?_
    refine a_iconst (v := nI 1) dX9_save_203 rfl (by decide) ?_
    refine a_iadd dX9_save_204 rfl ?_
    refine a_iald dX9_save_205 rfl k_b195 hf (fun hf => ?_)
    refine a_icmp_ge (t := 234) dX9_save_206 rfl rfl hf (fun _ hf => ?_) (fun _ hf => ?_)
    · refine a_aload_n dX9_save_234 rfl rfl ?_
      obtain ⟨r235, h235, hc235, hf⟩ := am_bind_some hf
      refine a_callV (As := []) (r1 := (none, Γ, h235)) (sX9_close l k_v0 hc235) ccX9_close tw_905 tw_907 tp_19 (ci := 9) rfl (by decide) ⟨Nat.le_of_ble_eq_true rfl, Nat.le_of_ble_eq_true rfl, Nat.le_of_ble_eq_true rfl, Nat.le_of_ble_eq_true rfl⟩ dX9_save_235 rfl k_v0 rfl (Nat.le_of_ble_eq_true rfl) rfl rfl (fun hr235 => ?_)
      refine a_iinc (v := v2 + nI 1) (L' := [some (.ref v0), none, some (.int (v2 + nI 1)), some (.int v3)]) dX9_save_238 rfl rfl rfl (Nat.le_of_ble_eq_true rfl) (fun _ _ hv => by cases hv) rfl ?_
      refine a_goto (t := 169) dX9_save_241 rfl ?_
      exact AW.weak (hk169 v0 (v2 + nI 1) h235 _ k_v0 hf) ⟨rfl, ⟨rfl, trivial⟩⟩
    refine a_aload_n dX9_save_209 rfl rfl ?_
    refine a_aload_n dX9_save_210 rfl rfl ?_
    refine a_getR fl_RX9_47 dX9_save_211 rfl k_v0 rfl (by decide) hf (fun b211 n_b211 _ k_b211 hf => ?_)
    refine a_sipush (v := nI 202) dX9_save_214 rfl (by decide) ?_
    refine a_iload_n dX9_save_217 rfl rfl ?_
    refine a_imul dX9_save_218 rfl ?_
    refine a_iconst (v := nI 2) dX9_save_219 rfl (by decide) ?_
    refine a_iadd dX9_save_220 rfl ?_
    refine a_iload_n dX9_save_221 rfl rfl ?_
    refine a_iadd dX9_save_222 rfl ?_
    refine a_iald dX9_save_223 rfl k_b211 hf (fun hf => ?_)
    refine a_iconst (v := nI 1) dX9_save_224 rfl (by decide) ?_
    obtain ⟨r225, h225, hc225, hf⟩ := am_bind_some hf
    refine a_callV (As := [.int (h.1 b211 ((((nI 202) * v2) + (nI 2)) + v3).toNatClampNeg), .int (nI 1)]) (r1 := (none, Γ, h225)) (sX9_number l k_v0 hc225) ccX9_number tw_884 tw_886 tp_16 (ci := 9) rfl (by decide) ⟨Nat.le_of_ble_eq_true rfl, Nat.le_of_ble_eq_true rfl, Nat.le_of_ble_eq_true rfl, Nat.le_of_ble_eq_true rfl⟩ dX9_save_225 rfl k_v0 rfl (Nat.le_of_ble_eq_true rfl) rfl rfl (fun hr225 => ?_)
    refine a_iinc (v := v3 + nI 1) (L' := [some (.ref v0), none, some (.int v2), some (.int (v3 + nI 1))]) dX9_save_228 rfl rfl rfl (Nat.le_of_ble_eq_true rfl) (fun _ _ hv => by cases hv; rfl) rfl ?_
    refine a_goto (t := 193) dX9_save_231 rfl ?_
    exact AW.weak (ih v0 v2 (v3 + nI 1) h225 _ k_v0 hf) ⟨rfl, ⟨rfl, ⟨rfl, trivial⟩⟩⟩
set_option maxRecDepth 100000 in
set_option maxHeartbeats 4000000 in
theorem wX9_save_169 (l : Launch) {Γ : Gm} {r : Int32} {h' : AH} : ∀ (z : Nat) (v0 : Nat) (v2 : Int32) (h : AH), ∀ n_v0 : Nat, Γ[v0]? = some (9, n_v0) → fX9_save_169 Γ z v0 v2 h = some (r, h') → AW l mX9_save (some (.int r), Γ, h') 0 0 169 [some (.ref v0), none, some (.int v2), none] [] Γ h := by
  intro z
  induction z with
  | zero => intro v0 v2 h n_v0 k_v0 hf; cases hf
  | succ z ih =>
    intro v0 v2 h n_v0 k_v0 hf
    unfold fX9_save_169 at hf
    refine a_iload_n dX9_save_169 rfl rfl ?_
    refine a_aload_n dX9_save_170 rfl rfl ?_
    refine a_getI fl_RX9_88 dX9_save_171 rfl k_v0 rfl ?_
    refine a_icmp_ge (t := 244) dX9_save_174 rfl rfl hf (fun _ hf => ?_) (fun _ hf => ?_)
    · refine a_aload_n dX9_save_244 rfl rfl ?_
      refine a_iconst (v := nI 4) dX9_save_245 rfl (by decide) ?_
      refine a_aload_n dX9_save_246 rfl rfl ?_
      refine a_getI fl_RX9_100 dX9_save_247 rfl k_v0 rfl ?_
      refine a_bipush (v := nI 8) dX9_save_250 rfl (by decide) ?_
      refine a_isub dX9_save_252 rfl ?_
      obtain ⟨r253, h253, hc253, hf⟩ := am_bind_some hf
      refine a_callV (As := [.int (nI 4), .int ((h.1 v0 27) - (nI 8))]) (r1 := (none, Γ, h253)) (sX9_patch l k_v0 hc253) ccX9_patch tw_909 tw_911 tp_20 (ci := 9) rfl (by decide) ⟨Nat.le_of_ble_eq_true rfl, Nat.le_of_ble_eq_true rfl, Nat.le_of_ble_eq_true rfl, Nat.le_of_ble_eq_true rfl⟩ dX9_save_253 rfl k_v0 rfl (Nat.le_of_ble_eq_true rfl) rfl rfl (fun hr253 => ?_)
      refine a_iconst (v := nI 0) dX9_save_256 rfl (by decide) ?_
      refine a_istore_n (L' := [some (.ref v0), none, some (.int (nI 0)), none]) dX9_save_257 rfl (Nat.le_of_ble_eq_true rfl) (fun _ _ hv => by cases hv) rfl ?_
      exact AW.weak (wX9_save_258 l am_fuel v0 (nI 0) h253 _ k_v0 hf) ⟨rfl, ⟨rfl, trivial⟩⟩
    refine a_aload_n dX9_save_177 rfl rfl ?_
    refine a_aload_n dX9_save_178 rfl rfl ?_
    refine a_getR fl_RX9_47 dX9_save_179 rfl k_v0 rfl (by decide) hf (fun b179 n_b179 _ k_b179 hf => ?_)
    refine a_sipush (v := nI 202) dX9_save_182 rfl (by decide) ?_
    refine a_iload_n dX9_save_185 rfl rfl ?_
    refine a_imul dX9_save_186 rfl ?_
    refine a_iald dX9_save_187 rfl k_b179 hf (fun hf => ?_)
    obtain ⟨r188, h188, hc188, hf⟩ := am_bind_some hf
    refine a_callV (As := [.int (h.1 b179 ((nI 202) * v2).toNatClampNeg)]) (r1 := (none, Γ, h188)) (sX9_open l k_v0 hc188) ccX9_open tw_901 tw_903 tp_18 (ci := 9) rfl (by decide) ⟨Nat.le_of_ble_eq_true rfl, Nat.le_of_ble_eq_true rfl, Nat.le_of_ble_eq_true rfl, Nat.le_of_ble_eq_true rfl⟩ dX9_save_188 rfl k_v0 rfl (Nat.le_of_ble_eq_true rfl) rfl rfl (fun hr188 => ?_)
    refine a_iconst (v := nI 0) dX9_save_191 rfl (by decide) ?_
    refine a_istore_n (L' := [some (.ref v0), none, some (.int v2), some (.int (nI 0))]) dX9_save_192 rfl (Nat.le_of_ble_eq_true rfl) (fun _ _ hv => by cases hv; rfl) rfl ?_
    exact AW.weak (wX9_save_193 l ih am_fuel v0 v2 (nI 0) h188 _ k_v0 hf) ⟨rfl, ⟨rfl, ⟨rfl, trivial⟩⟩⟩
set_option maxRecDepth 100000 in
set_option maxHeartbeats 4000000 in
theorem wX9_save_145 (l : Launch) {Γ : Gm} {r : Int32} {h' : AH} (v0 : Nat) (h : AH) : ∀ n_v0 : Nat, Γ[v0]? = some (9, n_v0) → fX9_save_145 Γ v0 h = some (r, h') → AW l mX9_save (some (.int r), Γ, h') 0 0 145 [some (.ref v0), none, none, none] [] Γ h := by
  intro n_v0 k_v0 hf
  unfold fX9_save_145 at hf
  refine a_aload_n dX9_save_145 rfl rfl ?_
  obtain ⟨r146, h146, hc146, hf⟩ := am_bind_some hf
  refine a_callV (As := []) (r1 := (none, Γ, h146)) (sX9_close l k_v0 hc146) ccX9_close tw_905 tw_907 tp_19 (ci := 9) rfl (by decide) ⟨Nat.le_of_ble_eq_true rfl, Nat.le_of_ble_eq_true rfl, Nat.le_of_ble_eq_true rfl, Nat.le_of_ble_eq_true rfl⟩ dX9_save_146 rfl k_v0 rfl (Nat.le_of_ble_eq_true rfl) rfl rfl (fun hr146 => ?_)
  refine a_aload_n dX9_save_149 rfl rfl ?_
  refine a_ldc (v := nI 1400138611) dX9_save_150 rfl tw_919 ?_
  obtain ⟨r152, h152, hc152, hf⟩ := am_bind_some hf
  refine a_callV (As := [.int (nI 1400138611)]) (r1 := (none, Γ, h152)) (sX9_open l k_v0 hc152) ccX9_open tw_901 tw_903 tp_18 (ci := 9) rfl (by decide) ⟨Nat.le_of_ble_eq_true rfl, Nat.le_of_ble_eq_true rfl, Nat.le_of_ble_eq_true rfl, Nat.le_of_ble_eq_true rfl⟩ dX9_save_152 rfl k_v0 rfl (Nat.le_of_ble_eq_true rfl) rfl rfl (fun hr152 => ?_)
  refine a_aload_n dX9_save_155 rfl rfl ?_
  refine a_aload_n dX9_save_156 rfl rfl ?_
  refine a_getR fl_RX9_32 dX9_save_157 rfl k_v0 rfl (by decide) hf (fun b157 n_b157 _ k_b157 hf => ?_)
  obtain ⟨r160, h160, hc160, hf⟩ := am_bind_some hf
  refine a_callV (As := [.ref b157]) (r1 := (none, Γ, h160)) (sX9_makeD l k_v0 k_b157 hc160) ccX9_makeD tw_888 tw_890 tp_17 (ci := 9) rfl (by decide) ⟨Nat.le_of_ble_eq_true rfl, Nat.le_of_ble_eq_true rfl, Nat.le_of_ble_eq_true rfl, Nat.le_of_ble_eq_true rfl⟩ dX9_save_160 rfl k_v0 rfl (Nat.le_of_ble_eq_true rfl) rfl rfl (fun hr160 => ?_)
  refine a_aload_n dX9_save_163 rfl rfl ?_
  obtain ⟨r164, h164, hc164, hf⟩ := am_bind_some hf
  refine a_callV (As := []) (r1 := (none, Γ, h164)) (sX9_close l k_v0 hc164) ccX9_close tw_905 tw_907 tp_19 (ci := 9) rfl (by decide) ⟨Nat.le_of_ble_eq_true rfl, Nat.le_of_ble_eq_true rfl, Nat.le_of_ble_eq_true rfl, Nat.le_of_ble_eq_true rfl⟩ dX9_save_164 rfl k_v0 rfl (Nat.le_of_ble_eq_true rfl) rfl rfl (fun hr164 => ?_)
  refine a_iconst (v := nI 0) dX9_save_167 rfl (by decide) ?_
  refine a_istore_n (L' := [some (.ref v0), none, some (.int (nI 0)), none]) dX9_save_168 rfl (Nat.le_of_ble_eq_true rfl) (fun _ _ hv => by cases hv) rfl ?_
  exact AW.weak (wX9_save_169 l am_fuel v0 (nI 0) h164 _ k_v0 hf) ⟨rfl, ⟨rfl, trivial⟩⟩
set_option maxRecDepth 100000 in
set_option maxHeartbeats 4000000 in
theorem wX9_save_109 (l : Launch) {Γ : Gm} {r : Int32} {h' : AH} : ∀ (z : Nat) (v0 : Nat) (v2 : Int32) (h : AH), ∀ n_v0 : Nat, Γ[v0]? = some (9, n_v0) → fX9_save_109 Γ z v0 v2 h = some (r, h') → AW l mX9_save (some (.int r), Γ, h') 0 0 109 [some (.ref v0), none, some (.int v2), none] [] Γ h := by
  intro z
  induction z with
  | zero => intro v0 v2 h n_v0 k_v0 hf; cases hf
  | succ z ih =>
    intro v0 v2 h n_v0 k_v0 hf
    unfold fX9_save_109 at hf
    refine a_iload_n dX9_save_109 rfl rfl ?_
    refine a_aload_n dX9_save_110 rfl rfl ?_
    refine a_getI fl_RX9_82 dX9_save_111 rfl k_v0 rfl ?_
    refine a_icmp_ge (t := 134) dX9_save_114 rfl rfl hf (fun _ hf => ?_) (fun _ hf => ?_)
    · refine a_goto (t := 145) dX9_save_134 rfl ?_
      exact AW.weak (wX9_save_145 l v0 h _ k_v0 hf) ⟨rfl, trivial⟩
    refine a_aload_n dX9_save_117 rfl rfl ?_
    refine a_aload_n dX9_save_118 rfl rfl ?_
    refine a_getR fl_RX9_32 dX9_save_119 rfl k_v0 rfl (by decide) hf (fun b119 n_b119 _ k_b119 hf => ?_)
    refine a_iload_n dX9_save_122 rfl rfl ?_
    refine a_iald dX9_save_123 rfl k_b119 hf (fun hf => ?_)
    refine a_iconst (v := nI 1) dX9_save_124 rfl (by decide) ?_
    obtain ⟨r125, h125, hc125, hf⟩ := am_bind_some hf
    refine a_callV (As := [.int (h.1 b119 v2.toNatClampNeg), .int (nI 1)]) (r1 := (none, Γ, h125)) (sX9_number l k_v0 hc125) ccX9_number tw_884 tw_886 tp_16 (ci := 9) rfl (by decide) ⟨Nat.le_of_ble_eq_true rfl, Nat.le_of_ble_eq_true rfl, Nat.le_of_ble_eq_true rfl, Nat.le_of_ble_eq_true rfl⟩ dX9_save_125 rfl k_v0 rfl (Nat.le_of_ble_eq_true rfl) rfl rfl (fun hr125 => ?_)
    refine a_iinc (v := v2 + nI 1) (L' := [some (.ref v0), none, some (.int (v2 + nI 1)), none]) dX9_save_128 rfl rfl rfl (Nat.le_of_ble_eq_true rfl) (fun _ _ hv => by cases hv) rfl ?_
    refine a_goto (t := 109) dX9_save_131 rfl ?_
    exact AW.weak (ih v0 (v2 + nI 1) h125 _ k_v0 hf) ⟨rfl, ⟨rfl, trivial⟩⟩
set_option maxRecDepth 100000 in
set_option maxHeartbeats 4000000 in
theorem wX9_save_100 (l : Launch) {Γ : Gm} {r : Int32} {h' : AH} (v0 : Nat) (v1 : Int32) (s0 : Nat) (s1 : Int32) (h : AH) : ∀ n_v0 : Nat, Γ[v0]? = some (9, n_v0) → ∀ n_s0 : Nat, Γ[s0]? = some (9, n_s0) → fX9_save_100 Γ v0 v1 s0 s1 h = some (r, h') → AW l mX9_save (some (.int r), Γ, h') 0 0 100 [some (.ref v0), some (.int v1), none, none] [.int s1, .ref s0] Γ h := by
  intro n_v0 k_v0 n_s0 k_s0 hf
  unfold fX9_save_100 at hf
  obtain ⟨r100, h100, hc100, hf⟩ := am_bind_some hf
  refine a_callV (As := [.int s1]) (r1 := (none, Γ, h100)) (sX9_open l k_s0 hc100) ccX9_open tw_901 tw_903 tp_18 (ci := 9) rfl (by decide) ⟨Nat.le_of_ble_eq_true rfl, Nat.le_of_ble_eq_true rfl, Nat.le_of_ble_eq_true rfl, Nat.le_of_ble_eq_true rfl⟩ dX9_save_100 rfl k_s0 rfl (Nat.le_of_ble_eq_true rfl) rfl rfl (fun hr100 => ?_)
  refine a_iload_n dX9_save_103 rfl rfl ?_
  refine a_if_eq (t := 137) dX9_save_104 rfl rfl hf (fun _ hf => ?_) (fun _ hf => ?_)
  · refine a_aload_n dX9_save_137 rfl rfl ?_
    refine a_aload_n dX9_save_138 rfl rfl ?_
    refine a_getR fl_RX9_32 dX9_save_139 rfl k_v0 rfl (by decide) hf (fun b139 n_b139 _ k_b139 hf => ?_)
    obtain ⟨r142, h142, hc142, hf⟩ := am_bind_some hf
    refine a_callV (As := [.ref b139]) (r1 := (none, Γ, h142)) (sX9_makeB l k_v0 k_b139 hc142) ccX9_makeB tw_915 tw_917 tp_21 (ci := 9) rfl (by decide) ⟨Nat.le_of_ble_eq_true rfl, Nat.le_of_ble_eq_true rfl, Nat.le_of_ble_eq_true rfl, Nat.le_of_ble_eq_true rfl⟩ dX9_save_142 rfl k_v0 rfl (Nat.le_of_ble_eq_true rfl) rfl rfl (fun hr142 => ?_)
    exact AW.weak (wX9_save_145 l v0 h142 _ k_v0 hf) ⟨rfl, trivial⟩
  refine a_iconst (v := nI 0) dX9_save_107 rfl (by decide) ?_
  refine a_istore_n (L' := [some (.ref v0), some (.int v1), some (.int (nI 0)), none]) dX9_save_108 rfl (Nat.le_of_ble_eq_true rfl) (fun _ _ hv => by cases hv; rfl) rfl ?_
  exact AW.weak (wX9_save_109 l am_fuel v0 (nI 0) h100 _ k_v0 hf) ⟨rfl, ⟨rfl, trivial⟩⟩
set_option maxRecDepth 100000 in
set_option maxHeartbeats 4000000 in
theorem wX9_save_48 (l : Launch) {Γ : Gm} {r : Int32} {h' : AH} : ∀ (z : Nat) (v0 : Nat) (v1 : Int32) (v2 : Int32) (h : AH), ∀ n_v0 : Nat, Γ[v0]? = some (9, n_v0) → fX9_save_48 Γ z v0 v1 v2 h = some (r, h') → AW l mX9_save (some (.int r), Γ, h') 0 0 48 [some (.ref v0), some (.int v1), some (.int v2), none] [] Γ h := by
  intro z
  induction z with
  | zero => intro v0 v1 v2 h n_v0 k_v0 hf; cases hf
  | succ z ih =>
    intro v0 v1 v2 h n_v0 k_v0 hf
    unfold fX9_save_48 at hf
    refine a_iload_n dX9_save_48 rfl rfl ?_
    refine a_bipush (v := nI 10) dX9_save_49 rfl (by decide) ?_
    refine a_icmp_ge (t := 71) dX9_save_51 rfl rfl hf (fun _ hf => ?_) (fun _ hf => ?_)
    · refine a_aload_n dX9_save_71 rfl rfl ?_
      refine a_aload_n dX9_save_72 rfl rfl ?_
      refine a_getR fl_RX9_32 dX9_save_73 rfl k_v0 rfl (by decide) hf (fun b73 n_b73 _ k_b73 hf => ?_)
      refine a_sipush (v := nI 1000) dX9_save_76 rfl (by decide) ?_
      refine a_iald dX9_save_79 rfl k_b73 hf (fun hf => ?_)
      refine a_iconst (v := nI 3) dX9_save_80 rfl (by decide) ?_
      obtain ⟨r81, h81, hc81, hf⟩ := am_bind_some hf
      refine a_callV (As := [.int (h.1 b73 (nI 1000).toNatClampNeg), .int (nI 3)]) (r1 := (none, Γ, h81)) (sX9_number l k_v0 hc81) ccX9_number tw_884 tw_886 tp_16 (ci := 9) rfl (by decide) ⟨Nat.le_of_ble_eq_true rfl, Nat.le_of_ble_eq_true rfl, Nat.le_of_ble_eq_true rfl, Nat.le_of_ble_eq_true rfl⟩ dX9_save_81 rfl k_v0 rfl (Nat.le_of_ble_eq_true rfl) rfl rfl (fun hr81 => ?_)
      refine a_aload_n dX9_save_84 rfl rfl ?_
      obtain ⟨r85, h85, hc85, hf⟩ := am_bind_some hf
      refine a_callV (As := []) (r1 := (none, Γ, h85)) (sX9_close l k_v0 hc85) ccX9_close tw_905 tw_907 tp_19 (ci := 9) rfl (by decide) ⟨Nat.le_of_ble_eq_true rfl, Nat.le_of_ble_eq_true rfl, Nat.le_of_ble_eq_true rfl, Nat.le_of_ble_eq_true rfl⟩ dX9_save_85 rfl k_v0 rfl (Nat.le_of_ble_eq_true rfl) rfl rfl (fun hr85 => ?_)
      refine a_aload_n dX9_save_88 rfl rfl ?_
      refine a_iload_n dX9_save_89 rfl rfl ?_
      refine a_if_eq (t := 98) dX9_save_90 rfl rfl hf (fun _ hf => ?_) (fun _ hf => ?_)
      · refine a_ldc (v := nI 1129145709) dX9_save_98 rfl tw_914 ?_
        exact AW.weak (wX9_save_100 l v0 v1 v0 (nI 1129145709) h85 _ k_v0 _ k_v0 hf) ⟨rfl, ⟨rfl, trivial⟩⟩
      refine a_ldc (v := nI 1431135597) dX9_save_93 rfl tw_913 ?_
      refine a_goto (t := 100) dX9_save_95 rfl ?_
      exact AW.weak (wX9_save_100 l v0 v1 v0 (nI 1431135597) h85 _ k_v0 _ k_v0 hf) ⟨rfl, ⟨rfl, trivial⟩⟩
    refine a_aload_n dX9_save_54 rfl rfl ?_
    refine a_aload_n dX9_save_55 rfl rfl ?_
    refine a_getR fl_RX9_26 dX9_save_56 rfl k_v0 rfl (by decide) hf (fun b56 n_b56 _ k_b56 hf => ?_)
    refine a_iload_n dX9_save_59 rfl rfl ?_
    refine a_iald dX9_save_60 rfl k_b56 hf (fun hf => ?_)
    refine a_iconst (v := nI 1) dX9_save_61 rfl (by decide) ?_
    obtain ⟨r62, h62, hc62, hf⟩ := am_bind_some hf
    refine a_callV (As := [.int (h.1 b56 v2.toNatClampNeg), .int (nI 1)]) (r1 := (none, Γ, h62)) (sX9_number l k_v0 hc62) ccX9_number tw_884 tw_886 tp_16 (ci := 9) rfl (by decide) ⟨Nat.le_of_ble_eq_true rfl, Nat.le_of_ble_eq_true rfl, Nat.le_of_ble_eq_true rfl, Nat.le_of_ble_eq_true rfl⟩ dX9_save_62 rfl k_v0 rfl (Nat.le_of_ble_eq_true rfl) rfl rfl (fun hr62 => ?_)
    refine a_iinc (v := v2 + nI 1) (L' := [some (.ref v0), some (.int v1), some (.int (v2 + nI 1)), none]) dX9_save_65 rfl rfl rfl (Nat.le_of_ble_eq_true rfl) (fun _ _ hv => by cases hv; rfl) rfl ?_
    refine a_goto (t := 48) dX9_save_68 rfl ?_
    exact AW.weak (ih v0 v1 (v2 + nI 1) h62 _ k_v0 hf) ⟨rfl, ⟨rfl, ⟨rfl, trivial⟩⟩⟩
set_option maxRecDepth 100000 in
set_option maxHeartbeats 4000000 in
theorem sX9_save (l : Launch) {Γ : Gm} {h h' : AH} {v0 : Nat} {v1 : Int32} {r : Int32} {n_v0 : Nat} (k_v0 : Γ[v0]? = some (9, n_v0)) (hf : fX9_save Γ v0 v1 h = some (r, h')) : AR l yX9_save mX9_save [.ref v0, .int v1] Γ h (some (.int r), Γ, h') := by
  refine AR.of [some (.ref v0), some (.int v1), none, none] (by decide +kernel) rfl (fun z => by cases z) (Nat.le_of_ble_eq_true rfl) ⟨rfl, ⟨rfl, trivial⟩⟩ ?_
  unfold fX9_save at hf
  refine a_aload_n dX9_save_0 rfl rfl ?_
  refine a_getI fl_RX9_82 dX9_save_1 rfl k_v0 rfl ?_
  refine a_if_ne (t := 10) dX9_save_4 rfl rfl hf (fun _ hf => ?_) (fun _ hf => ?_)
  · refine a_bipush (v := (-4 : Int32)) dX9_save_7 rfl (by decide) ?_
    cases hf
    exact a_iret dX9_save_9 rfl rfl rfl (by decide)
  refine a_aload_n dX9_save_10 rfl rfl ?_
  refine a_iconst (v := nI 0) dX9_save_11 rfl (by decide) ?_
  refine a_putI fp_RX9_100 dX9_save_12 rfl k_v0 rfl hf (fun h12 hf => ?_)
  refine a_aload_n dX9_save_15 rfl rfl ?_
  refine a_iconst (v := nI 0) dX9_save_16 rfl (by decide) ?_
  refine a_putI fp_RX9_117 dX9_save_17 rfl k_v0 rfl hf (fun h17 hf => ?_)
  refine a_aload_n dX9_save_20 rfl rfl ?_
  refine a_ldc (v := nI 1179603533) dX9_save_21 rfl tw_898 ?_
  refine a_iconst (v := nI 4) dX9_save_23 rfl (by decide) ?_
  obtain ⟨r24, h24, hc24, hf⟩ := am_bind_some hf
  refine a_callV (As := [.int (nI 1179603533), .int (nI 4)]) (r1 := (none, Γ, h24)) (sX9_number l k_v0 hc24) ccX9_number tw_884 tw_886 tp_16 (ci := 9) rfl (by decide) ⟨Nat.le_of_ble_eq_true rfl, Nat.le_of_ble_eq_true rfl, Nat.le_of_ble_eq_true rfl, Nat.le_of_ble_eq_true rfl⟩ dX9_save_24 rfl k_v0 rfl (Nat.le_of_ble_eq_true rfl) rfl rfl (fun hr24 => ?_)
  refine a_aload_n dX9_save_27 rfl rfl ?_
  refine a_iconst (v := nI 0) dX9_save_28 rfl (by decide) ?_
  refine a_iconst (v := nI 4) dX9_save_29 rfl (by decide) ?_
  obtain ⟨r30, h30, hc30, hf⟩ := am_bind_some hf
  refine a_callV (As := [.int (nI 0), .int (nI 4)]) (r1 := (none, Γ, h30)) (sX9_number l k_v0 hc30) ccX9_number tw_884 tw_886 tp_16 (ci := 9) rfl (by decide) ⟨Nat.le_of_ble_eq_true rfl, Nat.le_of_ble_eq_true rfl, Nat.le_of_ble_eq_true rfl, Nat.le_of_ble_eq_true rfl⟩ dX9_save_30 rfl k_v0 rfl (Nat.le_of_ble_eq_true rfl) rfl rfl (fun hr30 => ?_)
  refine a_aload_n dX9_save_33 rfl rfl ?_
  refine a_ldc (v := nI 1229347411) dX9_save_34 rfl tw_899 ?_
  refine a_iconst (v := nI 4) dX9_save_36 rfl (by decide) ?_
  obtain ⟨r37, h37, hc37, hf⟩ := am_bind_some hf
  refine a_callV (As := [.int (nI 1229347411), .int (nI 4)]) (r1 := (none, Γ, h37)) (sX9_number l k_v0 hc37) ccX9_number tw_884 tw_886 tp_16 (ci := 9) rfl (by decide) ⟨Nat.le_of_ble_eq_true rfl, Nat.le_of_ble_eq_true rfl, Nat.le_of_ble_eq_true rfl, Nat.le_of_ble_eq_true rfl⟩ dX9_save_37 rfl k_v0 rfl (Nat.le_of_ble_eq_true rfl) rfl rfl (fun hr37 => ?_)
  refine a_aload_n dX9_save_40 rfl rfl ?_
  refine a_ldc (v := nI 1229351012) dX9_save_41 rfl tw_900 ?_
  obtain ⟨r43, h43, hc43, hf⟩ := am_bind_some hf
  refine a_callV (As := [.int (nI 1229351012)]) (r1 := (none, Γ, h43)) (sX9_open l k_v0 hc43) ccX9_open tw_901 tw_903 tp_18 (ci := 9) rfl (by decide) ⟨Nat.le_of_ble_eq_true rfl, Nat.le_of_ble_eq_true rfl, Nat.le_of_ble_eq_true rfl, Nat.le_of_ble_eq_true rfl⟩ dX9_save_43 rfl k_v0 rfl (Nat.le_of_ble_eq_true rfl) rfl rfl (fun hr43 => ?_)
  refine a_iconst (v := nI 0) dX9_save_46 rfl (by decide) ?_
  refine a_istore_n (L' := [some (.ref v0), some (.int v1), some (.int (nI 0)), none]) dX9_save_47 rfl (Nat.le_of_ble_eq_true rfl) (fun _ _ hv => by cases hv; rfl) rfl ?_
  exact AW.weak (wX9_save_48 l am_fuel v0 v1 (nI 0) h43 _ k_v0 hf) ⟨rfl, ⟨rfl, ⟨rfl, trivial⟩⟩⟩
set_option maxRecDepth 100000 in
set_option maxHeartbeats 4000000 in
theorem sX9_wrong (l : Launch) {Γ : Gm} {h h' : AH} {v0 : Nat} {v1 : Int32} {v2 : Int32} {r : Int32} {n_v0 : Nat} (k_v0 : Γ[v0]? = some (9, n_v0)) (hf : fX9_wrong Γ v0 v1 v2 h = some (r, h')) : AR l yX9_wrong mX9_wrong [.ref v0, .int v1, .int v2] Γ h (some (.int r), Γ, h') := by
  refine AR.of [some (.ref v0), some (.int v1), some (.int v2)] (by decide +kernel) rfl (fun z => by cases z) (Nat.le_of_ble_eq_true rfl) ⟨rfl, ⟨rfl, ⟨rfl, trivial⟩⟩⟩ ?_
  unfold fX9_wrong at hf
  refine a_aload_n dX9_wrong_0 rfl rfl ?_
  refine a_iload_n dX9_wrong_1 rfl rfl ?_
  refine a_putI fp_RX9_136 dX9_wrong_2 rfl k_v0 rfl hf (fun h2 hf => ?_)
  refine a_aload_n dX9_wrong_5 rfl rfl ?_
  refine a_iload_n dX9_wrong_6 rfl rfl ?_
  refine a_putI fp_RX9_53 dX9_wrong_7 rfl k_v0 rfl hf (fun h7 hf => ?_)
  refine a_iconst (v := nI 0) dX9_wrong_10 rfl (by decide) ?_
  cases hf
  exact a_zret dX9_wrong_11 rfl rfl rfl (by decide)
set_option maxRecDepth 100000 in
set_option maxHeartbeats 4000000 in
theorem sX9_numberAt (l : Launch) {Γ : Gm} {h h' : AH} {v0 : Nat} {v1 : Int32} {r : Int64} {n_v0 : Nat} (k_v0 : Γ[v0]? = some (9, n_v0)) (hf : fX9_numberAt Γ v0 v1 h = some (r, h')) : AR l yX9_numberAt mX9_numberAt [.ref v0, .int v1] Γ h (some (.long r), Γ, h') := by
  refine AR.of [some (.ref v0), some (.int v1)] (by decide +kernel) rfl (fun z => by cases z) (Nat.le_of_ble_eq_true rfl) ⟨rfl, ⟨rfl, trivial⟩⟩ ?_
  unfold fX9_numberAt at hf
  refine a_aload_n dX9_numberAt_0 rfl rfl ?_
  refine a_getR fl_RX9_9 dX9_numberAt_1 rfl k_v0 rfl (by decide) hf (fun b1 n_b1 _ k_b1 hf => ?_)
  refine a_iload_n dX9_numberAt_4 rfl rfl ?_
  refine a_iald dX9_numberAt_5 rfl k_b1 hf (fun hf => ?_)
  refine a_i2l dX9_numberAt_6 rfl ?_
  refine a_bipush (v := nI 24) dX9_numberAt_7 rfl (by decide) ?_
  refine a_lshl dX9_numberAt_9 rfl ?_
  refine a_aload_n dX9_numberAt_10 rfl rfl ?_
  refine a_getR fl_RX9_9 dX9_numberAt_11 rfl k_v0 rfl (by decide) hf (fun b11 n_b11 _ k_b11 hf => ?_)
  refine a_iload_n dX9_numberAt_14 rfl rfl ?_
  refine a_iconst (v := nI 1) dX9_numberAt_15 rfl (by decide) ?_
  refine a_iadd dX9_numberAt_16 rfl ?_
  refine a_iald dX9_numberAt_17 rfl k_b11 hf (fun hf => ?_)
  refine a_bipush (v := nI 16) dX9_numberAt_18 rfl (by decide) ?_
  refine a_ishl dX9_numberAt_20 rfl ?_
  refine a_i2l dX9_numberAt_21 rfl ?_
  refine a_lor dX9_numberAt_22 rfl ?_
  refine a_aload_n dX9_numberAt_23 rfl rfl ?_
  refine a_getR fl_RX9_9 dX9_numberAt_24 rfl k_v0 rfl (by decide) hf (fun b24 n_b24 _ k_b24 hf => ?_)
  refine a_iload_n dX9_numberAt_27 rfl rfl ?_
  refine a_iconst (v := nI 2) dX9_numberAt_28 rfl (by decide) ?_
  refine a_iadd dX9_numberAt_29 rfl ?_
  refine a_iald dX9_numberAt_30 rfl k_b24 hf (fun hf => ?_)
  refine a_bipush (v := nI 8) dX9_numberAt_31 rfl (by decide) ?_
  refine a_ishl dX9_numberAt_33 rfl ?_
  refine a_i2l dX9_numberAt_34 rfl ?_
  refine a_lor dX9_numberAt_35 rfl ?_
  refine a_aload_n dX9_numberAt_36 rfl rfl ?_
  refine a_getR fl_RX9_9 dX9_numberAt_37 rfl k_v0 rfl (by decide) hf (fun b37 n_b37 _ k_b37 hf => ?_)
  refine a_iload_n dX9_numberAt_40 rfl rfl ?_
  refine a_iconst (v := nI 3) dX9_numberAt_41 rfl (by decide) ?_
  refine a_iadd dX9_numberAt_42 rfl ?_
  refine a_iald dX9_numberAt_43 rfl k_b37 hf (fun hf => ?_)
  refine a_i2l dX9_numberAt_44 rfl ?_
  refine a_lor dX9_numberAt_45 rfl ?_
  cases hf
  exact a_lret dX9_numberAt_46 rfl rfl rfl
set_option maxRecDepth 100000 in
set_option maxHeartbeats 4000000 in
theorem wX9_readA_19 (l : Launch) {Γ : Gm} {r : Int32} {h' : AH} : ∀ (z : Nat) (v0 : Nat) (v2 : Int32) (v4 : Int32) (h : AH), ∀ n_v0 : Nat, Γ[v0]? = some (9, n_v0) → fX9_readA_19 Γ z v0 v2 v4 h = some (r, h') → AW l mX9_readA (some (.int r), Γ, h') 0 0 19 [some (.ref v0), none, some (.int v2), none, some (.int v4)] [] Γ h := by
  intro z
  induction z with
  | zero => intro v0 v2 v4 h n_v0 k_v0 hf; cases hf
  | succ z ih =>
    intro v0 v2 v4 h n_v0 k_v0 hf
    unfold fX9_readA_19 at hf
    refine a_iload dX9_readA_19 rfl rfl ?_
    refine a_bipush (v := nI 10) dX9_readA_21 rfl (by decide) ?_
    refine a_icmp_ge (t := 62) dX9_readA_23 rfl rfl hf (fun _ hf => ?_) (fun _ hf => ?_)
    · refine a_aload_n dX9_readA_62 rfl rfl ?_
      refine a_getR fl_RX9_35 dX9_readA_63 rfl k_v0 rfl (by decide) hf (fun b63 n_b63 _ k_b63 hf => ?_)
      refine a_sipush (v := nI 1000) dX9_readA_66 rfl (by decide) ?_
      refine a_aload_n dX9_readA_69 rfl rfl ?_
      refine a_getR fl_RX9_9 dX9_readA_70 rfl k_v0 rfl (by decide) hf (fun b70 n_b70 _ k_b70 hf => ?_)
      refine a_iload_n dX9_readA_73 rfl rfl ?_
      refine a_bipush (v := nI 10) dX9_readA_74 rfl (by decide) ?_
      refine a_iadd dX9_readA_76 rfl ?_
      refine a_iald dX9_readA_77 rfl k_b70 hf (fun hf => ?_)
      refine a_bipush (v := nI 16) dX9_readA_78 rfl (by decide) ?_
      refine a_ishl dX9_readA_80 rfl ?_
      refine a_aload_n dX9_readA_81 rfl rfl ?_
      refine a_getR fl_RX9_9 dX9_readA_82 rfl k_v0 rfl (by decide) hf (fun b82 n_b82 _ k_b82 hf => ?_)
      refine a_iload_n dX9_readA_85 rfl rfl ?_
      refine a_bipush (v := nI 11) dX9_readA_86 rfl (by decide) ?_
      refine a_iadd dX9_readA_88 rfl ?_
      refine a_iald dX9_readA_89 rfl k_b82 hf (fun hf => ?_)
      refine a_bipush (v := nI 8) dX9_readA_90 rfl (by decide) ?_
      refine a_ishl dX9_readA_92 rfl ?_
      refine a_ior dX9_readA_93 rfl ?_
      refine a_aload_n dX9_readA_94 rfl rfl ?_
      refine a_getR fl_RX9_9 dX9_readA_95 rfl k_v0 rfl (by decide) hf (fun b95 n_b95 _ k_b95 hf => ?_)
      refine a_iload_n dX9_readA_98 rfl rfl ?_
      refine a_bipush (v := nI 12) dX9_readA_99 rfl (by decide) ?_
      refine a_iadd dX9_readA_101 rfl ?_
      refine a_iald dX9_readA_102 rfl k_b95 hf (fun hf => ?_)
      refine a_ior dX9_readA_103 rfl ?_
      refine a_iast dX9_readA_104 rfl k_b63 hf (fun h104 hf => ?_)
      refine a_iconst (v := nI 1) dX9_readA_105 rfl (by decide) ?_
      cases hf
      exact a_zret dX9_readA_106 rfl rfl rfl (by decide)
    refine a_aload_n dX9_readA_26 rfl rfl ?_
    refine a_getR fl_RX9_9 dX9_readA_27 rfl k_v0 rfl (by decide) hf (fun b27 n_b27 _ k_b27 hf => ?_)
    refine a_iload_n dX9_readA_30 rfl rfl ?_
    refine a_iload dX9_readA_31 rfl rfl ?_
    refine a_iadd dX9_readA_33 rfl ?_
    refine a_iald dX9_readA_34 rfl k_b27 hf (fun hf => ?_)
    refine a_aload_n dX9_readA_35 rfl rfl ?_
    refine a_getR fl_RX9_26 dX9_readA_36 rfl k_v0 rfl (by decide) hf (fun b36 n_b36 _ k_b36 hf => ?_)
    refine a_iload dX9_readA_39 rfl rfl ?_
    refine a_iald dX9_readA_41 rfl k_b36 hf (fun hf => ?_)
    refine a_icmp_eq (t := 56) dX9_readA_42 rfl rfl hf (fun _ hf => ?_) (fun _ hf => ?_)
    · refine a_iinc (v := v4 + nI 1) (L' := [some (.ref v0), none, some (.int v2), none, some (.int (v4 + nI 1))]) dX9_readA_56 rfl rfl rfl (Nat.le_of_ble_eq_true rfl) (fun _ _ hv => by cases hv) rfl ?_
      refine a_goto (t := 19) dX9_readA_59 rfl ?_
      exact AW.weak (ih v0 v2 (v4 + nI 1) h _ k_v0 hf) ⟨rfl, ⟨rfl, ⟨rfl, trivial⟩⟩⟩
    refine a_aload_n dX9_readA_45 rfl rfl ?_
    refine a_bipush (v := nI 6) dX9_readA_46 rfl (by decide) ?_
    refine a_iload_n dX9_readA_48 rfl rfl ?_
    refine a_iload dX9_readA_49 rfl rfl ?_
    refine a_iadd dX9_readA_51 rfl ?_
    obtain ⟨r52, h52, hc52, hf⟩ := am_bind_some hf
    refine a_callV (As := [.int (nI 6), .int (v2 + v4)]) (r1 := (some (.int r52), Γ, h52)) (sX9_wrong l k_v0 hc52) ccX9_wrong tw_928 tw_930 tp_23 (ci := 9) rfl (by decide) ⟨Nat.le_of_ble_eq_true rfl, Nat.le_of_ble_eq_true rfl, Nat.le_of_ble_eq_true rfl, Nat.le_of_ble_eq_true rfl⟩ dX9_readA_52 rfl k_v0 rfl (Nat.le_of_ble_eq_true rfl) rfl rfl (fun hr52 => ?_)
    cases hf
    exact a_zret dX9_readA_55 rfl rfl rfl (hr52.2 rfl _ rfl)
set_option maxRecDepth 100000 in
set_option maxHeartbeats 4000000 in
theorem sX9_readA (l : Launch) {Γ : Gm} {h h' : AH} {v0 : Nat} {v1 : Int32} {v2 : Int32} {v3 : Int32} {r : Int32} {n_v0 : Nat} (k_v0 : Γ[v0]? = some (9, n_v0)) (hf : fX9_readA Γ v0 v1 v2 v3 h = some (r, h')) : AR l yX9_readA mX9_readA [.ref v0, .int v1, .int v2, .int v3] Γ h (some (.int r), Γ, h') := by
  refine AR.of [some (.ref v0), some (.int v1), some (.int v2), some (.int v3), none] (by decide +kernel) rfl (fun z => by cases z) (Nat.le_of_ble_eq_true rfl) ⟨rfl, ⟨rfl, ⟨rfl, ⟨rfl, trivial⟩⟩⟩⟩ ?_
  unfold fX9_readA at hf
  refine a_iload_n dX9_readA_0 rfl rfl ?_
  refine a_bipush (v := nI 13) dX9_readA_1 rfl (by decide) ?_
  refine a_icmp_eq (t := 16) dX9_readA_3 rfl rfl hf (fun _ hf => ?_) (fun _ hf => ?_)
  · refine a_iconst (v := nI 0) dX9_readA_16 rfl (by decide) ?_
    refine a_istore (L' := [some (.ref v0), some (.int v1), some (.int v2), some (.int v3), some (.int (nI 0))]) dX9_readA_17 rfl (Nat.le_of_ble_eq_true rfl) (fun _ _ hv => by cases hv; rfl) rfl ?_
    exact AW.weak (wX9_readA_19 l am_fuel v0 v2 (nI 0) h _ k_v0 hf) ⟨rfl, ⟨rfl, ⟨rfl, trivial⟩⟩⟩
  refine a_aload_n dX9_readA_6 rfl rfl ?_
  refine a_bipush (v := nI 6) dX9_readA_7 rfl (by decide) ?_
  refine a_iload_n dX9_readA_9 rfl rfl ?_
  refine a_iconst (v := nI 4) dX9_readA_10 rfl (by decide) ?_
  refine a_iadd dX9_readA_11 rfl ?_
  obtain ⟨r12, h12, hc12, hf⟩ := am_bind_some hf
  refine a_callV (As := [.int (nI 6), .int (v1 + (nI 4))]) (r1 := (some (.int r12), Γ, h12)) (sX9_wrong l k_v0 hc12) ccX9_wrong tw_928 tw_930 tp_23 (ci := 9) rfl (by decide) ⟨Nat.le_of_ble_eq_true rfl, Nat.le_of_ble_eq_true rfl, Nat.le_of_ble_eq_true rfl, Nat.le_of_ble_eq_true rfl⟩ dX9_readA_12 rfl k_v0 rfl (Nat.le_of_ble_eq_true rfl) rfl rfl (fun hr12 => ?_)
  cases hf
  exact a_zret dX9_readA_15 rfl rfl rfl (hr12.2 rfl _ rfl)
