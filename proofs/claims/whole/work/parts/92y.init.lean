/-! ===== the beginning: what the two constructors leave ===== -/
section INIT
def ini8 : Option (Gm × AH) := fX8_init [(8, 0)] 0 (am_new am_hz 0)
def ini9 : Option (Gm × AH) := ini8.bind fun p => fX9_init (p.1 ++ [(9, 0)]) 119 (am_new p.2 119)
def iniR (h : AH) (a : Nat) : Bool := (List.range 30).all fun j => decide (h.2 a j = RF 23 66 109 114 a j)
abbrev iniC (h : AH) : Prop := h.1 2 1 = nI 0 ∧ h.1 5 1 = nI 0 ∧ h.1 4 4 = nI 0 ∧ h.1 14 2 = nI 0 ∧ h.1 18 1 = nI 0 ∧ h.1 17 4 = nI 0 ∧ h.1 17 5 = nI 1000 ∧ h.1 23 2 = nI 0 ∧ h.1 23 3 = nI 0 ∧ h.1 23 4 = nI 0 ∧ h.1 110 1 = nI 0 ∧ h.1 109 3 = nI 0 ∧ h.1 0 12 = nI 0 ∧ h.1 0 13 = -2 ∧ h.1 0 14 = nI 0 ∧ h.1 0 15 = -2
abbrev iniM (h : AH) : Prop := h.1 119 1 = nI 0 ∧ h.1 119 3 = nI 0 ∧ h.1 119 5 = -2 ∧ h.1 119 6 = -2 ∧ h.1 119 9 = nI 0 ∧ h.1 119 14 = nI 0 ∧ h.1 119 15 = nI 1000 ∧ h.1 119 17 = nI 0 ∧ h.1 119 20 = nI 0 ∧ h.1 119 21 = -2 ∧ h.1 119 25 = nI 0
def iniT (o : Option (Gm × AH)) : Bool := match o with
  | none => false
  | some p => decide (p.1 = GG) && ((List.range 135).all (iniR p.2) && (decide (iniC p.2) && decide (iniM p.2)))
theorem iniT_ok : iniT ini9 = true := by decide +kernel
theorem inv_init {h : AH} (hR : RX h 23 66 109 114) (hC : iniC h) (hM : iniM h) : Inv h := by
  obtain ⟨a1, a2, a3, a4, a5, a6, a7, a8, a9, a10, a11, a12, a13, a14, a15, a16⟩ := hC
  obtain ⟨b1, b2, b3, b4, b5, b6, b7, b8, b9, b10, b11⟩ := hM
  have arr0 : ∀ g, Arr g [] := fun g i hi => by simp at hi
  refine ⟨23, 66, 109, 114, ([], [], none, none, [], [], ([], 0, []), [], 1000, [], 0, none, []), ?_, ?_, ?_⟩
  · refine ⟨⟨(fun b hb => by cases hb), by decide⟩, ⟨(fun b hb => by cases hb), by decide⟩, (fun d hd => by cases hd), (fun n hn => by cases hn), ⟨(fun b hb => by cases hb), by decide, fun z => absurd rfl z⟩, ⟨(fun b hb => by cases hb), by decide⟩, ⟨fun _ => ⟨rfl, rfl, rfl⟩, fun z => absurd rfl z⟩, ⟨by decide, by decide, by decide⟩, ⟨by decide, (fun x hx => by cases hx)⟩, ⟨by decide, (fun p hp => by cases hp)⟩, by decide, (fun c hc => by cases hc)⟩
  · refine ⟨hR, ⟨Or.inl rfl, Or.inr rfl, by decide, Or.inl rfl, Or.inr rfl, by decide⟩, ⟨hR.r2_0, by decide, a1, arr0 _⟩, ⟨⟨hR.r5_0, by decide, a2, arr0 _⟩, a3, by decide, fun i c hc => by simp at hc⟩, (fun d hd => by cases hd), ⟨a4, arr0 _, arr0 _⟩, ⟨⟨hR.r18_0, by decide, a5, arr0 _⟩, a6, a7, fun i s hs => by simp at hs⟩, ⟨a8, a9, a10, fun i hi => by simp at hi, fun i fm hi => by simp at hi⟩, ⟨⟨hR 110 0 (by decide) (by decide), by decide, a11, arr0 _⟩, a12, fun i x hx => by simp at hx⟩, a13, a14, a15, a16⟩
  · exact ⟨hR, ⟨b1, arr0 _⟩, ⟨b2, arr0 _⟩, ⟨b3, (fun d hd => by cases hd)⟩, b4, ⟨b5, arr0 _, arr0 _⟩, fun z => absurd rfl z, ⟨b6, b7, fun i s hs => by simp at hs⟩, ⟨b8, fun i x hx => by simp at hx⟩, ⟨b9, b10⟩, ⟨b11, fun i c hc => by simp at hc⟩⟩
theorem hinit : ∃ (Γ8 : Gm) (h8 h9 : AH), fX8_init [(8, 0)] 0 (am_new am_hz 0) = some (Γ8, h8) ∧ fX9_init (Γ8 ++ [(9, 0)]) 119 (am_new h8 119) = some (GG, h9) ∧ Inv h9 := by
  have hk := iniT_ok
  have e9 : ini9 = (fX8_init [(8, 0)] 0 (am_new am_hz 0)).bind fun p => fX9_init (p.1 ++ [(9, 0)]) 119 (am_new p.2 119) := rfl
  rw [e9] at hk
  cases h8 : fX8_init [(8, 0)] 0 (am_new am_hz 0) with
  | none => rw [h8] at hk; exact absurd hk (by decide)
  | some p8 =>
    obtain ⟨Γ8, k8⟩ := p8
    rw [h8, Option.bind_some] at hk
    cases h9 : fX9_init (Γ8 ++ [(9, 0)]) 119 (am_new k8 119) with
    | none => rw [h9] at hk; exact absurd hk (by decide)
    | some p9 =>
      obtain ⟨G9, k9⟩ := p9
      rw [h9] at hk
      unfold iniT at hk
      simp only [Bool.and_eq_true, decide_eq_true_eq, List.all_eq_true, List.mem_range] at hk
      obtain ⟨q1, q2, q3, q4⟩ := hk
      refine ⟨Γ8, k8, k9, rfl, by rw [h9, q1], inv_init (fun a j ha hj => ?_) q3 q4⟩
      have := q2 a ha
      unfold iniR at this
      simp only [List.all_eq_true, List.mem_range, decide_eq_true_eq] at this
      exact this j hj
end INIT
