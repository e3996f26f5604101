section YY2
variable {mb mp at_ en sa fb cm cb ca cg cp ct cl pa ps : Int → Int} {E fr st am pc tp md po ls n A0 v u z : Int}
theorem Y_body (h : zY mb mp E fr st am pc tp md po ls at_ en sa fb cm cb ca cg cp ct cl pa ps n A0 v u z) (hn : n = fr + 1) (hb : cb fr + 1 ≤ mb (cm fr)) : zY mb mp E fr st am pc tp md po ls at_ en sa fb cm (yup cb fr (cb fr + 1)) ca cg cp ct cl pa ps n A0 v (u + 1) (z + 3440) := by
  obtain ⟨⟨a1, a2, a3, a4, a5, a6, a7, a8, a9⟩, ⟨b1, b2, b3, b4, b5, b6, b7, b8, b9, b10, b11⟩, hF, hT, hL, hP, hC, hD, hZ, ⟨hK, hS⟩, ⟨hO0, hO⟩, hB, ⟨hG1, hG2⟩⟩ := h
  subst hn
  obtain ⟨d1, d2⟩ := hD rfl
  have e1 : fr + 1 - 1 = fr := by omega
  refine ⟨⟨a1, a2, a3, a4, a5, a6, a7, by omega, by omega⟩, ⟨b1, b2, b3, b4, b5, b6, b7, b8, b9, b10, b11⟩, fun g g1 g2 => ?_, hT, fun g g0 g1 => ?_, fun q => ?_, fun q => by omega, fun q => ?_, hZ, ⟨hK, hS⟩, ⟨hO0, ?_⟩, hB, ⟨hG1, fun q => by omega⟩⟩
  · obtain ⟨q1, q2, q3⟩ := hF g g1 g2
    refine ⟨q1, q2, ?_⟩
    rw [yup_n (by omega)]
    exact q3
  · obtain ⟨q1, q2, q3⟩ := hL g g0 g1
    exact ⟨q1.mo (Int.le_refl _) g0 rfl (yup_n (by omega)) rfl rfl rfl (yP_cg (fun _ => ⟨yup_n (by omega), rfl⟩)), q2, q3.cg (yup_n (by omega)) rfl rfl rfl (fun i _ => ⟨rfl, rfl⟩)⟩
  · obtain ⟨q1, q2, q3, q4⟩ := hP q
    rw [e1] at q1 q2 q3 q4 ⊢
    rw [if_neg (by omega)] at q1 ⊢
    refine ⟨?_, q2, ?_, ?_⟩
    · unfold yQ1 at q1 ⊢
      rw [yup_s, yP_cg (cb := cb) (cl := cl) (fun _ => ⟨yup_n (by omega), rfl⟩)]
      omega
    · unfold yQ3 at q3 ⊢
      rw [yup_s]
      obtain ⟨⟨r1, r2, r3, r4, r5, r6, r7⟩, r8, r9⟩ := q3
      exact ⟨⟨r1, by omega, r3, r4, r5, r6, r7⟩, r8, r9⟩
    · rw [yup_s]
      omega
  · refine ⟨d1, ?_⟩
    rw [yup_s]
    omega
  · have e2 : zSum (yup cb fr (cb fr + 1)) 0 (fr + 1).toNat = zSum cb 0 (fr + 1).toNat + 1 := by
      have z1 := zSum_s (g := yup cb fr (cb fr + 1)) (b := 0) (i := fr) (by omega)
      have z2 := zSum_s (g := cb) (b := 0) (i := fr) (by omega)
      rw [Int.zero_add, yup_s] at z1
      rw [Int.zero_add] at z2
      rw [z1, z2, zSum_cg (g := yup cb fr (cb fr + 1)) (h := cb) fr.toNat (fun i hi => yup_n (by omega))]
      omega
    rw [e2]
    omega
theorem Y_piece (h : zY mb mp E fr st am pc tp md po ls at_ en sa fb cm cb ca cg cp ct cl pa ps n A0 v u z) (hn : n = fr + 1) (hu : 1 ≤ u) : zY mb mp E fr st am (pc + 1) tp md po ls at_ en sa fb cm cb ca cg cp ct cl (yup pa pc tp) (yup ps pc 0) n A0 v (u - 1) z := by
  obtain ⟨⟨a1, a2, a3, a4, a5, a6, a7, a8, a9⟩, ⟨b1, b2, b3, b4, b5, b6, b7, b8, b9, b10, b11⟩, hF, hT, hL, hP, hC, hD, hZ, ⟨hK, hS⟩, ⟨hO0, hO⟩, hB, ⟨hG1, hG2⟩⟩ := h
  subst hn
  have e1 : fr + 1 - 1 = fr := by omega
  refine ⟨⟨a1, a2, a3, a4, a5, a6, a7, by omega, a9⟩, ⟨b1, b2, b3, b4, by omega, b6, b7, b8, b9, b10, b11⟩, hF, hT, fun g g0 g1 => ?_, fun q => ?_, fun q => by omega, hD, fun q => by omega, ⟨fun i i0 i1 => ?_, fun i i0 i1 => ?_⟩, ⟨hO0, by omega⟩, hB, ⟨hG1, fun q => by omega⟩⟩
  · obtain ⟨q1, q2, q3⟩ := hL g g0 g1
    refine ⟨q1, q2, q3.cg rfl rfl rfl rfl (fun i hi => ?_)⟩
    have hle : cp (g + 1) ≤ pc := by
      obtain ⟨_, _, p3, _⟩ := hP (by omega)
      rw [e1] at p3
      have hm : ∀ (k : Nat), (k : Int) ≤ fr → cp (fr - k) ≤ cp fr := fun k => by
        induction k with
        | zero => intro _; rw [show fr - ((0 : Nat) : Int) = fr by omega]; exact Int.le_refl _
        | succ k ih =>
          intro hk
          have q := (hL (fr - (k + 1 : Nat)) (by omega) (by omega)).2.2.1.1
          rw [show fr - ((k + 1 : Nat) : Int) + 1 = fr - k by omega] at q
          have := ih (by omega)
          omega
      have := hm (fr - (g + 1)).toNat (by omega)
      rw [show fr - ((fr - (g + 1)).toNat : Int) = g + 1 by omega] at this
      have := p3.1.1
      omega
    exact ⟨yup_n (by omega), yup_n (by omega)⟩
  · obtain ⟨q1, q2, q3, q4⟩ := hP q
    rw [e1] at q1 q2 q3 q4 ⊢
    refine ⟨q1, q2, ?_, by omega⟩
    unfold yQ3 at q3 ⊢
    obtain ⟨⟨r1, r2, r3, r4, r5, r6, r7⟩, r8, r9⟩ := q3
    refine ⟨⟨by omega, by omega, r3, r4, r5, r6, r7⟩, fun q => by omega, fun _ => ?_⟩
    rw [show pc + 1 - 1 = pc by omega, yup_s, yup_s]
    by_cases hq : cp fr < pc
    · obtain ⟨s1, s2, s3, s4, s5, s6⟩ := r9 hq
      rw [yup_n (by omega)]
      have := hS (pc - 1) (by omega) (by omega)
      omega
    · have := r8 (by omega)
      rw [show cp fr = pc by omega, yup_s]
      omega
  · by_cases q : i + 1 = pc
    · obtain ⟨_, _, q3, _⟩ := hP (by omega)
      rw [e1] at q3
      rw [q, yup_s, yup_n (by omega), yup_n (by omega)]
      by_cases hq : cp fr < pc
      · have := (q3.2.2 hq).2.1
        rw [show pc - 1 = i by omega] at this
        exact this
      · -- the last piece is of a frame below
        have h0 : 0 < fr := by
          by_cases q0 : fr = 0
          · have := q3.1
            rw [q0] at this hq
            omega
          · omega
        have hTe := q3.2.1 (by have := q3.1.1; omega)
        -- go down to the frame that has it
        have key : ∀ (k : Nat), (k : Int) ≤ fr → (∀ g, fr - k ≤ g → g ≤ fr → cp g = pc ∧ ct g = tp) → pa i + ps i ≤ tp := fun k => by
          induction hfk : (fr - (k : Int)).toNat generalizing k with
          | zero =>
            intro hk hall
            have := hall (fr - k) (Int.le_refl _) (by omega)
            have e0 : fr - (k : Int) = 0 := by omega
            rw [e0] at this
            have hq0 : (cp 0 ≤ 0 ∧ 0 ≤ cp 0) := by
              by_cases z0 : fr = 0
              · omega
              · have := (hL 0 (by omega) (by omega)).2.2.1
                omega
            omega
          | succ w ihw =>
            intro hk hall
            have hl := (hL (fr - k - 1) (by omega) (by omega)).2.2
            rw [show fr - (k : Int) - 1 + 1 = fr - k by omega] at hl
            have hh := hall (fr - k) (Int.le_refl _) (by omega)
            rw [hh.1, hh.2] at hl
            by_cases q5 : cp (fr - k - 1) < pc
            · have := (hl.2.2 q5).2.1
              rw [show pc - 1 = i by omega] at this
              exact this
            · have e6 := hl.2.1 (by have := hl.1.1; omega)
              refine ihw (k + 1) (by omega) (by omega) (fun g g0 g1 => ?_)
              by_cases q7 : g = fr - k - 1
              · rw [q7]
                exact ⟨by have := hl.1.1; omega, e6.symm⟩
              · exact hall g (by omega) g1
        exact key 0 (by omega) (fun g g0 g1 => by
          have : g = fr := by omega
          rw [this]
          exact ⟨by have := q3.1.1; omega, hTe.symm⟩)
    · rw [yup_n (by omega), yup_n (by omega), yup_n (by omega)]
      exact hK i i0 (by omega)
  · by_cases q : i = pc
    · rw [q, yup_s]
      exact Int.le_refl _
    · rw [yup_n q]
      exact hS i i0 (by omega)
theorem Y_addz (h : zY mb mp E fr st am pc tp md po ls at_ en sa fb cm cb ca cg cp ct cl pa ps n A0 v u z) (hn : n = fr + 1) (hz : 1 ≤ z) (hc : cp fr < pc) (hs : ps (pc - 1) < 2 ∨ cl fr + 1 ≤ 60) : zY mb mp E fr st am pc (tp + 1) md po ls at_ en sa fb cm cb ca cg cp ct (yup cl fr (cl fr + 1)) pa (yup ps (pc - 1) (ps (pc - 1) + 1)) n A0 v u (z - 1) := by
  have hmn : ∀ g, 0 ≤ g → g < n → cp g ≤ cp (n - 1) := fun g g0 g1 => by
    have hm : ∀ (k : Nat), (k : Int) ≤ n - 1 → cp (n - 1 - k) ≤ cp (n - 1) := fun k => by
      induction k with
      | zero => intro _; rw [show n - 1 - ((0 : Nat) : Int) = n - 1 by omega]; exact Int.le_refl _
      | succ k ih =>
        intro hk
        have q := (h.2.2.2.2.1 (n - 1 - (k + 1 : Nat)) (by omega) (by omega)).2.2.1.1
        rw [show n - 1 - ((k + 1 : Nat) : Int) + 1 = n - 1 - k by omega] at q
        have := ih (by omega)
        omega
    have := hm (n - 1 - g).toNat (by omega)
    rw [show n - 1 - ((n - 1 - g).toNat : Int) = g by omega] at this
    exact this
  obtain ⟨⟨a1, a2, a3, a4, a5, a6, a7, a8, a9⟩, ⟨b1, b2, b3, b4, b5, b6, b7, b8, b9, b10, b11⟩, hF, hT, hL, hP, hC, hD, hZ, ⟨hK, hS⟩, ⟨hO0, hO⟩, hB, ⟨hG1, hG2⟩⟩ := h
  have eg : n - 1 = fr := by omega
  have hcl : 0 ≤ cl fr := by have := (hP (by omega)).2.2.1.1; rw [eg] at this; omega
  refine ⟨⟨a1, a2, a3, a4, a5, a6, a7, a8, by omega⟩, ⟨b1, b2, b3, b4, b5, b6, b7, b8, by omega, b10, b11⟩, hF, hT, fun g g0 g1 => ?_, fun q => ?_, fun q => ?_, fun q => ?_, fun q => by omega, ⟨fun i i0 i1 => ?_, fun i i0 i1 => ?_⟩, ⟨hO0, hO⟩, hB, ⟨hG1, hG2⟩⟩
  · obtain ⟨q1, q2, q3⟩ := hL g g0 g1
    have := hmn (g + 1) (by omega) g1
    rw [eg] at this
    refine ⟨q1.mo (Int.le_refl _) g0 rfl rfl rfl rfl rfl (yP_cg (fun _ => ⟨rfl, yup_n (by omega)⟩)), q2, q3.cg rfl rfl rfl (yup_n (by omega)) (fun i hi => ⟨rfl, yup_n (by omega)⟩)⟩
  · obtain ⟨q1, q2, q3, q4⟩ := hP q
    rw [eg] at q1 q2 q3 q4 ⊢
    refine ⟨q1.mo (Int.le_refl _) (by omega) rfl rfl rfl rfl rfl (yP_cg (fun _ => ⟨rfl, yup_n (by omega)⟩)), q2, ?_, q4⟩
    unfold yQ3 at q3 ⊢
    obtain ⟨⟨r1, r2, r3, r4, r5, r6, r7⟩, r8, r9⟩ := q3
    obtain ⟨s1, s2, s3, s4, s5, s6⟩ := r9 hc
    rw [yup_s, yup_s]
    exact ⟨⟨r1, r2, r3, r4, r5, r6, by omega⟩, fun q => by omega, fun q => by omega⟩
  · exact absurd q (by omega)
  · obtain ⟨q1, q2⟩ := hD q
    rw [yup_s]
    exact ⟨q1, by omega⟩
  · rw [yup_n (by omega)]
    exact hK i i0 i1
  · by_cases q : i = pc - 1
    · have := hS (pc - 1) (by omega) (by omega)
      rw [q, yup_s]
      omega
    · rw [yup_n q]
      exact hS i i0 i1
theorem Y_addz0 (h : zY mb mp E fr st am pc tp md po ls at_ en sa fb cm cb ca cg cp ct cl pa ps n A0 v u z) (hn : n = fr + 1) (hz : 1 ≤ z) (hc : cp fr < pc) : zY mb mp E fr st am pc tp md po ls at_ en sa fb cm cb ca cg cp ct (yup cl fr (cl fr + 1)) pa ps n A0 v u (z - 1) := by
  have hmn : ∀ g, 0 ≤ g → g < n → cp g ≤ cp (n - 1) := fun g g0 g1 => by
    have hm : ∀ (k : Nat), (k : Int) ≤ n - 1 → cp (n - 1 - k) ≤ cp (n - 1) := fun k => by
      induction k with
      | zero => intro _; rw [show n - 1 - ((0 : Nat) : Int) = n - 1 by omega]; exact Int.le_refl _
      | succ k ih =>
        intro hk
        have q := (h.2.2.2.2.1 (n - 1 - (k + 1 : Nat)) (by omega) (by omega)).2.2.1.1
        rw [show n - 1 - ((k + 1 : Nat) : Int) + 1 = n - 1 - k by omega] at q
        have := ih (by omega)
        omega
    have := hm (n - 1 - g).toNat (by omega)
    rw [show n - 1 - ((n - 1 - g).toNat : Int) = g by omega] at this
    exact this
  obtain ⟨⟨a1, a2, a3, a4, a5, a6, a7, a8, a9⟩, ⟨b1, b2, b3, b4, b5, b6, b7, b8, b9, b10, b11⟩, hF, hT, hL, hP, hC, hD, hZ, ⟨hK, hS⟩, ⟨hO0, hO⟩, hB, ⟨hG1, hG2⟩⟩ := h
  have eg : n - 1 = fr := by omega
  have hcl : 0 ≤ cl fr := by have := (hP (by omega)).2.2.1.1; rw [eg] at this; omega
  refine ⟨⟨a1, a2, a3, a4, a5, a6, a7, a8, by omega⟩, ⟨b1, b2, b3, b4, b5, b6, b7, b8, b9, b10, b11⟩, hF, hT, fun g g0 g1 => ?_, fun q => ?_, fun q => ?_, fun q => ?_, fun q => by omega, ⟨hK, hS⟩, ⟨hO0, hO⟩, hB, ⟨hG1, hG2⟩⟩
  · obtain ⟨q1, q2, q3⟩ := hL g g0 g1
    have := hmn (g + 1) (by omega) g1
    rw [eg] at this
    refine ⟨q1.mo (Int.le_refl _) g0 rfl rfl rfl rfl rfl (yP_cg (fun _ => ⟨rfl, yup_n (by omega)⟩)), q2, q3.cg rfl rfl rfl (yup_n (by omega)) (fun i hi => ⟨rfl, rfl⟩)⟩
  · obtain ⟨q1, q2, q3, q4⟩ := hP q
    rw [eg] at q1 q2 q3 q4 ⊢
    refine ⟨q1.mo (Int.le_refl _) (by omega) rfl rfl rfl rfl rfl (yP_cg (fun _ => ⟨rfl, yup_n (by omega)⟩)), q2, ?_, q4⟩
    unfold yQ3 at q3 ⊢
    obtain ⟨⟨r1, r2, r3, r4, r5, r6, r7⟩, r8, r9⟩ := q3
    obtain ⟨s1, s2, s3, s4, s5, s6⟩ := r9 hc
    rw [yup_s]
    exact ⟨⟨r1, r2, r3, r4, r5, r6, by omega⟩, fun q => by omega, fun q => by omega⟩
  · exact absurd q (by omega)
  · obtain ⟨q1, q2⟩ := hD q
    rw [yup_s]
    exact ⟨q1, by omega⟩
theorem Y_addv (h : zY mb mp E fr st am pc tp md po ls at_ en sa fb cm cb ca cg cp ct cl pa ps n A0 v u z) (hn : n = fr) (h0 : 0 < n) (hz : 1 ≤ v) (hc : cp (fr - 1) < pc) (hs : ps (pc - 1) < 2 ∨ cl (fr - 1) + 1 ≤ 60) : zY mb mp E fr st am pc (tp + 1) md po ls at_ en sa fb cm cb ca cg cp ct (yup cl (fr - 1) (cl (fr - 1) + 1)) pa (yup ps (pc - 1) (ps (pc - 1) + 1)) n A0 (v - 1) u z := by
  have hmn : ∀ g, 0 ≤ g → g < n → cp g ≤ cp (n - 1) := fun g g0 g1 => by
    have hm : ∀ (k : Nat), (k : Int) ≤ n - 1 → cp (n - 1 - k) ≤ cp (n - 1) := fun k => by
      induction k with
      | zero => intro _; rw [show n - 1 - ((0 : Nat) : Int) = n - 1 by omega]; exact Int.le_refl _
      | succ k ih =>
        intro hk
        have q := (h.2.2.2.2.1 (n - 1 - (k + 1 : Nat)) (by omega) (by omega)).2.2.1.1
        rw [show n - 1 - ((k + 1 : Nat) : Int) + 1 = n - 1 - k by omega] at q
        have := ih (by omega)
        omega
    have := hm (n - 1 - g).toNat (by omega)
    rw [show n - 1 - ((n - 1 - g).toNat : Int) = g by omega] at this
    exact this
  obtain ⟨⟨a1, a2, a3, a4, a5, a6, a7, a8, a9⟩, ⟨b1, b2, b3, b4, b5, b6, b7, b8, b9, b10, b11⟩, hF, hT, hL, hP, hC, hD, hZ, ⟨hK, hS⟩, ⟨hO0, hO⟩, hB, ⟨hG1, hG2⟩⟩ := h
  have eg : n - 1 = fr - 1 := by omega
  have hcl : 0 ≤ cl (fr - 1) := by have := (hP (by omega)).2.2.1.1; rw [eg] at this; omega
  refine ⟨⟨a1, a2, a3, a4, a5, a6, by omega, a8, a9⟩, ⟨b1, b2, b3, b4, b5, b6, b7, b8, by omega, b10, b11⟩, hF, hT, fun g g0 g1 => ?_, fun q => ?_, fun q => ?_, fun q => ?_, fun q => by omega, ⟨fun i i0 i1 => ?_, fun i i0 i1 => ?_⟩, ⟨hO0, hO⟩, hB, ⟨hG1, hG2⟩⟩
  · obtain ⟨q1, q2, q3⟩ := hL g g0 g1
    have := hmn (g + 1) (by omega) g1
    rw [eg] at this
    refine ⟨q1.mo (Int.le_refl _) g0 rfl rfl rfl rfl rfl (yP_cg (fun _ => ⟨rfl, yup_n (by omega)⟩)), q2, q3.cg rfl rfl rfl (yup_n (by omega)) (fun i hi => ⟨rfl, yup_n (by omega)⟩)⟩
  · obtain ⟨q1, q2, q3, q4⟩ := hP q
    rw [eg] at q1 q2 q3 q4 ⊢
    refine ⟨q1.mo (Int.le_refl _) (by omega) rfl rfl rfl rfl rfl (yP_cg (fun _ => ⟨rfl, yup_n (by omega)⟩)), q2, ?_, q4⟩
    unfold yQ3 at q3 ⊢
    obtain ⟨⟨r1, r2, r3, r4, r5, r6, r7⟩, r8, r9⟩ := q3
    obtain ⟨s1, s2, s3, s4, s5, s6⟩ := r9 hc
    rw [yup_s, yup_s]
    exact ⟨⟨r1, r2, r3, r4, r5, r6, by omega⟩, fun q => by omega, fun q => by omega⟩
  · obtain ⟨q1, q2⟩ := hC q
    refine ⟨q1, ?_⟩
    have p1 := yP_p (ls := ls) (g := fr) (cb := cb) (cl := cl) (by omega)
    have p2 := yP_p (ls := ls) (g := fr) (cb := cb) (cl := yup cl (fr - 1) (cl (fr - 1) + 1)) (by omega)
    rw [yup_s] at p2
    omega
  · exact absurd q (by omega)
  · rw [yup_n (by omega)]
    exact hK i i0 i1
  · by_cases q : i = pc - 1
    · have := hS (pc - 1) (by omega) (by omega)
      rw [q, yup_s]
      omega
    · rw [yup_n q]
      exact hS i i0 i1
theorem Y_addv0 (h : zY mb mp E fr st am pc tp md po ls at_ en sa fb cm cb ca cg cp ct cl pa ps n A0 v u z) (hn : n = fr) (h0 : 0 < n) (hz : 1 ≤ v) (hc : cp (fr - 1) < pc) : zY mb mp E fr st am pc tp md po ls at_ en sa fb cm cb ca cg cp ct (yup cl (fr - 1) (cl (fr - 1) + 1)) pa ps n A0 (v - 1) u z := by
  have hmn : ∀ g, 0 ≤ g → g < n → cp g ≤ cp (n - 1) := fun g g0 g1 => by
    have hm : ∀ (k : Nat), (k : Int) ≤ n - 1 → cp (n - 1 - k) ≤ cp (n - 1) := fun k => by
      induction k with
      | zero => intro _; rw [show n - 1 - ((0 : Nat) : Int) = n - 1 by omega]; exact Int.le_refl _
      | succ k ih =>
        intro hk
        have q := (h.2.2.2.2.1 (n - 1 - (k + 1 : Nat)) (by omega) (by omega)).2.2.1.1
        rw [show n - 1 - ((k + 1 : Nat) : Int) + 1 = n - 1 - k by omega] at q
        have := ih (by omega)
        omega
    have := hm (n - 1 - g).toNat (by omega)
    rw [show n - 1 - ((n - 1 - g).toNat : Int) = g by omega] at this
    exact this
  obtain ⟨⟨a1, a2, a3, a4, a5, a6, a7, a8, a9⟩, ⟨b1, b2, b3, b4, b5, b6, b7, b8, b9, b10, b11⟩, hF, hT, hL, hP, hC, hD, hZ, ⟨hK, hS⟩, ⟨hO0, hO⟩, hB, ⟨hG1, hG2⟩⟩ := h
  have eg : n - 1 = fr - 1 := by omega
  have hcl : 0 ≤ cl (fr - 1) := by have := (hP (by omega)).2.2.1.1; rw [eg] at this; omega
  refine ⟨⟨a1, a2, a3, a4, a5, a6, by omega, a8, a9⟩, ⟨b1, b2, b3, b4, b5, b6, b7, b8, b9, b10, b11⟩, hF, hT, fun g g0 g1 => ?_, fun q => ?_, fun q => ?_, fun q => ?_, fun q => by omega, ⟨hK, hS⟩, ⟨hO0, hO⟩, hB, ⟨hG1, hG2⟩⟩
  · obtain ⟨q1, q2, q3⟩ := hL g g0 g1
    have := hmn (g + 1) (by omega) g1
    rw [eg] at this
    refine ⟨q1.mo (Int.le_refl _) g0 rfl rfl rfl rfl rfl (yP_cg (fun _ => ⟨rfl, yup_n (by omega)⟩)), q2, q3.cg rfl rfl rfl (yup_n (by omega)) (fun i hi => ⟨rfl, rfl⟩)⟩
  · obtain ⟨q1, q2, q3, q4⟩ := hP q
    rw [eg] at q1 q2 q3 q4 ⊢
    refine ⟨q1.mo (Int.le_refl _) (by omega) rfl rfl rfl rfl rfl (yP_cg (fun _ => ⟨rfl, yup_n (by omega)⟩)), q2, ?_, q4⟩
    unfold yQ3 at q3 ⊢
    obtain ⟨⟨r1, r2, r3, r4, r5, r6, r7⟩, r8, r9⟩ := q3
    obtain ⟨s1, s2, s3, s4, s5, s6⟩ := r9 hc
    rw [yup_s]
    exact ⟨⟨r1, r2, r3, r4, r5, r6, by omega⟩, fun q => by omega, fun q => by omega⟩
  · obtain ⟨q1, q2⟩ := hC q
    refine ⟨q1, ?_⟩
    have p1 := yP_p (ls := ls) (g := fr) (cb := cb) (cl := cl) (by omega)
    have p2 := yP_p (ls := ls) (g := fr) (cb := cb) (cl := yup cl (fr - 1) (cl (fr - 1) + 1)) (by omega)
    rw [yup_s] at p2
    omega
  · exact absurd q (by omega)
theorem Y_pool (h : zY mb mp E fr st am pc tp md po ls at_ en sa fb cm cb ca cg cp ct cl pa ps n A0 v u z) (hn : n = fr + 1) (hu : 1 ≤ u) {x : Int} (hx : 0 ≤ x ∧ x ≤ 30) : zY mb mp E fr st am pc tp md (po + x) ls at_ en sa fb cm cb ca cg cp ct cl pa ps n A0 v (u - 1) z := by
  obtain ⟨⟨a1, a2, a3, a4, a5, a6, a7, a8, a9⟩, ⟨b1, b2, b3, b4, b5, b6, b7, b8, b9, b10, b11⟩, hF, hT, hL, hP, hC, hD, hZ, ⟨hK, hS⟩, ⟨hO0, hO⟩, hB, ⟨hG1, hG2⟩⟩ := h
  refine ⟨⟨a1, a2, a3, a4, a5, a6, a7, by omega, a9⟩, ⟨b1, b2, b3, b4, b5, b6, b7, b8, b9, b10, b11⟩, hF, hT, hL, fun q => ?_, hC, hD, hZ, ⟨hK, hS⟩, ⟨by omega, by omega⟩, hB, ⟨hG1, hG2⟩⟩
  obtain ⟨q1, q2, q3, q4⟩ := hP q
  exact ⟨q1, q2, q3, by omega⟩
theorem Y_open (h : zY mb mp E fr st am pc tp md po ls at_ en sa fb cm cb ca cg cp ct cl pa ps n A0 v u z) (hn : n = fr + 1) (hz : 3440 ≤ z) (hb : 1 ≤ cb fr) (hc : cp fr < pc) {x y : Int} (h1 : ca fr ≤ x) (h2 : x ≤ y) (h3 : y ≤ am) : zY mb mp E (fr + 1) (st + 1) am pc tp md po ls (yup at_ st x) (yup en st y) (yup sa st 1) (yup fb (fr + 1) st) (yup cm (fr + 1) ((-1))) cb ca cg cp ct cl pa ps n A0 0 0 0 := by
  have hfl := fun g (g0 : 0 ≤ g) (g1 : g ≤ fr) => yfl h g0 g1 (Int.le_refl _)
  have hN := yN h
  obtain ⟨⟨a1, a2, a3, a4, a5, a6, a7, a8, a9⟩, ⟨b1, b2, b3, b4, b5, b6, b7, b8, b9, b10, b11⟩, hF, hT, hL, hP, hC, hD, hZ, ⟨hK, hS⟩, ⟨hO0, hO⟩, hB, ⟨hG1, hG2⟩⟩ := h
  subst hn
  obtain ⟨d1, d2⟩ := hD rfl
  have hr : ∀ s, s ≤ st → yR (yup at_ st x) (yup en st y) s = yR at_ en s := fun s hs => yR_cg (fun j j0 j1 => ⟨yup_n (by omega), yup_n (by omega)⟩)
  have hst : 0 ≤ st := by have := hfl fr a4 (Int.le_refl _); omega
  have hr2 : yR (yup at_ st x) (yup en st y) (st + 1) = yR at_ en st + (y - x) := by
    rw [yR_s hst, yup_s, yup_s, hr st (Int.le_refl _)]
  have e1 : fr + 1 - 1 = fr := by omega
  refine ⟨⟨a1, a2, a3, by omega, by omega, by omega, by omega, by omega, by omega⟩, ⟨b1, b2, by omega, ?_, b5, b6, b7, b8, b9, b10, ?_⟩, fun g g1 g2 => ?_, fun s s0 s1 => ?_, fun g g0 g1 => ?_, fun q => ?_, fun _ => ?_, fun q => by omega, fun q => by omega, ⟨hK, hS⟩, ⟨hO0, by omega⟩, hB, ⟨hG1, fun _ _ => by rw [e1]; exact hc⟩⟩
  · rw [yup_s]
    omega
  · rw [yup_n (by omega)]
    exact b11
  · by_cases q : g = fr + 1
    · rw [q, yup_s, e1, yup_n (by omega)]
      have := hfl fr a4 (Int.le_refl _)
      exact ⟨by omega, b4, hb⟩
    · rw [yup_n (by omega), yup_n (by omega)]
      exact hF g g1 (by omega)
  · by_cases q : s = st
    · rw [q, yup_s, yup_s, yup_s]
      exact ⟨h2, fun q => by omega⟩
    · rw [yup_n q, yup_n q, yup_n q]
      exact hT s s0 (by omega)
  · obtain ⟨q1, q2, q3⟩ := hL g g0 g1
    rw [yup_n (f := fb) (by omega)]
    have f1 := hfl (g + 1) (by omega) (by omega)
    have f2 := hfl g g0 (by omega)
    refine ⟨q1.mo (Int.le_refl _) g0 (yup_n (by omega)) rfl rfl (hr _ (by omega)) ?_ rfl, q2.cg (yup_n (by omega)) rfl (fun p _ _ => ⟨rfl, rfl⟩), q3⟩
    rw [yup_n (by omega)]
    exact hr _ (by omega)
  · obtain ⟨q1, q2, q3, q4⟩ := hP q
    rw [e1] at q1 q2 q3 q4 ⊢
    rw [if_neg (by omega)] at q1
    rw [if_pos rfl, yup_s]
    have f2 := hfl fr a4 (Int.le_refl _)
    refine ⟨q1.mo (Int.le_refl _) a4 (yup_n (by omega)) rfl rfl (hr _ (Int.le_refl _)) ?_ rfl, q2.cg (yup_n (by omega)) rfl (fun p _ _ => ⟨rfl, rfl⟩), q3, by omega⟩
    rw [yup_n (by omega)]
    exact hr _ (by omega)
  · obtain ⟨q1, q2, q3, q4⟩ := hP (by omega)
    rw [e1, if_neg (by omega)] at q1
    rw [yup_s, yup_s, hr2, hr st (Int.le_refl _)]
    refine ⟨rfl, ?_⟩
    have p2 := yP_p (ls := ls) (g := fr + 1) (cb := cb) (cl := cl) (by omega)
    rw [e1] at p2
    have q5 := q1.2.2.2.2.1
    have hmo : yR at_ en (fb fr) ≤ yR at_ en st := yR_mo (fun j j0 j1 => (hT j j0 j1).1) ⟨(hfl fr a4 (Int.le_refl _)).1, b4⟩
    have hyp0 : 0 ≤ yP ls cb cl fr := by
      by_cases q : fr = 0
      · rw [q, yP_0]
        exact b10
      · exact (yP_p q).1
    omega
theorem Y_close (h : zY mb mp E fr st am pc tp md po ls at_ en sa fb cm cb ca cg cp ct cl pa ps n A0 v u z) (hn : n = fr) (h0 : 1 ≤ fr) (hst : st = fb fr) (hA : A0 = am) : zY mb mp E (fr - 1) st am pc tp md po ls at_ en sa fb cm cb ca cg cp ct cl pa ps n A0 0 0 0 := by
  have hN := yN h
  obtain ⟨⟨a1, a2, a3, a4, a5, a6, a7, a8, a9⟩, ⟨b1, b2, b3, b4, b5, b6, b7, b8, b9, b10, b11⟩, hF, hT, hL, hP, hC, hD, hZ, ⟨hK, hS⟩, ⟨hO0, hO⟩, hB, ⟨hG1, hG2⟩⟩ := h
  subst hn
  obtain ⟨c1, c2⟩ := hC rfl
  obtain ⟨f1, f2, f3⟩ := hF n h0 (Int.le_refl _)
  have p2 := yP_p (ls := ls) (g := n) (cb := cb) (cl := cl) (by omega)
  have e0 : yR at_ en st = yR at_ en (fb n) := by rw [hst]
  refine ⟨⟨a1, a2, a3, by omega, by omega, by omega, by omega, by omega, by omega⟩, ⟨b1, b2, by omega, by omega, b5, b6, b7, b8, b9, b10, b11⟩, fun g g1 g2 => hF g g1 (by omega), hT, hL, fun q => ?_, fun q => by omega, fun _ => ⟨hA, by omega⟩, fun q => by omega, ⟨hK, hS⟩, ⟨hO0, by omega⟩, hB, ⟨hG1, fun q => by omega⟩⟩
  obtain ⟨q1, q2, q3, q4⟩ := hP q
  rw [if_pos rfl, ← hst] at q1
  rw [if_neg (by omega)]
  exact ⟨q1, q2, q3, by omega⟩
theorem Y_build (h : zY mb mp E fr st am pc tp md po ls at_ en sa fb cm cb ca cg cp ct cl pa ps n A0 v u z) (hn : n = fr + 1) {k po2 : Int} (hk : 0 ≤ k ∧ k ≤ 30) (hpo : 0 ≤ po2 ∧ po2 ≤ po + 30 * (pc - cp fr)) : zY mb mp E fr (st + 1) (ca fr) (cp fr) (ct fr) (md + k) po2 ls (yup at_ st md) (yup en st (md + k)) (yup sa st 0) fb (yup cm fr ((-1))) cb ca cg cp ct cl pa ps fr (ca fr) 0 0 0 := by
  have hfl := fun g (g0 : 0 ≤ g) (g1 : g ≤ fr) => yfl h g0 g1 (Int.le_refl _)
  have hN := yN h
  obtain ⟨⟨a1, a2, a3, a4, a5, a6, a7, a8, a9⟩, ⟨b1, b2, b3, b4, b5, b6, b7, b8, b9, b10, b11⟩, hF, hT, hL, hP, hC, hD, hZ, ⟨hK, hS⟩, ⟨hO0, hO⟩, hB, ⟨hG1, hG2⟩⟩ := h
  subst hn
  have e1 : fr + 1 - 1 = fr := by omega
  obtain ⟨p1, p2, p3, p4⟩ := hP (by omega)
  rw [e1] at p1 p2 p3 p4
  rw [if_neg (by omega)] at p1
  unfold yQ1 at p1
  obtain ⟨⟨r1, r2, r3, r4, r5, r6, r7⟩, r8, r9⟩ := p3
  have hcb := (hB (cm fr)).2
  have hst : 0 ≤ st := by have := hfl fr a4 (Int.le_refl _); omega
  have hr : ∀ s, s ≤ st → yR (yup at_ st md) (yup en st (md + k)) s = yR at_ en s := fun s hs => yR_cg (fun j j0 j1 => ⟨yup_n (by omega), yup_n (by omega)⟩)
  have hr2 : yR (yup at_ st md) (yup en st (md + k)) (st + 1) = yR at_ en st + k := by
    rw [yR_s hst, yup_s, yup_s, hr st (Int.le_refl _)]
    omega
  have hN2 : 440 + 30 * (E - (fr + 1)) ≤ 440 + 30 * (E - fr) := by omega
  have hmul := Int.mul_le_mul_of_nonneg_left hN2 a4
  refine ⟨⟨a4, by omega, a3, a4, by omega, by omega, by omega, by omega, by omega⟩, ⟨by omega, by omega, by omega, by omega, r3, p1.2.2.2.2.2.1, Int.le_refl _, by omega, by omega, b10, b11⟩, fun g g1 g2 => hF g g1 g2, fun s s0 s1 => ?_, fun g g0 g1 => ?_, fun q => ?_, fun _ => ?_, fun q => by omega, fun q => ?_, ⟨fun i i0 i1 => hK i i0 (by omega), fun i i0 i1 => hS i i0 (by omega)⟩, ⟨hpo.1, ?_⟩, hB, ⟨fun g g0 g1 => hG1 g g0 (by omega), fun _ q => by have := hG1 (fr - 1) (by omega) (by omega); rw [show fr - 1 + 1 = fr by omega] at this; exact this⟩⟩
  · by_cases q : s = st
    · rw [q, yup_s, yup_s, yup_s]
      exact ⟨by omega, fun _ => Int.le_refl _⟩
    · rw [yup_n q, yup_n q, yup_n q]
      have := hT s s0 (by omega)
      exact ⟨this.1, fun z => by have := this.2 z; omega⟩
  · obtain ⟨q1, q2, q3⟩ := hL g g0 (by omega)
    have f1 := hfl (g + 1) (by omega) (by omega)
    have f2 := hfl g g0 (by omega)
    exact ⟨q1.mo hN2 g0 (yup_n (by omega)) rfl rfl (hr _ (by omega)) (hr _ (by omega)) rfl, q2.cg (yup_n (by omega)) rfl (fun p _ _ => ⟨rfl, rfl⟩), q3⟩
  · obtain ⟨q1, q2, q3⟩ := hL (fr - 1) (by omega) (by omega)
    rw [show fr - 1 + 1 = fr by omega] at q1 q2 q3
    have f1 := hfl fr a4 (Int.le_refl _)
    have f2 := hfl (fr - 1) (by omega) (by omega)
    rw [if_pos rfl]
    exact ⟨q1.mo hN2 (by omega) (yup_n (by omega)) rfl rfl (hr _ (by omega)) (hr _ (by omega)) rfl, q2.cg (yup_n (by omega)) rfl (fun p _ _ => ⟨rfl, rfl⟩), q3, by have := q3.1; omega⟩
  · rw [yup_s, hr2, hr (fb fr) (by omega)]
    exact ⟨rfl, by omega⟩
  · subst q
    omega
  · have z2 := zSum_s (g := cb) (b := 0) (i := fr) (by omega)
    rw [Int.zero_add] at z2
    rw [z2] at hO
    omega
end YY2

