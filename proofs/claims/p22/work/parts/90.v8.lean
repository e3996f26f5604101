/-! ===== the reference: lexes a line ===== -/
/-- a token begins at i (n: the end): m its length, k its kind; of signs, no more than # tells apart -/
def zLx (g : Int → Int) (n i m k : Int) : Prop := (zWd (g i) = 1 ∧ zFst (fun q => zWd (g q) = 1) n i (i + m) ∧ (k = 1 ∧ (48 ≤ g i ∧ g i ≤ 57) ∨ k = 0 ∧ ¬ (48 ≤ g i ∧ g i ≤ 57))) ∨ zWd (g i) = 0 ∧ (g i = 34 ∧ k = 2 ∨ g i ≠ 34 ∧ k = 3 ∧ (g i ≠ 35 ∨ m = 1 ∧ (n ≤ i + 1 ∨ g (i + 1) ≠ 35) ∨ m = 2 ∧ i + 1 < n ∧ g (i + 1) = 35))
theorem zLx.cg {g b : Int → Int} {n i m k : Int} (h : zLx g n i m k) (hi : 0 ≤ i ∧ i < n) (e : ∀ q, 0 ≤ q → q < n → b q = g q) : zLx b n i m k := by
  unfold zLx
  rw [e i hi.1 hi.2]
  rcases h with ⟨h1, h2, h3⟩ | ⟨h1, h2⟩
  · exact Or.inl ⟨h1, h2.cg (fun q q0 q1 => by rw [e q (by omega) q1]), h3⟩
  · refine Or.inr ⟨h1, h2.imp id (fun ⟨q1, q2, q3⟩ => ⟨q1, q2, q3.imp id (fun q => ?_)⟩)⟩
    by_cases z : i + 1 < n
    · rw [e (i + 1) (by omega) z]
      exact q
    · omega
/-- where token t would begin, but for blanks -/
def zPe (O L : Int → Int) (t : Int) : Int := if t ≤ 0 then 0 else O (t - 1) + L (t - 1)
theorem zPe_0 {O L : Int → Int} : zPe O L 0 = 0 := rfl
theorem zPe_s {O L : Int → Int} {t : Int} (h : 0 < t) : zPe O L t = O (t - 1) + L (t - 1) := if_neg (by omega)
/-- as far as i: t tokens, of kinds K, places O, lengths L -/
def zTr (g : Int → Int) (n t i : Int) (K O L : Int → Int) : Prop := (0 ≤ t ∧ zPe O L t ≤ i ∧ i ≤ n ∧ ∀ q, zPe O L t ≤ q → q < i → g q = 32) ∧ ∀ j, 0 ≤ j → j < t → (0 ≤ zPe O L j ∧ zPe O L j ≤ O j ∧ O j < n) ∧ (∀ q, zPe O L j ≤ q → q < O j → g q = 32) ∧ g (O j) ≠ 32 ∧ zLx g n (O j) (L j) (K j) ∧ 1 ≤ L j ∧ L j ≤ 30
theorem zTr.nil {g : Int → Int} {n t i : Int} {K O L : Int → Int} (hn : 0 ≤ n) (ht : t = 0) (hi : i = 0) : zTr g n t i K O L := by
  subst ht hi
  exact ⟨⟨by omega, Int.le_refl _, hn, fun q q0 q1 => by rw [zPe_0] at q0; omega⟩, fun j j0 j1 => by omega⟩
theorem zTr.blank {g : Int → Int} {n t i : Int} {K O L : Int → Int} (h : zTr g n t i K O L) (hi : i < n) (hb : g i = 32) : zTr g n t (i + 1) K O L := by
  obtain ⟨⟨h1, h2, h3, h4⟩, h5⟩ := h
  refine ⟨⟨h1, by omega, by omega, fun q q0 q1 => ?_⟩, h5⟩
  by_cases z : q = i
  · rw [z]
    exact hb
  · exact h4 q q0 (by omega)
theorem zTr.row {g : Int → Int} {n t i : Int} {K O L K2 O2 L2 : Int → Int} (h : zTr g n t i K O L) (eK : ∀ j, 0 ≤ j → j < t → K2 j = K j) (eO : ∀ j, 0 ≤ j → j < t → O2 j = O j) (eL : ∀ j, 0 ≤ j → j < t → L2 j = L j) : zTr g n t i K2 O2 L2 := by
  have ep : ∀ j, j ≤ t → zPe O2 L2 j = zPe O L j := fun j j1 => by
    by_cases z : 0 < j
    · rw [zPe_s z, zPe_s z, eO (j - 1) (by omega) (by omega), eL (j - 1) (by omega) (by omega)]
    · have e1 : zPe O2 L2 j = 0 := if_pos (by omega)
      have e2 : zPe O L j = 0 := if_pos (by omega)
      rw [e1, e2]
  obtain ⟨h1, h5⟩ := h
  refine ⟨by rw [ep t (Int.le_refl _)]; exact h1, fun j j0 j1 => ?_⟩
  rw [ep j (by omega), eO j j0 j1, eL j j0 j1, eK j j0 j1]
  exact h5 j j0 j1
theorem zTr.pe {g : Int → Int} {n t i : Int} {K O L : Int → Int} (h : zTr g n t i K O L) : 0 ≤ zPe O L t := by
  by_cases z : 0 < t
  · have q := h.2 (t - 1) (by omega) (by omega)
    rw [zPe_s z]
    omega
  · have e : zPe O L t = 0 := if_pos (by omega)
    omega
theorem zTr.add {g : Int → Int} {n t i m k t2 i2 : Int} {K O L K2 O2 L2 : Int → Int} (h : zTr g n t i K O L) (hi : i < n) (hb : g i ≠ 32) (hx : zLx g n i m k) (hm : 1 ≤ m ∧ m ≤ 30 ∧ i + m ≤ n) (eK : ∀ j, j ≠ t → K2 j = K j) (eO : ∀ j, j ≠ t → O2 j = O j) (eL : ∀ j, j ≠ t → L2 j = L j) (kt : K2 t = k) (ot : O2 t = i) (lt : L2 t = m) (ht : t2 = t + 1) (hi2 : i2 = i + m) : zTr g n t2 i2 K2 O2 L2 := by
  subst ht hi2
  have h' : zTr g n t i K2 O2 L2 := h.row (fun j _ j1 => eK j (by omega)) (fun j _ j1 => eO j (by omega)) (fun j _ j1 => eL j (by omega))
  have hp := h'.pe
  obtain ⟨⟨h1, h2, h3, h4⟩, h5⟩ := h'
  have e : zPe O2 L2 (t + 1) = i + m := by rw [zPe_s (by omega), show t + 1 - 1 = t by omega, ot, lt]
  refine ⟨⟨by omega, by omega, by omega, fun q q0 q1 => by omega⟩, fun j j0 j1 => ?_⟩
  by_cases z : j = t
  · rw [z, kt, ot, lt]
    exact ⟨⟨hp, h2, hi⟩, h4, hb, hx, hm.1, hm.2.1⟩
  · exact h5 j j0 (by omega)
theorem zTr.cg {g b : Int → Int} {n t i : Int} {K O L : Int → Int} (h : zTr g n t i K O L) (e : ∀ q, 0 ≤ q → q < n → b q = g q) : zTr b n t i K O L := by
  have hp := h.pe
  obtain ⟨⟨h1, h2, h3, h4⟩, h5⟩ := h
  refine ⟨⟨h1, h2, h3, fun q q0 q1 => by rw [e q (by omega) (by omega)]; exact h4 q q0 q1⟩, fun j j0 j1 => ?_⟩
  obtain ⟨q1, q2, q3, q4, q5⟩ := h5 j j0 j1
  exact ⟨q1, fun q r0 r1 => by rw [e q (by omega) (by omega)]; exact q2 q r0 r1, by rw [e _ (by omega) (by omega)]; exact q3, q4.cg (by omega) e, q5⟩
/-- it can't be lexed -/
def zTxw (g : Int → Int) (n : Int) : Prop := ∃ t i m k, ∃ K O L : Int → Int, zTr g n t i K O L ∧ i < n ∧ g i ≠ 32 ∧ zLx g n i m k ∧ (m = 0 ∨ 30 < m)
theorem zTxw.cg {g b : Int → Int} {n : Int} (h : zTxw g n) (e : ∀ q, 0 ≤ q → q < n → b q = g q) : zTxw b n := by
  obtain ⟨t, i, m, k, K, O, L, h1, h2, h3, h4, h5⟩ := h
  have hp := h1.pe
  have h6 := h1.1.2.1
  exact ⟨t, i, m, k, K, O, L, h1.cg e, h2, by rw [e i (by omega) h2]; exact h3, h4.cg (by omega) e, h5⟩
theorem zTx_3 : ((zTxl.getD 3 0 : Nat) : Int) = 6 ∧ zTxc 3 0 = 105 ∧ zWd 35 = 0 := by decide
/-- # ifndef NAME: what comes next, ahead of each token of it -/
theorem zGtw.nx {b : Int → Int} {n x p : Int} (h : zGtw b n x p) : ∃ i0 j0 e, (0 ≤ i0 ∧ i0 + 1 ≤ j0 ∧ e = j0 + 6 ∧ e ≤ p ∧ p + x ≤ n ∧ i0 < n ∧ j0 < n ∧ p < n ∧ b i0 ≠ 32 ∧ b j0 ≠ 32 ∧ b p ≠ 32) ∧ (b i0 = 35 ∧ zWo b j0 e 3) ∧ (∀ i m k, 0 ≤ i → (∀ q, 0 ≤ q → q < i → b q = 32) → i < n → b i ≠ 32 → zLx b n i m k → i = i0 ∧ m = 1 ∧ k = 3) ∧ (∀ i m k, i0 + 1 ≤ i → (∀ q, i0 + 1 ≤ q → q < i → b q = 32) → i < n → b i ≠ 32 → zLx b n i m k → i = j0 ∧ m = 6 ∧ k = 0) ∧ (∀ i m k, e ≤ i → (∀ q, e ≤ q → q < i → b q = 32) → i < n → b i ≠ 32 → zLx b n i m k → i = p ∧ m = x ∧ k = 0) ∧ ∀ i, p + x ≤ i → i < n → b i = 32 := by
  obtain ⟨i0, j0, e, h1, h2, h3, h4, h5, h6, h7, h8, h9, h10⟩ := h
  obtain ⟨t1, t2, t3⟩ := zTx_3
  have b1 := h1.1
  have b3 := h3.1
  have b4 := h4.1
  have b6 := h6.1
  have b7 := h7.1
  have w5 := h5.1
  have c0 : b j0 = 105 := by
    have q := h5.2 0 (by omega) (by omega)
    rw [show j0 + 0 = j0 by omega, t2] at q
    exact q
  have wj : zWd (b j0) = 1 := h4.2.1 j0 (by omega) (by omega)
  have wp : zWd (b p) = 1 := h7.2.1 p (by omega) (by omega)
  have wi := zWd_i (b i0)
  have wp2 := zWd_i (b p)
  refine ⟨i0, j0, e, by omega, ⟨h2.2, h5⟩, fun i m k i1 i2 i3 i4 i5 => ?_, fun i m k i1 i2 i3 i4 i5 => ?_, fun i m k i1 i2 i3 i4 i5 => ?_, h10⟩
  · have ei : i = i0 := zFst.eq (P := fun q => b q = 32) (n := n) (i := 0) ⟨by omega, i2, Or.inr i4⟩ h1
    subst ei
    rcases i5 with ⟨q1, q2⟩ | ⟨q1, q2⟩
    · omega
    · rcases q2 with q2 | ⟨q2, q3, q4⟩
      · omega
      · rcases q4 with q4 | q4 | q4
        · omega
        · exact ⟨rfl, q4.1, q3⟩
        · exfalso
          by_cases z : i + 1 = j0
          · rw [z, c0] at q4
            omega
          · have := h3.2.1 (i + 1) (by omega) (by omega)
            omega
  · have ei : i = j0 := zFst.eq (P := fun q => b q = 32) (n := n) (i := i0 + 1) ⟨by omega, i2, Or.inr i4⟩ h3
    subst ei
    rcases i5 with ⟨q1, q2, q3⟩ | ⟨q1, q2⟩
    · have := q2.eq h4
      omega
    · omega
  · have ei : i = p := zFst.eq (P := fun q => b q = 32) (n := n) (i := e) ⟨by omega, i2, Or.inr i4⟩ h6
    subst ei
    rcases i5 with ⟨q1, q2, q3⟩ | ⟨q1, q2⟩
    · have := q2.eq h7
      omega
    · omega
theorem zGtw.tr {b : Int → Int} {n x p t i : Int} {K O L : Int → Int} (h : zGtw b n x p) (tr : zTr b n t i K O L) : (t ≤ 3 ∧ (3 ≤ t → (K 0 = 3 ∧ L 0 = 1 ∧ b (O 0) = 35) ∧ (K 1 = 0 ∧ L 1 = 6 ∧ zWo b (O 1) (O 1 + 6) 3) ∧ (K 2 = 0 ∧ L 2 = x ∧ O 2 = p))) ∧ (i = n → t = 3) ∧ ∀ m k, i < n → b i ≠ 32 → zLx b n i m k → 1 ≤ m ∧ m ≤ 30 := by
  have hx := h.le
  obtain ⟨i0, j0, e, ⟨a1, a2, a3, a4, a5, a6, a7, a8, a9, a10, a11⟩, ⟨c1, c2⟩, n0, n1, n2, n3⟩ := h.nx
  obtain ⟨⟨r1, r2, r3, r4⟩, r5⟩ := tr
  have p0 : zPe O L 0 = 0 := zPe_0
  have p1 : zPe O L 1 = O 0 + L 0 := zPe_s (by omega)
  have p2 : zPe O L 2 = O 1 + L 1 := zPe_s (by omega)
  have p3 : zPe O L 3 = O 2 + L 2 := zPe_s (by omega)
  have s0 : 1 ≤ t → O 0 = i0 ∧ L 0 = 1 ∧ K 0 = 3 := fun ht => by
    obtain ⟨q1, q2, q3, q4, q5⟩ := r5 0 (by omega) (by omega)
    rw [p0] at q1 q2
    exact n0 _ _ _ q1.2.1 q2 q1.2.2 q3 q4
  have s1 : 2 ≤ t → O 1 = j0 ∧ L 1 = 6 ∧ K 1 = 0 := fun ht => by
    obtain ⟨q1, q2, q3, q4, q5⟩ := r5 1 (by omega) (by omega)
    obtain ⟨u1, u2, u3⟩ := s0 (by omega)
    rw [p1, u1, u2] at q1 q2
    exact n1 _ _ _ q1.2.1 q2 q1.2.2 q3 q4
  have s2 : 3 ≤ t → O 2 = p ∧ L 2 = x ∧ K 2 = 0 := fun ht => by
    obtain ⟨q1, q2, q3, q4, q5⟩ := r5 2 (by omega) (by omega)
    obtain ⟨u1, u2, u3⟩ := s1 (by omega)
    rw [p2, u1, u2, ← a3] at q1 q2
    exact n2 _ _ _ q1.2.1 q2 q1.2.2 q3 q4
  have s3 : t ≤ 3 := by
    by_cases z : t ≤ 3
    · exact z
    · obtain ⟨q1, q2, q3, q4, q5⟩ := r5 3 (by omega) (by omega)
      obtain ⟨u1, u2, u3⟩ := s2 (by omega)
      rw [p3, u1, u2] at q1
      exact absurd (n3 _ q1.2.1 q1.2.2) q3
  have hE : (t = 0 ∧ zPe O L t = 0) ∨ (t = 1 ∧ zPe O L t = i0 + 1) ∨ (t = 2 ∧ zPe O L t = e) ∨ (t = 3 ∧ zPe O L t = p + x) := by
    rcases (show t = 0 ∨ t = 1 ∨ t = 2 ∨ t = 3 by omega) with z | z | z | z
    · exact Or.inl ⟨z, by rw [z]; exact p0⟩
    · obtain ⟨u1, u2, u3⟩ := s0 (by omega)
      exact Or.inr (Or.inl ⟨z, by rw [z, p1, u1, u2]⟩)
    · obtain ⟨u1, u2, u3⟩ := s1 (by omega)
      exact Or.inr (Or.inr (Or.inl ⟨z, by rw [z, p2, u1, u2, a3]⟩))
    · obtain ⟨u1, u2, u3⟩ := s2 (by omega)
      exact Or.inr (Or.inr (Or.inr ⟨z, by rw [z, p3, u1, u2]⟩))
  refine ⟨⟨s3, fun ht => ?_⟩, fun hi => ?_, fun m k i1 i2 i3 => ?_⟩
  · obtain ⟨u1, u2, u3⟩ := s0 (by omega)
    obtain ⟨v1, v2, v3⟩ := s1 (by omega)
    obtain ⟨w1, w2, w3⟩ := s2 ht
    refine ⟨⟨u3, u2, by rw [u1]; exact c1⟩, ⟨v3, v2, by rw [v1, ← a3]; exact c2⟩, w3, w2, w1⟩
  · subst hi
    rcases hE with ⟨z, ze⟩ | ⟨z, ze⟩ | ⟨z, ze⟩ | ⟨z, ze⟩
    · rw [ze] at r4
      exact absurd (r4 i0 a1 a6) a9
    · rw [ze] at r4
      exact absurd (r4 j0 a2 a7) a10
    · rw [ze] at r4
      exact absurd (r4 p a4 a8) a11
    · exact z
  · rcases hE with ⟨z, ze⟩ | ⟨z, ze⟩ | ⟨z, ze⟩ | ⟨z, ze⟩
    · rw [ze] at r4 r2
      have := n0 i m k r2 r4 i1 i2 i3
      omega
    · rw [ze] at r4 r2
      have := n1 i m k r2 r4 i1 i2 i3
      omega
    · rw [ze] at r4 r2
      have := n2 i m k r2 r4 i1 i2 i3
      omega
    · rw [ze] at r2
      exact absurd (n3 i r2 i1) i2
theorem zGtw.nox {b : Int → Int} {n : Int} (h : zTxw b n) : ¬ ∃ x p, zGtw b n x p := fun ⟨x, p, g⟩ => by
  obtain ⟨t, i, m, k, K, O, L, h1, h2, h3, h4, h5⟩ := h
  have := (g.tr h1).2.2 m k h2 h3 h4
  omega
/-- the tokens are just # ifndef NAME: so is the line -/
theorem zGtw.of {b : Int → Int} {n : Int} {K O L : Int → Int} (tr : zTr b n 3 n K O L) (k0 : K 0 = 3 ∧ L 0 = 1 ∧ b (O 0) = 35) (k1 : K 1 = 0) (hw : zMtw b (O 1) (L 1) 5) (k2 : K 2 = 0) : zGtw b n (L 2) (O 2) ∧ 0 ≤ O 2 := by
  obtain ⟨⟨r1, r2, r3, r4⟩, r5⟩ := tr
  have p0 : zPe O L 0 = 0 := zPe_0
  have p1 : zPe O L 1 = O 0 + L 0 := zPe_s (by omega)
  have p2 : zPe O L 2 = O 1 + L 1 := zPe_s (by omega)
  have p3 : zPe O L 3 = O 2 + L 2 := zPe_s (by omega)
  obtain ⟨q1, q2, q3, q4, q5⟩ := r5 0 (by omega) (by omega)
  obtain ⟨u1, u2, u3, u4, u5⟩ := r5 1 (by omega) (by omega)
  obtain ⟨v1, v2, v3, v4, v5⟩ := r5 2 (by omega) (by omega)
  rw [p0] at q1 q2
  rw [p1, k0.2.1] at u1 u2
  rw [p2] at v1 v2
  rw [p3] at r2 r4
  obtain ⟨⟨t1, t2, t3⟩, t4⟩ := zTxl_v
  have w3 : zWo b (O 1) (O 1 + L 1) 3 ↔ zMtw b (O 1) (O 1 + L 1 - O 1) 5 := zWo_mt (L := 6) (S := 30) (by rw [t3]; rfl) (by decide) zWx_t.2.2.1
  rw [show O 1 + L 1 - O 1 = L 1 by omega] at w3
  have f1 : zFst (fun q => zWd (b q) = 1) n (O 1) (O 1 + L 1) ∧ True := by
    rcases u4 with ⟨y1, y2, y3⟩ | ⟨y1, y2⟩
    · exact ⟨y2, trivial⟩
    · exfalso
      omega
  have f2 : zFst (fun q => zWd (b q) = 1) n (O 2) (O 2 + L 2) ∧ ¬ (48 ≤ b (O 2) ∧ b (O 2) ≤ 57) := by
    rcases v4 with ⟨y1, y2, y3⟩ | ⟨y1, y2⟩
    · exact ⟨y2, by omega⟩
    · exfalso
      omega
  exact ⟨⟨O 0, O 1, O 1 + L 1, ⟨by omega, q2, Or.inr q3⟩, ⟨by omega, k0.2.2⟩, ⟨by omega, u2, Or.inr u3⟩, f1.1, w3.mpr hw, ⟨by omega, v2, Or.inr v3⟩, f2.1, by omega, f2.2, r4⟩, by omega⟩
theorem zWi.cg {g g2 : Int → Int} {b b2 n x : Int} (h : zWi g b n x) (e : ∀ j, 0 ≤ j → j < n → g (b + j) = g2 (b2 + j)) : zWi g2 b2 n x := by
  have t : ∀ w, zMtw g b n w ↔ zMtw g2 b2 n w := fun w => ⟨fun ⟨q1, q2⟩ => ⟨q1, fun j j0 j1 => by rw [← e j j0 j1]; exact q2 j j0 j1⟩, fun ⟨q1, q2⟩ => ⟨q1, fun j j0 j1 => by rw [e j j0 j1]; exact q2 j j0 j1⟩⟩
  rcases h with ⟨h1, h2⟩ | ⟨h1, h2, h3⟩
  · exact Or.inl ⟨h1, fun w w0 w1 q => h2 w w0 w1 ((t w).mpr q)⟩
  · exact Or.inr ⟨h1, (t x).mp h2, fun w w0 w1 q => h3 w w0 w1 ((t w).mpr q)⟩
/-- the word is ifndef just where its bytes are -/
theorem zWi.i5 {g : Int → Int} {b n x : Int} (h : zWi g b n x) : x = 5 ↔ zMtw g b n 5 := by
  constructor
  · intro z
    rcases h with h | h
    · omega
    · rw [← z]
      exact h.2.1
  · intro m
    have no : ∀ v : Int, zWl0 v ≠ zWl0 5 → ¬ zMtw g b n v := fun v ne p => ne (p.1.symm.trans m.1)
    have n0 : ¬ zMtw g b n 0 := fun p => by
      have q1 := p.2 0 (by omega) (by have := p.1; have e : zWl0 0 = 6 := by decide
                                      omega)
      have q2 := m.2 0 (by omega) (by have := m.1; have e : zWl0 5 = 6 := by decide
                                      omega)
      rw [q1] at q2
      exact absurd q2 (by decide)
    rcases h with ⟨h1, h2⟩ | ⟨h1, h2, h3⟩
    · exact absurd m (h2 5 (by omega) (by omega))
    · rcases (show x = 0 ∨ x = 1 ∨ x = 2 ∨ x = 3 ∨ x = 4 ∨ x = 5 ∨ 5 < x by omega) with rfl | rfl | rfl | rfl | rfl | z | z
      · exact absurd h2 n0
      · exact absurd h2 (no 1 (by decide))
      · exact absurd h2 (no 2 (by decide))
      · exact absurd h2 (no 3 (by decide))
      · exact absurd h2 (no 4 (by decide))
      · exact z
      · exact absurd m (h3 5 (by omega) z)
theorem zTr.b3 {b : Int → Int} {n : Int} {K O L : Int → Int} (tr : zTr b n 3 n K O L) : (0 ≤ O 0 ∧ O 0 < n) ∧ (0 ≤ O 1 ∧ 1 ≤ L 1 ∧ L 1 ≤ 30 ∧ O 1 + L 1 ≤ O 2) ∧ 0 ≤ O 2 ∧ 1 ≤ L 2 ∧ L 2 ≤ 30 ∧ O 2 + L 2 ≤ n := by
  obtain ⟨⟨r1, r2, r3, r4⟩, r5⟩ := tr
  have p0 : zPe O L 0 = 0 := zPe_0
  have p1 : zPe O L 1 = O 0 + L 0 := zPe_s (by omega)
  have p2 : zPe O L 2 = O 1 + L 1 := zPe_s (by omega)
  have p3 : zPe O L 3 = O 2 + L 2 := zPe_s (by omega)
  obtain ⟨q1, q2, q3, q4, q5⟩ := r5 0 (by omega) (by omega)
  obtain ⟨u1, u2, u3, u4, u5⟩ := r5 1 (by omega) (by omega)
  obtain ⟨v1, v2, v3, v4, v5⟩ := r5 2 (by omega) (by omega)
  omega
theorem zSgn.b {M : zMm} {a : Nat} {t c x : Int} {b : Int → Int} (h : zSgn M a t c x) (ho : 0 ≤ M (a + 10) t) (hp : M (a + 17) (M (a + 10) t) = b (M (a + 10) t)) : ¬ x = 0 ↔ (M (a + 9) t = 3 ∧ M (a + 11) t = 1 ∧ b (M (a + 10) t) = c) := by
  unfold zSgn zHash zBy at h
  rw [if_pos ho, Int.add_zero, hp] at h
  exact h
theorem zBy_cg {M M2 : zMm} {a : Nat} {t i : Int} (e1 : ∀ j, M2 (a + 10) j = M (a + 10) j) (e2 : ∀ j, M2 (a + 17) j = M (a + 17) j) (e3 : ∀ j, M2 (a + 20) j = M (a + 20) j) : zBy M2 a t i = zBy M a t i := by
  unfold zBy
  rw [e1, e2, e3]
/-- whether the second token is ifndef -/
theorem zGwd {g b K O L : Int → Int} {n t x : Int} (hw : (1 < t ∧ K 1 = 0) ∧ (0 ≤ O 1 → zWi g (O 1) (L 1) x) ∨ ¬ (1 < t ∧ K 1 = 0) ∧ x = -1) (ht : t = 3) (tr : zTr b n 3 n K O L) (e : ∀ q, 0 ≤ q → q < n → g q = b q) : x = 5 ↔ (K 1 = 0 ∧ zMtw b (O 1) (L 1) 5) := by
  obtain ⟨b0, b1, b2⟩ := tr.b3
  rcases hw with ⟨h1, h2⟩ | ⟨h1, h2⟩
  · have h3 := (h2 b1.1).cg (g2 := b) (b2 := O 1) (fun j j0 j1 => e _ (by omega) (by omega))
    exact h3.i5.trans ⟨fun q => ⟨h1.2, q⟩, fun q => q.2⟩
  · exact ⟨fun q => by omega, fun q => by omega⟩
theorem zWo_5 {b : Int → Int} {o : Int} : zWo b o (o + 6) 3 → zMtw b o 6 5 := fun h => by
  obtain ⟨⟨t1, t2, t3⟩, t4⟩ := zTxl_v
  have w3 : zWo b o (o + 6) 3 ↔ zMtw b o (o + 6 - o) 5 := zWo_mt (L := 6) (S := 30) (by rw [t3]; rfl) (by decide) zWx_t.2.2.1
  rw [show o + 6 - o = 6 by omega] at w3
  exact w3.mp h

theorem c_X12_isBlankLine_e {w : zWp} {T : zTl} {M : zMm} {J : zJm} {R : zRm'} {G : zGt} {F : zRm'} {a : Nat} (hI : zI G M) (hF : zF F R) (h0 : zModel T F G a) (v1 : Int) (v2 : Int) (p1 : zFi M a) (p2 : 0 ≤ v1 ∧ v1 ≤ 3) (p3 : 0 ≤ v2 ∧ v2 < M (a + 2) (4 + v1) ∧ v2 ≤ 39) : zCt w 3 0 0 yX12_isBlankLine cX12_isBlankLine 5 (some .boolean) [.ref (w.2.1 + a), zi v1, zi v2] (T, M, J, R) (zPp T M J R (fun x => (x = 0 ∨ x = 1) ∧ (x = 1 ↔ zBl (zLb (M (a + 4)) (400 * v1 + zSum (M (a + 2)) (8 + 40 * v1) (v2).toNat) (M (a + 2) (8 + 40 * v1 + v2))) (M (a + 2) (8 + 40 * v1 + v2))))) := by
  refine zCt.of rfl (Nat.le_of_ble_eq_true rfl) ?_
  intro p e s m args below meth c C
  obtain ⟨Po, hPo⟩ : ∃ Po, Po = zPp T M J R (fun x => (x = 0 ∨ x = 1) ∧ (x = 1 ↔ zBl (zLb (M (a + 4)) (400 * v1 + zSum (M (a + 2)) (8 + 40 * v1) (v2).toNat) (M (a + 2) (8 + 40 * v1 + v2))) (M (a + 2) (8 + 40 * v1 + v2)))) := ⟨_, rfl⟩
  rw [← hPo]
  show zK w p e 3 0 0 s m args below meth c 5 T Po 0 [.ref (w.2.1 + a), zi v1, zi v2, .null, .null] [] (T, M, J, R)
  refine q_aload_n C dX12_isBlankLine_0 (n := 1) rfl rfl ?_
  refine q_iload_n C dX12_isBlankLine_1 (n := 2) rfl rfl ?_
  refine q_iload_n C dX12_isBlankLine_2 (n := 3) rfl rfl ?_
  refine q_callVp C dX12_isBlankLine_3 (n := 6) rfl m_X12_321 v_yX12_beginOf (zM0 h0) ⟨by decide, rfl⟩ (c_X12_beginOf (w := w) (J := J) hI hF h0 v1 v2 p1 (by omega) (by omega)) (Nat.le_of_ble_eq_true rfl) rfl rfl (Nat.le_of_ble_eq_true rfl) ⟨Nat.le_refl _, Nat.le_refl _⟩ (fun x4 h5 => ?_)
  obtain ⟨h1, h2, h3⟩ := h5
  refine q_istore_n C [.ref (w.2.1 + a), zi v1, zi v2, zi x4, .null] dX12_isBlankLine_6 (n := 7) rfl rfl rfl ?_
  refine q_iconst C dX12_isBlankLine_7 (n := 8) rfl ?_
  refine q_istore C [.ref (w.2.1 + a), zi v1, zi v2, zi x4, zi 0] dX12_isBlankLine_8 (n := 10) rfl rfl rfl ?_
  have L_10 : ∀ n11 : Nat, ∀ (u6 : Int), (-2147483648 ≤ u6 ∧ u6 ≤ 2147483647) → (0 ≤ u6 ∧ u6 ≤ 440) → (∀ q, 0 ≤ q → q < u6 → M (a + 4) (x4 + q) = 32) → (440 - u6 + 1 ≤ (n11 : Int)) → zK w p e 3 0 0 s m args below meth c 5 T Po 10 [.ref (w.2.1 + a), zi v1, zi v2, zi x4, zi u6] [] (T, M, J, R) := by
    intro n11
    induction n11 with
    | zero =>
      intro u6 h7 h8 h9 hm13
      exfalso
      omega
    | succ n11 ih12 =>
      intro u6 h7 h8 h9 hm13
      refine q_iload C dX12_isBlankLine_10 (n := 12) rfl rfl ?_
      refine q_aload_n C dX12_isBlankLine_12 (n := 13) rfl rfl ?_
      refine q_iload_n C dX12_isBlankLine_13 (n := 14) rfl rfl ?_
      refine q_iload_n C dX12_isBlankLine_14 (n := 15) rfl rfl ?_
      refine q_callVp C dX12_isBlankLine_15 (n := 18) rfl m_X12_289 v_yX12_lengthOf (zM0 h0) ⟨by decide, rfl⟩ (c_X12_lengthOf (w := w) (J := J) hI hF h0 v1 v2 (by omega) (by omega)) (Nat.le_of_ble_eq_true rfl) rfl rfl (Nat.le_of_ble_eq_true rfl) ⟨Nat.le_refl _, Nat.le_refl _⟩ (fun x16 h17 => ?_)
      obtain ⟨h14, h15⟩ := h17
      refine q_icmp_ge C 43 dX12_isBlankLine_18 (n := 21) rfl rfl (by omega) (fun h18 => ?_) (fun h18 => ?_)
      · refine q_iconst C dX12_isBlankLine_43 (n := 44) rfl ?_
        exact q_zret C dX12_isBlankLine_44 ⟨rfl, rfl⟩ (by omega) (by rw [hPo]; exact ⟨1, rfl, rfl, by omega, ⟨fun _ q q0 q1 => by rw [zLb_at ⟨q0, q1⟩, ← (show (x4 : Int) = 400 * v1 + zSum (M (a + 2)) (8 + 40 * v1) (v2).toNat by omega)]; exact h9 q q0 (by omega), fun _ => rfl⟩⟩)
      · refine q_aload_n C dX12_isBlankLine_21 (n := 22) rfl rfl ?_
        refine q_getR C dX12_isBlankLine_22 (n := 25) rfl f_X12_24 (zM0 h0) (hF _ _ _ (zM13 h0)) ?_
        refine q_iload_n C dX12_isBlankLine_25 (n := 26) rfl rfl ?_
        refine q_iload C dX12_isBlankLine_26 (n := 28) rfl rfl ?_
        refine q_iadd C dX12_isBlankLine_28 (n := 29) rfl (v := x4 + u6) rfl ?_
        have g19 := zI.at hI ((zM15 h0) (x4 + u6))
        refine q_bald C dX12_isBlankLine_29 (n := 30) rfl (zM14 h0) (by omega) (v := M (a + 4) (x4 + u6)) rfl ?_
        refine q_bipush C dX12_isBlankLine_30 (n := 32) rfl (x := 32) (by decide) ?_
        refine q_icmp_eq C 37 dX12_isBlankLine_32 (n := 35) rfl rfl (by omega) (fun h20 => ?_) (fun h20 => ?_)
        · refine q_iinc C [.ref (w.2.1 + a), zi v1, zi v2, zi x4, zi (u6 + 1)] dX12_isBlankLine_37 (n := 40) rfl rfl rfl rfl ?_
          refine q_goto C 10 dX12_isBlankLine_40 rfl ?_
          exact zK.weak (ih12 (u6 + 1) (by omega) (by omega) (fun q q0 q1 => (Decidable.em (q = u6)).elim (fun z => by rw [z]; omega) (fun z => h9 q q0 (by omega))) (by omega)) (zwk_c (zwk_c (zwk_c (zwk_c (zwk_c zwk_e)))))
        · refine q_iconst C dX12_isBlankLine_35 (n := 36) rfl ?_
          exact q_zret C dX12_isBlankLine_36 ⟨rfl, rfl⟩ (by omega) (by rw [hPo]; exact ⟨0, rfl, rfl, by omega, ⟨fun z => absurd z (by decide), fun z => by have t := z u6 (by omega) (by omega); rw [zLb_at (by omega), ← (show (x4 : Int) = 400 * v1 + zSum (M (a + 2)) (8 + 40 * v1) (v2).toNat by omega)] at t; omega⟩⟩)
  exact zK.weak (L_10 _ 0 (by omega) (by omega) (fun q q0 q1 => by omega) (Int.self_le_toNat _)) (zwk_c (zwk_c (zwk_c (zwk_c (zwk_c zwk_e)))))
theorem c_X12_lexAt_e {w : zWp} {T : zTl} {M : zMm} {J : zJm} {R : zRm'} {G : zGt} {F : zRm'} {a : Nat} (hI : zI G M) (hF : zF F R) (h0 : zModel T F G a) (v1 : Int) (v2 : Int) (p1 : 0 ≤ v1 ∧ v1 ≤ v2 ∧ v2 ≤ 61999) (p2 : v1 < v2) : zCt w 2 0 0 yX12_lexAt cX12_lexAt 7 (some .int) [.ref (w.2.1 + a), zi v1, zi v2] (T, M, J, R) (zPi T R G (fun x M2 => (zMd a [] [34] [] M M2) ∧ (0 ≤ x ∧ (x ≤ v2 - v1 ∨ v1 = v2 ∧ x ≤ 2)) ∧ (zLx (M (a + 17)) v2 v1 x (M2 a 34)))) := by
  refine zCt.of rfl (Nat.le_of_ble_eq_true rfl) ?_
  intro p e s m args below meth c C
  obtain ⟨Po, hPo⟩ : ∃ Po, Po = zPi T R G (fun x M2 => (zMd a [] [34] [] M M2) ∧ (0 ≤ x ∧ (x ≤ v2 - v1 ∨ v1 = v2 ∧ x ≤ 2)) ∧ (zLx (M (a + 17)) v2 v1 x (M2 a 34))) := ⟨_, rfl⟩
  rw [← hPo]
  have hK0 : zMd a [] [34] [] M M := zMd.rf
  show zK w p e 2 0 0 s m args below meth c 7 T Po 0 [.ref (w.2.1 + a), zi v1, zi v2, .null, .null, .null, .null] [] (T, M, J, R)
  refine q_aload_n C dX12_lexAt_0 (n := 1) rfl rfl ?_
  refine q_getR C dX12_lexAt_1 (n := 4) rfl f_X12_65 (zM0 h0) (hF _ _ _ (zM55 h0)) ?_
  refine q_iload_n C dX12_lexAt_4 (n := 5) rfl rfl ?_
  have g1 := zI.at hI ((zM57 h0) v1)
  refine q_bald C dX12_lexAt_5 (n := 6) rfl (zM56 h0) (by omega) (v := M (a + 17) v1) rfl ?_
  refine q_istore_n C [.ref (w.2.1 + a), zi v1, zi v2, zi (M (a + 17) v1), .null, .null, .null] dX12_lexAt_6 (n := 7) rfl rfl rfl ?_
  refine q_iload_n C dX12_lexAt_7 (n := 8) rfl rfl ?_
  refine q_istore C [.ref (w.2.1 + a), zi v1, zi v2, zi (M (a + 17) v1), zi v1, .null, .null] dX12_lexAt_8 (n := 10) rfl rfl rfl ?_
  refine q_iload_n C dX12_lexAt_10 (n := 11) rfl rfl ?_
  refine q_callSp C dX12_lexAt_11 (n := 14) rfl m_X12_304 s_yX12_isStart (c_X12_isStart_e (w := w) (J := J) hI hF (M (a + 17) v1) (by omega)) (Nat.le_of_ble_eq_true rfl) rfl rfl (Nat.le_of_ble_eq_true rfl) ⟨Nat.le_refl _, Nat.le_refl _⟩ (fun x4 h5 => ?_)
  obtain ⟨h2, h3⟩ := h5
  have J_7 : (zWd (M (a + 17) v1) = 1) → zK w p e 2 0 0 s m args below meth c 7 T Po 24 [.ref (w.2.1 + a), zi v1, zi v2, zi (M (a + 17) v1), zi v1, .null, .null] [] (T, M, J, R) := by
    intro h6
    refine q_aload_n C dX12_lexAt_24 (n := 25) rfl rfl ?_
    refine q_iload_n C dX12_lexAt_25 (n := 26) rfl rfl ?_
    refine q_callSp C dX12_lexAt_26 (n := 29) rfl m_X12_307 s_yX12_isDigit (c_X12_isDigit_e (w := w) (J := J) hI hF (M (a + 17) v1) (by omega)) (Nat.le_of_ble_eq_true rfl) rfl rfl (Nat.le_of_ble_eq_true rfl) ⟨Nat.le_refl _, Nat.le_refl _⟩ (fun x11 h12 => ?_)
    obtain ⟨h8, h9, h10⟩ := h12
    have J_18 : ∀ (u13 : Int), (-2147483648 ≤ u13 ∧ u13 ≤ 2147483647) → (u13 = 0 ∨ u13 = 1) → (0 ≤ u13 ∧ u13 ≤ 3) → (u13 = 1 ∧ (48 ≤ M (a + 17) v1 ∧ M (a + 17) v1 ≤ 57) ∨ u13 = 0 ∧ ¬ (48 ≤ M (a + 17) v1 ∧ M (a + 17) v1 ≤ 57)) → zK w p e 2 0 0 s m args below meth c 7 T Po 37 [.ref (w.2.1 + a), zi v1, zi v2, .null, zi v1, .null, .null] [zi u13, .ref (w.2.1 + a)] (T, M, J, R) := by
      intro u13 h14 h15 h16 h17
      refine q_putI C dX12_lexAt_37 (n := 40) rfl f_X12_388 (zM0 h0) ⟨rfl, rfl⟩ (fun M19 (e20 : M19 = zup M a 34 u13) => ?_)
      have hI21 : zI G M19 := hI.put e20 (zM77 h0) rfl (by omega)
      have hK22 := hK0.upS e20 rfl
      have L_27 : ∀ n28 : Nat, ∀ (u23 : Int), (-2147483648 ≤ u23 ∧ u23 ≤ 2147483647) → (v1 ≤ u23 ∧ u23 ≤ v2) → (∀ q, v1 ≤ q → q < u23 → zWd (M (a + 17) q) = 1) → (v2 - u23 + 1 ≤ (n28 : Int)) → zK w p e 2 0 0 s m args below meth c 7 T Po 40 [.ref (w.2.1 + a), zi v1, zi v2, .null, zi u23, .null, .null] [] (T, M19, J, R) := by
        intro n28
        induction n28 with
        | zero =>
          intro u23 h24 h25 h26 hm30
          exfalso
          omega
        | succ n28 ih29 =>
          intro u23 h24 h25 h26 hm30
          refine q_iload C dX12_lexAt_40 (n := 42) rfl rfl ?_
          refine q_iload_n C dX12_lexAt_42 (n := 43) rfl rfl ?_
          have J_32 : (u23 = v2 ∨ zWd (M (a + 17) u23) = 0) → zK w p e 2 0 0 s m args below meth c 7 T Po 78 [.null, zi v1, .null, .null, zi u23, .null, .null] [] (T, M19, J, R) := by
            intro h31
            refine q_iload C dX12_lexAt_78 (n := 80) rfl rfl ?_
            refine q_iload_n C dX12_lexAt_80 (n := 81) rfl rfl ?_
            refine q_isub C dX12_lexAt_81 (n := 82) rfl (v := u23 - v1) rfl ?_
            exact q_iret C dX12_lexAt_82 ⟨rfl, rfl⟩ (by rw [hPo]; exact ⟨u23 - v1, M19, J, rfl, rfl, hI21, hK22, by omega, (Or.inl ⟨h6, ⟨by omega, fun q q0 q1 => h26 q q0 (by omega), (h31).imp (fun z => by omega) (fun z q => by have q2 : zWd (M (a + 17) (v1 + (u23 - v1))) = 1 := q; rw [show v1 + (u23 - v1) = u23 by omega] at q2; omega)⟩, (by have hk9 : M19 a 34 = u13 := (zup_s e20); omega)⟩)⟩)
          refine q_icmp_ge C 78 dX12_lexAt_43 (n := 46) rfl rfl (by omega) (fun h33 => ?_) (fun h33 => ?_)
          · exact zK.weak (J_32 (by have := zWd_i (M (a + 17) u23); omega)) (zwk_n (zwk_c (zwk_n (zwk_n (zwk_c (zwk_n (zwk_n zwk_e)))))))
          · refine q_aload_n C dX12_lexAt_46 (n := 47) rfl rfl ?_
            refine q_getR C dX12_lexAt_47 (n := 50) rfl f_X12_65 (zM0 h0) (hF _ _ _ (zM55 h0)) ?_
            refine q_iload C dX12_lexAt_50 (n := 52) rfl rfl ?_
            have g34 := zI.at hI ((zM57 h0) u23)
            refine q_bald C dX12_lexAt_52 (n := 53) rfl (zM56 h0) (by omega) (v := M (a + 17) u23) (zup_p e20 (by omega) _) ?_
            refine q_callSp C dX12_lexAt_53 (n := 56) rfl m_X12_304 s_yX12_isStart (c_X12_isStart_e (w := w) (J := J) hI21 hF (M (a + 17) u23) (by omega)) (Nat.le_of_ble_eq_true rfl) rfl rfl (Nat.le_of_ble_eq_true rfl) ⟨Nat.le_refl _, Nat.le_refl _⟩ (fun x37 h38 => ?_)
            obtain ⟨h35, h36⟩ := h38
            have J_40 : (zWd (M (a + 17) u23) = 1) → zK w p e 2 0 0 s m args below meth c 7 T Po 72 [.ref (w.2.1 + a), zi v1, zi v2, .null, zi u23, .null, .null] [] (T, M19, J, R) := by
              intro h39
              refine q_iinc C [.ref (w.2.1 + a), zi v1, zi v2, .null, zi (u23 + 1), .null, .null] dX12_lexAt_72 (n := 75) rfl rfl rfl rfl ?_
              refine q_goto C 40 dX12_lexAt_75 rfl ?_
              exact zK.weak (ih29 (u23 + 1) (by omega) (by omega) (fun q q0 q1 => (Decidable.em (q = u23)).elim (fun z => by rw [z]; exact h39) (fun z => h26 q q0 (by omega))) (by omega)) (zwk_c (zwk_c (zwk_c (zwk_n (zwk_c (zwk_n (zwk_n zwk_e)))))))
            refine q_if_ne C 72 dX12_lexAt_56 (n := 59) rfl rfl (by omega) (fun h41 => ?_) (fun h41 => ?_)
            · exact zK.weak (J_40 (by have := zWd_i (M (a + 17) u23); omega)) (zwk_c (zwk_c (zwk_c (zwk_n (zwk_c (zwk_n (zwk_n zwk_e)))))))
            · refine q_aload_n C dX12_lexAt_59 (n := 60) rfl rfl ?_
              refine q_getR C dX12_lexAt_60 (n := 63) rfl f_X12_65 (zM0 h0) (hF _ _ _ (zM55 h0)) ?_
              refine q_iload C dX12_lexAt_63 (n := 65) rfl rfl ?_
              refine q_bald C dX12_lexAt_65 (n := 66) rfl (zM56 h0) (by omega) (v := M (a + 17) u23) (zup_p e20 (by omega) _) ?_
              refine q_callSp C dX12_lexAt_66 (n := 69) rfl m_X12_307 s_yX12_isDigit (c_X12_isDigit_e (w := w) (J := J) hI21 hF (M (a + 17) u23) (by omega)) (Nat.le_of_ble_eq_true rfl) rfl rfl (Nat.le_of_ble_eq_true rfl) ⟨Nat.le_refl _, Nat.le_refl _⟩ (fun x45 h46 => ?_)
              obtain ⟨h42, h43, h44⟩ := h46
              refine q_if_eq C 78 dX12_lexAt_69 (n := 72) rfl rfl (by omega) (fun h47 => ?_) (fun h47 => ?_)
              · exact zK.weak (J_32 (by have := zWd_i (M (a + 17) u23); omega)) (zwk_n (zwk_c (zwk_n (zwk_n (zwk_c (zwk_n (zwk_n zwk_e)))))))
              · exact zK.weak (J_40 (by have := zWd_i (M (a + 17) u23); omega)) (zwk_c (zwk_c (zwk_c (zwk_n (zwk_c (zwk_n (zwk_n zwk_e)))))))
      exact zK.weak (L_27 _ v1 (by omega) (by omega) (fun q q0 q1 => by omega) (Int.self_le_toNat _)) (zwk_c (zwk_c (zwk_c (zwk_n (zwk_c (zwk_n (zwk_n zwk_e)))))))
    refine q_if_eq C 36 dX12_lexAt_29 (n := 32) rfl rfl (by omega) (fun h48 => ?_) (fun h48 => ?_)
    · refine q_iconst C dX12_lexAt_36 (n := 37) rfl ?_
      exact zK.weak (J_18 0 (by omega) (by omega) (by omega) (by omega)) (zwk_c (zwk_c (zwk_c (zwk_n (zwk_c (zwk_n (zwk_n zwk_e)))))))
    · refine q_iconst C dX12_lexAt_32 (n := 33) rfl ?_
      refine q_goto C 37 dX12_lexAt_33 rfl ?_
      exact zK.weak (J_18 1 (by omega) (by omega) (by omega) (by omega)) (zwk_c (zwk_c (zwk_c (zwk_n (zwk_c (zwk_n (zwk_n zwk_e)))))))
  refine q_if_ne C 24 dX12_lexAt_14 (n := 17) rfl rfl (by omega) (fun h49 => ?_) (fun h49 => ?_)
  · exact zK.weak (J_7 (by have := zWd_i (M (a + 17) v1); omega)) (zwk_c (zwk_c (zwk_c (zwk_c (zwk_c (zwk_n (zwk_n zwk_e)))))))
  · refine q_iload_n C dX12_lexAt_17 (n := 18) rfl rfl ?_
    refine q_callSp C dX12_lexAt_18 (n := 21) rfl m_X12_307 s_yX12_isDigit (c_X12_isDigit_e (w := w) (J := J) hI hF (M (a + 17) v1) (by omega)) (Nat.le_of_ble_eq_true rfl) rfl rfl (Nat.le_of_ble_eq_true rfl) ⟨Nat.le_refl _, Nat.le_refl _⟩ (fun x53 h54 => ?_)
    obtain ⟨h50, h51, h52⟩ := h54
    refine q_if_eq C 83 dX12_lexAt_21 (n := 24) rfl rfl (by omega) (fun h55 => ?_) (fun h55 => ?_)
    · have hw0 : zWd (M (a + 17) v1) = 0 := by have := zWd_i (M (a + 17) v1); omega
      refine q_iload_n C dX12_lexAt_83 (n := 84) rfl rfl ?_
      refine q_bipush C dX12_lexAt_84 (n := 86) rfl (x := 34) (by decide) ?_
      refine q_icmp_ne C 138 dX12_lexAt_86 (n := 89) rfl rfl (by omega) (fun h56 => ?_) (fun h56 => ?_)
      · refine q_aload_n C dX12_lexAt_138 (n := 139) rfl rfl ?_
        refine q_iconst C dX12_lexAt_139 (n := 140) rfl ?_
        refine q_putI C dX12_lexAt_140 (n := 143) rfl f_X12_388 (zM0 h0) ⟨rfl, rfl⟩ (fun M57 (e58 : M57 = zup M a 34 3) => ?_)
        have hI59 : zI G M57 := hI.put e58 (zM77 h0) rfl (by omega)
        have hK60 := hK0.upS e58 rfl
        refine q_iload C dX12_lexAt_143 (n := 145) rfl rfl ?_
        refine q_iconst C dX12_lexAt_145 (n := 146) rfl ?_
        refine q_iadd C dX12_lexAt_146 (n := 147) rfl (v := v1 + 1) rfl ?_
        refine q_iload_n C dX12_lexAt_147 (n := 148) rfl rfl ?_
        have J_65 : ∀ (u61 : Int), (-2147483648 ≤ u61 ∧ u61 ≤ 2147483647) → (u61 = 0 ∨ v1 + 1 < v2) → (v1 + 1 < v2 ∧ u61 = M (a + 17) (v1 + 1) ∨ v2 ≤ v1 + 1 ∧ u61 = 0) → zK w p e 2 0 0 s m args below meth c 7 T Po 164 [.null, .null, .null, zi (M (a + 17) v1), .null, .null, .null] [zi u61] (T, M57, J, R) := by
          intro u61 h62 h63 h64
          refine q_istore C [.null, .null, .null, zi (M (a + 17) v1), .null, zi u61, .null] dX12_lexAt_164 (n := 166) rfl rfl rfl ?_
          refine q_iload_n C dX12_lexAt_166 (n := 167) rfl rfl ?_
          refine q_bipush C dX12_lexAt_167 (n := 169) rfl (x := 35) (by decide) ?_
          have J_71 : ∀ (u66 : Int), (-2147483648 ≤ u66 ∧ u66 ≤ 2147483647) → (u66 = 0 ∨ u66 = 1) → (u66 = 0 ∨ v1 + 1 < v2) → (u66 = 1 ∧ (M (a + 17) v1 ≠ 35 ∨ v1 + 1 < v2 ∧ M (a + 17) (v1 + 1) = 35) ∨ u66 = 0 ∧ (M (a + 17) v1 ≠ 35 ∨ ¬ (v1 + 1 < v2 ∧ M (a + 17) (v1 + 1) = 35))) → zK w p e 2 0 0 s m args below meth c 7 T Po 245 [.null, .null, .null, .null, .null, .null, .null] [zi u66] (T, M57, J, R) := by
            intro u66 h67 h68 h69 h70
            refine q_istore C [.null, .null, .null, .null, .null, .null, zi u66] dX12_lexAt_245 (n := 247) rfl rfl rfl ?_
            refine q_iload C dX12_lexAt_247 (n := 249) rfl rfl ?_
            have J_75 : ∀ (u72 : Int), (-2147483648 ≤ u72 ∧ u72 ≤ 2147483647) → (u72 = 2 ∧ v1 + 1 < v2 ∧ (M (a + 17) v1 ≠ 35 ∨ v1 + 1 < v2 ∧ M (a + 17) (v1 + 1) = 35) ∨ u72 = 1 ∧ (M (a + 17) v1 ≠ 35 ∨ ¬ (v1 + 1 < v2 ∧ M (a + 17) (v1 + 1) = 35))) → zK w p e 2 0 0 s m args below meth c 7 T Po 257 [.null, .null, .null, .null, .null, .null, .null] [zi u72] (T, M57, J, R) := by
              intro u72 h73 h74
              exact q_iret C dX12_lexAt_257 ⟨rfl, rfl⟩ (by rw [hPo]; exact ⟨u72, M57, J, rfl, rfl, hI59, hK60, by omega, (Or.inr ⟨hw0, Or.inr ⟨by omega, (by have hk9 : M57 a 34 = 3 := (zup_s e58); omega), by omega⟩⟩)⟩)
            refine q_if_eq C 256 dX12_lexAt_249 (n := 252) rfl rfl (by omega) (fun h76 => ?_) (fun h76 => ?_)
            · refine q_iconst C dX12_lexAt_256 (n := 257) rfl ?_
              exact zK.weak (J_75 1 (by omega) (by omega)) (zwk_n (zwk_n (zwk_n (zwk_n (zwk_n (zwk_n (zwk_n zwk_e)))))))
            · refine q_iconst C dX12_lexAt_252 (n := 253) rfl ?_
              refine q_goto C 257 dX12_lexAt_253 rfl ?_
              exact zK.weak (J_75 2 (by omega) (by omega)) (zwk_n (zwk_n (zwk_n (zwk_n (zwk_n (zwk_n (zwk_n zwk_e)))))))
          have J_79 : (v1 + 1 < v2) → (M (a + 17) v1 ≠ 35 ∨ v1 + 1 < v2 ∧ M (a + 17) (v1 + 1) = 35) → zK w p e 2 0 0 s m args below meth c 7 T Po 240 [.null, .null, .null, .null, .null, .null, .null] [] (T, M57, J, R) := by
            intro h77 h78
            refine q_iconst C dX12_lexAt_240 (n := 241) rfl ?_
            refine q_goto C 245 dX12_lexAt_241 rfl ?_
            exact zK.weak (J_71 1 (by omega) (by omega) (by omega) (by omega)) (zwk_n (zwk_n (zwk_n (zwk_n (zwk_n (zwk_n (zwk_n zwk_e)))))))
          have J_81 : (M (a + 17) v1 ≠ 35 ∨ ¬ (v1 + 1 < v2 ∧ M (a + 17) (v1 + 1) = 35)) → zK w p e 2 0 0 s m args below meth c 7 T Po 179 [.null, .null, .null, zi (M (a + 17) v1), .null, zi u61, .null] [] (T, M57, J, R) := by
            intro h80
            refine q_iload C dX12_lexAt_179 (n := 181) rfl rfl ?_
            refine q_bipush C dX12_lexAt_181 (n := 183) rfl (x := 61) (by decide) ?_
            have J_83 : (M (a + 17) v1 ≠ 35 ∨ ¬ (v1 + 1 < v2 ∧ M (a + 17) (v1 + 1) = 35)) → zK w p e 2 0 0 s m args below meth c 7 T Po 210 [.null, .null, .null, zi (M (a + 17) v1), .null, zi u61, .null] [] (T, M57, J, R) := by
              intro h82
              refine q_iload_n C dX12_lexAt_210 (n := 211) rfl rfl ?_
              refine q_iload C dX12_lexAt_211 (n := 213) rfl rfl ?_
              have J_85 : (M (a + 17) v1 ≠ 35 ∨ ¬ (v1 + 1 < v2 ∧ M (a + 17) (v1 + 1) = 35)) → zK w p e 2 0 0 s m args below meth c 7 T Po 244 [.null, .null, .null, .null, .null, .null, .null] [] (T, M57, J, R) := by
                intro h84
                refine q_iconst C dX12_lexAt_244 (n := 245) rfl ?_
                exact zK.weak (J_71 0 (by omega) (by omega) (by omega) (by omega)) (zwk_n (zwk_n (zwk_n (zwk_n (zwk_n (zwk_n (zwk_n zwk_e)))))))
              refine q_icmp_ne C 244 dX12_lexAt_213 (n := 216) rfl rfl (by omega) (fun h86 => ?_) (fun h86 => ?_)
              · exact zK.weak (J_85 (by omega)) (zwk_n (zwk_n (zwk_n (zwk_n (zwk_n (zwk_n (zwk_n zwk_e)))))))
              · refine q_iload_n C dX12_lexAt_216 (n := 217) rfl rfl ?_
                refine q_bipush C dX12_lexAt_217 (n := 219) rfl (x := 38) (by decide) ?_
                refine q_icmp_eq C 240 dX12_lexAt_219 (n := 222) rfl rfl (by omega) (fun h87 => ?_) (fun h87 => ?_)
                · exact zK.weak (J_79 (by omega) (by omega)) (zwk_n (zwk_n (zwk_n (zwk_n (zwk_n (zwk_n (zwk_n zwk_e)))))))
                · refine q_iload_n C dX12_lexAt_222 (n := 223) rfl rfl ?_
                  refine q_bipush C dX12_lexAt_223 (n := 225) rfl (x := 124) (by decide) ?_
                  refine q_icmp_eq C 240 dX12_lexAt_225 (n := 228) rfl rfl (by omega) (fun h88 => ?_) (fun h88 => ?_)
                  · exact zK.weak (J_79 (by omega) (by omega)) (zwk_n (zwk_n (zwk_n (zwk_n (zwk_n (zwk_n (zwk_n zwk_e)))))))
                  · refine q_iload_n C dX12_lexAt_228 (n := 229) rfl rfl ?_
                    refine q_bipush C dX12_lexAt_229 (n := 231) rfl (x := 60) (by decide) ?_
                    refine q_icmp_eq C 240 dX12_lexAt_231 (n := 234) rfl rfl (by omega) (fun h89 => ?_) (fun h89 => ?_)
                    · exact zK.weak (J_79 (by omega) (by omega)) (zwk_n (zwk_n (zwk_n (zwk_n (zwk_n (zwk_n (zwk_n zwk_e)))))))
                    · refine q_iload_n C dX12_lexAt_234 (n := 235) rfl rfl ?_
                      refine q_bipush C dX12_lexAt_235 (n := 237) rfl (x := 62) (by decide) ?_
                      refine q_icmp_ne C 244 dX12_lexAt_237 (n := 240) rfl rfl (by omega) (fun h90 => ?_) (fun h90 => ?_)
                      · exact zK.weak (J_85 (by omega)) (zwk_n (zwk_n (zwk_n (zwk_n (zwk_n (zwk_n (zwk_n zwk_e)))))))
                      · exact zK.weak (J_79 (by omega) (by omega)) (zwk_n (zwk_n (zwk_n (zwk_n (zwk_n (zwk_n (zwk_n zwk_e)))))))
            refine q_icmp_ne C 210 dX12_lexAt_183 (n := 186) rfl rfl (by omega) (fun h91 => ?_) (fun h91 => ?_)
            · exact zK.weak (J_83 (by omega)) (zwk_n (zwk_n (zwk_n (zwk_c (zwk_n (zwk_c (zwk_n zwk_e)))))))
            · refine q_iload_n C dX12_lexAt_186 (n := 187) rfl rfl ?_
              refine q_bipush C dX12_lexAt_187 (n := 189) rfl (x := 61) (by decide) ?_
              refine q_icmp_eq C 240 dX12_lexAt_189 (n := 192) rfl rfl (by omega) (fun h92 => ?_) (fun h92 => ?_)
              · exact zK.weak (J_79 (by omega) (by omega)) (zwk_n (zwk_n (zwk_n (zwk_n (zwk_n (zwk_n (zwk_n zwk_e)))))))
              · refine q_iload_n C dX12_lexAt_192 (n := 193) rfl rfl ?_
                refine q_bipush C dX12_lexAt_193 (n := 195) rfl (x := 33) (by decide) ?_
                refine q_icmp_eq C 240 dX12_lexAt_195 (n := 198) rfl rfl (by omega) (fun h93 => ?_) (fun h93 => ?_)
                · exact zK.weak (J_79 (by omega) (by omega)) (zwk_n (zwk_n (zwk_n (zwk_n (zwk_n (zwk_n (zwk_n zwk_e)))))))
                · refine q_iload_n C dX12_lexAt_198 (n := 199) rfl rfl ?_
                  refine q_bipush C dX12_lexAt_199 (n := 201) rfl (x := 60) (by decide) ?_
                  refine q_icmp_eq C 240 dX12_lexAt_201 (n := 204) rfl rfl (by omega) (fun h94 => ?_) (fun h94 => ?_)
                  · exact zK.weak (J_79 (by omega) (by omega)) (zwk_n (zwk_n (zwk_n (zwk_n (zwk_n (zwk_n (zwk_n zwk_e)))))))
                  · refine q_iload_n C dX12_lexAt_204 (n := 205) rfl rfl ?_
                    refine q_bipush C dX12_lexAt_205 (n := 207) rfl (x := 62) (by decide) ?_
                    refine q_icmp_eq C 240 dX12_lexAt_207 (n := 210) rfl rfl (by omega) (fun h95 => ?_) (fun h95 => ?_)
                    · exact zK.weak (J_79 (by omega) (by omega)) (zwk_n (zwk_n (zwk_n (zwk_n (zwk_n (zwk_n (zwk_n zwk_e)))))))
                    · exact zK.weak (J_83 (by omega)) (zwk_n (zwk_n (zwk_n (zwk_c (zwk_n (zwk_c (zwk_n zwk_e)))))))
          refine q_icmp_ne C 179 dX12_lexAt_169 (n := 172) rfl rfl (by omega) (fun h96 => ?_) (fun h96 => ?_)
          · exact zK.weak (J_81 (by omega)) (zwk_n (zwk_n (zwk_n (zwk_c (zwk_n (zwk_c (zwk_n zwk_e)))))))
          · refine q_iload C dX12_lexAt_172 (n := 174) rfl rfl ?_
            refine q_bipush C dX12_lexAt_174 (n := 176) rfl (x := 35) (by decide) ?_
            refine q_icmp_eq C 240 dX12_lexAt_176 (n := 179) rfl rfl (by omega) (fun h97 => ?_) (fun h97 => ?_)
            · exact zK.weak (J_79 (by omega) (by omega)) (zwk_n (zwk_n (zwk_n (zwk_n (zwk_n (zwk_n (zwk_n zwk_e)))))))
            · exact zK.weak (J_81 (by omega)) (zwk_n (zwk_n (zwk_n (zwk_c (zwk_n (zwk_c (zwk_n zwk_e)))))))
        refine q_icmp_ge C 163 dX12_lexAt_148 (n := 151) rfl rfl (by omega) (fun h98 => ?_) (fun h98 => ?_)
        · refine q_iconst C dX12_lexAt_163 (n := 164) rfl ?_
          exact zK.weak (J_65 0 (by omega) (by omega) (by omega)) (zwk_n (zwk_n (zwk_n (zwk_c (zwk_n (zwk_n (zwk_n zwk_e)))))))
        · refine q_aload_n C dX12_lexAt_151 (n := 152) rfl rfl ?_
          refine q_getR C dX12_lexAt_152 (n := 155) rfl f_X12_65 (zM0 h0) (hF _ _ _ (zM55 h0)) ?_
          refine q_iload C dX12_lexAt_155 (n := 157) rfl rfl ?_
          refine q_iconst C dX12_lexAt_157 (n := 158) rfl ?_
          refine q_iadd C dX12_lexAt_158 (n := 159) rfl (v := v1 + 1) rfl ?_
          have g99 := zI.at hI ((zM57 h0) (v1 + 1))
          refine q_bald C dX12_lexAt_159 (n := 160) rfl (zM56 h0) (by omega) (v := M (a + 17) (v1 + 1)) (zup_p e58 (by omega) _) ?_
          refine q_goto C 164 dX12_lexAt_160 rfl ?_
          exact zK.weak (J_65 (M (a + 17) (v1 + 1)) (by omega) (by omega) (by omega)) (zwk_n (zwk_n (zwk_n (zwk_c (zwk_n (zwk_n (zwk_n zwk_e)))))))
      · refine q_aload_n C dX12_lexAt_89 (n := 90) rfl rfl ?_
        refine q_iconst C dX12_lexAt_90 (n := 91) rfl ?_
        refine q_putI C dX12_lexAt_91 (n := 94) rfl f_X12_388 (zM0 h0) ⟨rfl, rfl⟩ (fun M100 (e101 : M100 = zup M a 34 2) => ?_)
        have hI102 : zI G M100 := hI.put e101 (zM77 h0) rfl (by omega)
        have hK103 := hK0.upS e101 rfl
        refine q_iinc C [.ref (w.2.1 + a), zi v1, zi v2, zi (M (a + 17) v1), zi (v1 + 1), .null, .null] dX12_lexAt_94 (n := 97) rfl rfl rfl rfl ?_
        have L_107 : ∀ n108 : Nat, ∀ (u104 : Int), (-2147483648 ≤ u104 ∧ u104 ≤ 2147483647) → (v1 + 1 ≤ u104 ∧ (u104 ≤ v2 ∨ u104 = v1 + 1)) → (v2 - u104 + 2 ≤ (n108 : Int)) → zK w p e 2 0 0 s m args below meth c 7 T Po 97 [.ref (w.2.1 + a), zi v1, zi v2, .null, zi u104, .null, .null] [] (T, M100, J, R) := by
          intro n108
          induction n108 with
          | zero =>
            intro u104 h105 h106 hm110
            exfalso
            omega
          | succ n108 ih109 =>
            intro u104 h105 h106 hm110
            refine q_iload C dX12_lexAt_97 (n := 99) rfl rfl ?_
            refine q_iload_n C dX12_lexAt_99 (n := 100) rfl rfl ?_
            have J_111 : zK w p e 2 0 0 s m args below meth c 7 T Po 121 [.null, zi v1, zi v2, .null, zi u104, .null, .null] [] (T, M100, J, R) := by
              refine q_iload C dX12_lexAt_121 (n := 123) rfl rfl ?_
              refine q_iload_n C dX12_lexAt_123 (n := 124) rfl rfl ?_
              refine q_icmp_ge C 136 dX12_lexAt_124 (n := 127) rfl rfl (by omega) (fun h112 => ?_) (fun h112 => ?_)
              · refine q_iconst C dX12_lexAt_136 (n := 137) rfl ?_
                exact q_iret C dX12_lexAt_137 ⟨rfl, rfl⟩ (by rw [hPo]; exact ⟨0, M100, J, rfl, rfl, hI102, hK103, by omega, (Or.inr ⟨hw0, Or.inl ⟨by omega, (by have hk9 : M100 a 34 = 2 := (zup_s e101); omega)⟩⟩)⟩)
              · refine q_iload C dX12_lexAt_127 (n := 129) rfl rfl ?_
                refine q_iconst C dX12_lexAt_129 (n := 130) rfl ?_
                refine q_iadd C dX12_lexAt_130 (n := 131) rfl (v := u104 + 1) rfl ?_
                refine q_iload_n C dX12_lexAt_131 (n := 132) rfl rfl ?_
                refine q_isub C dX12_lexAt_132 (n := 133) rfl (v := (u104 + 1) - v1) rfl ?_
                refine q_goto C 137 dX12_lexAt_133 rfl ?_
                exact q_iret C dX12_lexAt_137 ⟨rfl, rfl⟩ (by rw [hPo]; exact ⟨(u104 + 1) - v1, M100, J, rfl, rfl, hI102, hK103, by omega, (Or.inr ⟨hw0, Or.inl ⟨by omega, (by have hk9 : M100 a 34 = 2 := (zup_s e101); omega)⟩⟩)⟩)
            refine q_icmp_ge C 121 dX12_lexAt_100 (n := 103) rfl rfl (by omega) (fun h113 => ?_) (fun h113 => ?_)
            · exact zK.weak (J_111) (zwk_n (zwk_c (zwk_c (zwk_n (zwk_c (zwk_n (zwk_n zwk_e)))))))
            · refine q_aload_n C dX12_lexAt_103 (n := 104) rfl rfl ?_
              refine q_getR C dX12_lexAt_104 (n := 107) rfl f_X12_65 (zM0 h0) (hF _ _ _ (zM55 h0)) ?_
              refine q_iload C dX12_lexAt_107 (n := 109) rfl rfl ?_
              have g114 := zI.at hI ((zM57 h0) u104)
              refine q_bald C dX12_lexAt_109 (n := 110) rfl (zM56 h0) (by omega) (v := M (a + 17) u104) (zup_p e101 (by omega) _) ?_
              refine q_bipush C dX12_lexAt_110 (n := 112) rfl (x := 34) (by decide) ?_
              refine q_icmp_eq C 121 dX12_lexAt_112 (n := 115) rfl rfl (by omega) (fun h115 => ?_) (fun h115 => ?_)
              · exact zK.weak (J_111) (zwk_n (zwk_c (zwk_c (zwk_n (zwk_c (zwk_n (zwk_n zwk_e)))))))
              · refine q_iinc C [.ref (w.2.1 + a), zi v1, zi v2, .null, zi (u104 + 1), .null, .null] dX12_lexAt_115 (n := 118) rfl rfl rfl rfl ?_
                refine q_goto C 97 dX12_lexAt_118 rfl ?_
                exact zK.weak (ih109 (u104 + 1) (by omega) (by omega) (by omega)) (zwk_c (zwk_c (zwk_c (zwk_n (zwk_c (zwk_n (zwk_n zwk_e)))))))
        exact zK.weak (L_107 _ (v1 + 1) (by omega) (by omega) (Int.self_le_toNat _)) (zwk_c (zwk_c (zwk_c (zwk_n (zwk_c (zwk_n (zwk_n zwk_e)))))))
    · exact zK.weak (J_7 (by have := zWd_i (M (a + 17) v1); omega)) (zwk_c (zwk_c (zwk_c (zwk_c (zwk_c (zwk_n (zwk_n zwk_e)))))))
theorem c_X12_lexesPool_e {w : zWp} {T : zTl} {M : zMm} {J : zJm} {R : zRm'} {G : zGt} {F : zRm'} {a : Nat} (hI : zI G M) (hF : zF F R) (h0 : zModel T F G a) (v1 : Int) (v2 : Int) (v3 : Int) (p1 : 0 ≤ v1 ∧ v1 ≤ 440) (p2 : -1 ≤ v2 ∧ v2 ≤ 3) (p3 : -1 ≤ v3 ∧ v3 ≤ 39) : zCt w 3 0 0 yX12_lexesPool cX12_lexesPool 7 (some .boolean) [.ref (w.2.1 + a), zi v1, zi v2, zi v3] (T, M, J, R) (zPi T R G (fun x M2 => (zMd a [9, 10, 11, 12, 13, 14, 15, 16] [23, 24, 25, 26, 27, 28, 29, 34] [(18, 11), (18, 12), (18, 13), (18, 14)] M M2) ∧ (x = 0 ∨ x = 1) ∧ (M2 a 25 = 440) ∧ (M2 a 26 = 3500) ∧ (M2 a 24 = v1) ∧ (M2 a 28 = v2) ∧ (M2 a 29 = v3) ∧ (zLy M2 a 440) ∧ (x = 1 ∧ zTr (M (a + 17)) v1 (M2 a 23) v1 (M2 (a + 9)) (M2 (a + 10)) (M2 (a + 11)) ∨ x = 0 ∧ zTxw (M (a + 17)) v1))) := by
  refine zCt.of rfl (Nat.le_of_ble_eq_true rfl) ?_
  intro p e s m args below meth c C
  obtain ⟨Po, hPo⟩ : ∃ Po, Po = zPi T R G (fun x M2 => (zMd a [9, 10, 11, 12, 13, 14, 15, 16] [23, 24, 25, 26, 27, 28, 29, 34] [(18, 11), (18, 12), (18, 13), (18, 14)] M M2) ∧ (x = 0 ∨ x = 1) ∧ (M2 a 25 = 440) ∧ (M2 a 26 = 3500) ∧ (M2 a 24 = v1) ∧ (M2 a 28 = v2) ∧ (M2 a 29 = v3) ∧ (zLy M2 a 440) ∧ (x = 1 ∧ zTr (M (a + 17)) v1 (M2 a 23) v1 (M2 (a + 9)) (M2 (a + 10)) (M2 (a + 11)) ∨ x = 0 ∧ zTxw (M (a + 17)) v1)) := ⟨_, rfl⟩
  rw [← hPo]
  have hK0 : zMd a [9, 10, 11, 12, 13, 14, 15, 16] [23, 24, 25, 26, 27, 28, 29, 34] [(18, 11), (18, 12), (18, 13), (18, 14)] M M := zMd.rf
  show zK w p e 3 0 0 s m args below meth c 7 T Po 0 [.ref (w.2.1 + a), zi v1, zi v2, zi v3, .null, .null, .null] [] (T, M, J, R)
  refine q_aload_n C dX12_lexesPool_0 (n := 1) rfl rfl ?_
  refine q_iconst C dX12_lexesPool_1 (n := 2) rfl ?_
  refine q_putI C dX12_lexesPool_2 (n := 5) rfl f_X12_355 (zM0 h0) ⟨rfl, rfl⟩ (fun M1 (e2 : M1 = zup M a 23 0) => ?_)
  have hI3 : zI G M1 := hI.put e2 (zM58 h0) rfl (by omega)
  have hK4 := hK0.upS e2 rfl
  refine q_aload_n C dX12_lexesPool_5 (n := 6) rfl rfl ?_
  refine q_iload_n C dX12_lexesPool_6 (n := 7) rfl rfl ?_
  refine q_putI C dX12_lexesPool_7 (n := 10) rfl f_X12_391 (zM0 h0) ⟨rfl, rfl⟩ (fun M5 (e6 : M5 = zup M1 a 24 v1) => ?_)
  have hI7 : zI G M5 := hI3.put e6 (zM59 h0) rfl (by omega)
  have hK8 := hK4.upS e6 rfl
  refine q_aload_n C dX12_lexesPool_10 (n := 11) rfl rfl ?_
  refine q_sipush C dX12_lexesPool_11 (n := 14) rfl (x := 440) (by decide) ?_
  refine q_putI C dX12_lexesPool_14 (n := 17) rfl f_X12_394 (zM0 h0) ⟨rfl, rfl⟩ (fun M9 (e10 : M9 = zup M5 a 25 440) => ?_)
  have hI11 : zI G M9 := hI7.put e10 (zM60 h0) rfl (by omega)
  have hK12 := hK8.upS e10 rfl
  refine q_aload_n C dX12_lexesPool_17 (n := 18) rfl rfl ?_
  refine q_sipush C dX12_lexesPool_18 (n := 21) rfl (x := 3500) (by decide) ?_
  refine q_putI C dX12_lexesPool_21 (n := 24) rfl f_X12_397 (zM0 h0) ⟨rfl, rfl⟩ (fun M13 (e14 : M13 = zup M9 a 26 3500) => ?_)
  have hI15 : zI G M13 := hI11.put e14 (zM61 h0) rfl (by omega)
  have hK16 := hK12.upS e14 rfl
  refine q_aload_n C dX12_lexesPool_24 (n := 25) rfl rfl ?_
  refine q_iload_n C dX12_lexesPool_25 (n := 26) rfl rfl ?_
  refine q_putI C dX12_lexesPool_26 (n := 29) rfl f_X12_385 (zM0 h0) ⟨rfl, rfl⟩ (fun M17 (e18 : M17 = zup M13 a 27 v1) => ?_)
  have hI19 : zI G M17 := hI15.put e18 (zM62 h0) rfl (by omega)
  have hK20 := hK16.upS e18 rfl
  refine q_aload_n C dX12_lexesPool_29 (n := 30) rfl rfl ?_
  refine q_iload_n C dX12_lexesPool_30 (n := 31) rfl rfl ?_
  refine q_putI C dX12_lexesPool_31 (n := 34) rfl f_X12_379 (zM0 h0) ⟨rfl, rfl⟩ (fun M21 (e22 : M21 = zup M17 a 28 v2) => ?_)
  have hI23 : zI G M21 := hI19.put e22 (zM63 h0) rfl (by omega)
  have hK24 := hK20.upS e22 rfl
  refine q_aload_n C dX12_lexesPool_34 (n := 35) rfl rfl ?_
  refine q_iload_n C dX12_lexesPool_35 (n := 36) rfl rfl ?_
  refine q_putI C dX12_lexesPool_36 (n := 39) rfl f_X12_382 (zM0 h0) ⟨rfl, rfl⟩ (fun M25 (e26 : M25 = zup M21 a 29 v3) => ?_)
  have hI27 : zI G M25 := hI23.put e26 (zM64 h0) rfl (by omega)
  have hK28 := hK24.upS e26 rfl
  refine q_iconst C dX12_lexesPool_39 (n := 40) rfl ?_
  refine q_istore C [.ref (w.2.1 + a), zi v1, zi v2, zi v3, zi 0, .null, .null] dX12_lexesPool_40 (n := 42) rfl rfl rfl ?_
  have L_41 : ∀ n42 : Nat, ∀ (u29 : Int) (M31 : zMm) (J32 : zJm), zI G M31 → zMd a [9, 10, 11, 12, 13, 14, 15, 16] [23, 24, 25, 26, 27, 28, 29, 34] [(18, 11), (18, 12), (18, 13), (18, 14)] M M31 → zMd a [9, 10, 11, 12, 13, 14, 15, 16] [23, 34] [] M25 M31 → (-2147483648 ≤ u29 ∧ u29 ≤ 2147483647) → (0 ≤ u29 ∧ u29 ≤ v1) → (M31 a 23 ≤ u29) → (zLy M31 a u29) → (zTr (M (a + 17)) v1 (M31 a 23) u29 (M31 (a + 9)) (M31 (a + 10)) (M31 (a + 11))) → (v1 - u29 + 1 ≤ (n42 : Int)) → zK w p e 3 0 0 s m args below meth c 7 T Po 42 [.ref (w.2.1 + a), zi v1, zi v2, zi v3, zi u29, .null, .null] [] (T, M31, J32, R) := by
    intro n42
    induction n42 with
    | zero =>
      intro u29 M31 J32 hI33 hK34 hK35 h36 h37 h38 h39 h40 hm44
      exfalso
      omega
    | succ n42 ih43 =>
      intro u29 M31 J32 hI33 hK34 hK35 h36 h37 h38 h39 h40 hm44
      refine q_iload C dX12_lexesPool_42 (n := 44) rfl rfl ?_
      refine q_iload_n C dX12_lexesPool_44 (n := 45) rfl rfl ?_
      refine q_icmp_ge C 216 dX12_lexesPool_45 (n := 48) rfl rfl (by omega) (fun h45 => ?_) (fun h45 => ?_)
      · refine q_iconst C dX12_lexesPool_216 (n := 217) rfl ?_
        exact q_zret C dX12_lexesPool_217 ⟨rfl, rfl⟩ (by omega) (by rw [hPo]; exact ⟨1, M31, J32, rfl, rfl, hI33, hK34, by omega, by have hz46 : M31 a 25 = 440 := ((hK35.getS rfl rfl).trans ((zup_n e26 (by omega)).trans ((zup_n e22 (by omega)).trans ((zup_n e18 (by omega)).trans ((zup_n e14 (by omega)).trans (zup_s e10)))))); omega, by have hz47 : M31 a 26 = 3500 := ((hK35.getS rfl rfl).trans ((zup_n e26 (by omega)).trans ((zup_n e22 (by omega)).trans ((zup_n e18 (by omega)).trans (zup_s e14))))); omega, by have hz48 : M31 a 24 = v1 := ((hK35.getS rfl rfl).trans ((zup_n e26 (by omega)).trans ((zup_n e22 (by omega)).trans ((zup_n e18 (by omega)).trans ((zup_n e14 (by omega)).trans ((zup_n e10 (by omega)).trans (zup_s e6))))))); omega, by have hz49 : M31 a 28 = v2 := ((hK35.getS rfl rfl).trans ((zup_n e26 (by omega)).trans (zup_s e22))); omega, by have hz50 : M31 a 29 = v3 := ((hK35.getS rfl rfl).trans (zup_s e26)); omega, (h39.le (by omega)), (Or.inl ⟨rfl, by have t := h40; rw [show (u29 : Int) = v1 by omega] at t; exact t⟩)⟩)
      · refine q_aload_n C dX12_lexesPool_48 (n := 49) rfl rfl ?_
        refine q_getR C dX12_lexesPool_49 (n := 52) rfl f_X12_65 (zM0 h0) (hF _ _ _ (zM55 h0)) ?_
        refine q_iload C dX12_lexesPool_52 (n := 54) rfl rfl ?_
        have g51 := zI.at hI ((zM57 h0) u29)
        refine q_bald C dX12_lexesPool_54 (n := 55) rfl (zM56 h0) (by omega) (v := M (a + 17) u29) ((hK35.getA rfl rfl rfl).trans ((zup_p e26 (by omega) _).trans ((zup_p e22 (by omega) _).trans ((zup_p e18 (by omega) _).trans ((zup_p e14 (by omega) _).trans ((zup_p e10 (by omega) _).trans ((zup_p e6 (by omega) _).trans (zup_p e2 (by omega) _)))))))) ?_
        refine q_bipush C dX12_lexesPool_55 (n := 57) rfl (x := 32) (by decide) ?_
        refine q_icmp_ne C 66 dX12_lexesPool_57 (n := 60) rfl rfl (by omega) (fun h52 => ?_) (fun h52 => ?_)
        · refine q_aload_n C dX12_lexesPool_66 (n := 67) rfl rfl ?_
          refine q_iload C dX12_lexesPool_67 (n := 69) rfl rfl ?_
          refine q_iload_n C dX12_lexesPool_69 (n := 70) rfl rfl ?_
          refine q_callVi C dX12_lexesPool_70 (n := 73) rfl m_X12_400 v_yX12_lexAt (zM0 h0) ⟨by decide, rfl⟩ (c_X12_lexAt_e (w := w) (J := J32) hI33 hF h0 u29 v1 (by omega) (by omega)) (Nat.le_of_ble_eq_true rfl) rfl rfl (Nat.le_of_ble_eq_true rfl) ⟨Nat.le_refl _, Nat.le_refl _⟩ (fun x59 M55 J56  hI57 h58 => ?_)
          obtain ⟨hk60, h53, h54⟩ := h58
          have hK61 := hK34.tr hk60 rfl rfl rfl
          have hK62 := hK35.tr hk60 rfl rfl rfl
          refine q_istore C [.ref (w.2.1 + a), zi v1, zi v2, zi v3, zi u29, zi x59, .null] dX12_lexesPool_73 (n := 75) rfl rfl rfl ?_
          refine q_iload C dX12_lexesPool_75 (n := 77) rfl rfl ?_
          refine q_if_eq C 87 dX12_lexesPool_77 (n := 80) rfl rfl (by omega) (fun h63 => ?_) (fun h63 => ?_)
          · refine q_aload_n C dX12_lexesPool_87 (n := 88) rfl rfl ?_
            refine q_iconst C dX12_lexesPool_88 (n := 89) rfl ?_
            refine q_iload_n C dX12_lexesPool_89 (n := 90) rfl rfl ?_
            refine q_iload_n C dX12_lexesPool_90 (n := 91) rfl rfl ?_
            refine q_iload C dX12_lexesPool_91 (n := 93) rfl rfl ?_
            refine q_callVi C dX12_lexesPool_93 (n := 96) rfl m_X12_373 v_yX12_bad (zM0 h0) ⟨by decide, rfl⟩ (c_X12_bad (w := w) (J := J56) hI57 hF h0 1 v2 v3 u29 (by omega) (by omega) (by omega) (by omega)) (Nat.le_of_ble_eq_true rfl) rfl rfl (Nat.le_of_ble_eq_true rfl) ⟨Nat.le_refl _, Nat.le_refl _⟩ (fun x70 M66 J67  hI68 h69 => ?_)
            obtain ⟨hk71, h64, h65⟩ := h69
            have hK72 := hK61.tr hk71 rfl rfl rfl
            have hp78 : zLy M66 a u29 := h39.cg (fun j => ((hk71.getA rfl rfl rfl).trans (hk60.getA rfl rfl rfl))) (fun j => ((hk71.getA rfl rfl rfl).trans (hk60.getA rfl rfl rfl))) ((hk71.getS rfl rfl).trans (hk60.getS rfl rfl))
            exact q_zret C dX12_lexesPool_96 ⟨rfl, rfl⟩ (by omega) (by rw [hPo]; exact ⟨x70, M66, J67, rfl, rfl, hI68, hK72, by omega, by have hz73 : M66 a 25 = 440 := ((hk71.getS rfl rfl).trans ((hk60.getS rfl rfl).trans ((hK35.getS rfl rfl).trans ((zup_n e26 (by omega)).trans ((zup_n e22 (by omega)).trans ((zup_n e18 (by omega)).trans ((zup_n e14 (by omega)).trans (zup_s e10)))))))); omega, by have hz74 : M66 a 26 = 3500 := ((hk71.getS rfl rfl).trans ((hk60.getS rfl rfl).trans ((hK35.getS rfl rfl).trans ((zup_n e26 (by omega)).trans ((zup_n e22 (by omega)).trans ((zup_n e18 (by omega)).trans (zup_s e14))))))); omega, by have hz75 : M66 a 24 = v1 := ((hk71.getS rfl rfl).trans ((hk60.getS rfl rfl).trans ((hK35.getS rfl rfl).trans ((zup_n e26 (by omega)).trans ((zup_n e22 (by omega)).trans ((zup_n e18 (by omega)).trans ((zup_n e14 (by omega)).trans ((zup_n e10 (by omega)).trans (zup_s e6))))))))); omega, by have hz76 : M66 a 28 = v2 := ((hk71.getS rfl rfl).trans ((hk60.getS rfl rfl).trans ((hK35.getS rfl rfl).trans ((zup_n e26 (by omega)).trans (zup_s e22))))); omega, by have hz77 : M66 a 29 = v3 := ((hk71.getS rfl rfl).trans ((hk60.getS rfl rfl).trans ((hK35.getS rfl rfl).trans (zup_s e26)))); omega, (hp78.le (by omega)), (Or.inr ⟨by omega, _, _, _, _, _, _, _, h40, by omega, by omega, (by have hx9 := h54; rw [show M31 (a + 17) = M (a + 17) from funext (fun j => ((hK35.getA rfl rfl rfl).trans ((zup_p e26 (by omega) _).trans ((zup_p e22 (by omega) _).trans ((zup_p e18 (by omega) _).trans ((zup_p e14 (by omega) _).trans ((zup_p e10 (by omega) _).trans ((zup_p e6 (by omega) _).trans (zup_p e2 (by omega) _)))))))))] at hx9; exact hx9), by omega⟩)⟩)
          · refine q_iload C dX12_lexesPool_80 (n := 82) rfl rfl ?_
            refine q_bipush C dX12_lexesPool_82 (n := 84) rfl (x := 30) (by decide) ?_
            refine q_icmp_le C 97 dX12_lexesPool_84 (n := 87) rfl rfl (by omega) (fun h79 => ?_) (fun h79 => ?_)
            · refine q_aload_n C dX12_lexesPool_97 (n := 98) rfl rfl ?_
              have g80 := zI.at hI33 (zM58 h0)
              refine q_getI C dX12_lexesPool_98 (n := 101) rfl f_X12_355 (zM0 h0) (v := M31 a 23) (hk60.getS rfl rfl) ?_
              refine q_istore C [.ref (w.2.1 + a), zi v1, zi v2, zi v3, zi u29, zi x59, zi (M31 a 23)] dX12_lexesPool_101 (n := 103) rfl rfl rfl ?_
              refine q_aload_n C dX12_lexesPool_103 (n := 104) rfl rfl ?_
              refine q_getR C dX12_lexesPool_104 (n := 107) rfl f_X12_40 (zM0 h0) (hF _ _ _ (zM31 h0)) ?_
              refine q_iload C dX12_lexesPool_107 (n := 109) rfl rfl ?_
              refine q_aload_n C dX12_lexesPool_109 (n := 110) rfl rfl ?_
              have g81 := zI.at hI57 (zM77 h0)
              refine q_getI C dX12_lexesPool_110 (n := 113) rfl f_X12_388 (zM0 h0) (v := M55 a 34) rfl ?_
              refine q_iast C dX12_lexesPool_113 (n := 114) rfl (zM32 h0) (by omega)  (fun M82 e83 => ?_)
              have hI84 : zI G M82 := hI57.put e83 ((zM33 h0) (M31 a 23)) rfl (by omega)
              have hK85 := hK61.upA e83 rfl
              have hK86 := hK62.upA e83 rfl
              refine q_aload_n C dX12_lexesPool_114 (n := 115) rfl rfl ?_
              refine q_getR C dX12_lexesPool_115 (n := 118) rfl f_X12_43 (zM0 h0) (hF _ _ _ (zM34 h0)) ?_
              refine q_iload C dX12_lexesPool_118 (n := 120) rfl rfl ?_
              refine q_iload C dX12_lexesPool_120 (n := 122) rfl rfl ?_
              refine q_iast C dX12_lexesPool_122 (n := 123) rfl (zM35 h0) (by omega)  (fun M87 e88 => ?_)
              have hI89 : zI G M87 := hI84.put e88 ((zM36 h0) (M31 a 23)) rfl (by omega)
              have hK90 := hK85.upA e88 rfl
              have hK91 := hK86.upA e88 rfl
              refine q_aload_n C dX12_lexesPool_123 (n := 124) rfl rfl ?_
              refine q_getR C dX12_lexesPool_124 (n := 127) rfl f_X12_46 (zM0 h0) (hF _ _ _ (zM37 h0)) ?_
              refine q_iload C dX12_lexesPool_127 (n := 129) rfl rfl ?_
              refine q_iload C dX12_lexesPool_129 (n := 131) rfl rfl ?_
              refine q_iast C dX12_lexesPool_131 (n := 132) rfl (zM38 h0) (by omega)  (fun M92 e93 => ?_)
              have hI94 : zI G M92 := hI89.put e93 ((zM39 h0) (M31 a 23)) rfl (by omega)
              have hK95 := hK90.upA e93 rfl
              have hK96 := hK91.upA e93 rfl
              refine q_aload_n C dX12_lexesPool_132 (n := 133) rfl rfl ?_
              refine q_getR C dX12_lexesPool_133 (n := 136) rfl f_X12_49 (zM0 h0) (hF _ _ _ (zM40 h0)) ?_
              refine q_iload C dX12_lexesPool_136 (n := 138) rfl rfl ?_
              refine q_iload_n C dX12_lexesPool_138 (n := 139) rfl rfl ?_
              refine q_iast C dX12_lexesPool_139 (n := 140) rfl (zM41 h0) (by omega)  (fun M97 e98 => ?_)
              have hI99 : zI G M97 := hI94.put e98 ((zM42 h0) (M31 a 23)) rfl (by omega)
              have hK100 := hK95.upA e98 rfl
              have hK101 := hK96.upA e98 rfl
              refine q_aload_n C dX12_lexesPool_140 (n := 141) rfl rfl ?_
              refine q_getR C dX12_lexesPool_141 (n := 144) rfl f_X12_52 (zM0 h0) (hF _ _ _ (zM43 h0)) ?_
              refine q_iload C dX12_lexesPool_144 (n := 146) rfl rfl ?_
              refine q_iload_n C dX12_lexesPool_146 (n := 147) rfl rfl ?_
              refine q_iast C dX12_lexesPool_147 (n := 148) rfl (zM44 h0) (by omega)  (fun M102 e103 => ?_)
              have hI104 : zI G M102 := hI99.put e103 ((zM45 h0) (M31 a 23)) rfl (by omega)
              have hK105 := hK100.upA e103 rfl
              have hK106 := hK101.upA e103 rfl
              refine q_aload_n C dX12_lexesPool_148 (n := 149) rfl rfl ?_
              refine q_getR C dX12_lexesPool_149 (n := 152) rfl f_X12_55 (zM0 h0) (hF _ _ _ (zM46 h0)) ?_
              refine q_iload C dX12_lexesPool_152 (n := 154) rfl rfl ?_
              refine q_iload C dX12_lexesPool_154 (n := 156) rfl rfl ?_
              refine q_iast C dX12_lexesPool_156 (n := 157) rfl (zM47 h0) (by omega)  (fun M107 e108 => ?_)
              have hI109 : zI G M107 := hI104.put e108 ((zM48 h0) (M31 a 23)) rfl (by omega)
              have hK110 := hK105.upA e108 rfl
              have hK111 := hK106.upA e108 rfl
              refine q_aload_n C dX12_lexesPool_157 (n := 158) rfl rfl ?_
              refine q_getR C dX12_lexesPool_158 (n := 161) rfl f_X12_58 (zM0 h0) (hF _ _ _ (zM49 h0)) ?_
              refine q_iload C dX12_lexesPool_161 (n := 163) rfl rfl ?_
              refine q_iconst C dX12_lexesPool_163 (n := 164) rfl ?_
              refine q_iast C dX12_lexesPool_164 (n := 165) rfl (zM50 h0) (by omega)  (fun M112 e113 => ?_)
              have hI114 : zI G M112 := hI109.put e113 ((zM51 h0) (M31 a 23)) rfl (by omega)
              have hK115 := hK110.upA e113 rfl
              have hK116 := hK111.upA e113 rfl
              refine q_aload_n C dX12_lexesPool_165 (n := 166) rfl rfl ?_
              refine q_getR C dX12_lexesPool_166 (n := 169) rfl f_X12_61 (zM0 h0) (hF _ _ _ (zM52 h0)) ?_
              refine q_iload C dX12_lexesPool_169 (n := 171) rfl rfl ?_
              refine q_iload C dX12_lexesPool_171 (n := 173) rfl rfl ?_
              have J_120 : ∀ (u117 : Int), (-2147483648 ≤ u117 ∧ u117 ≤ 2147483647) → (u117 = 0 ∨ u117 = 1) → zK w p e 3 0 0 s m args below meth c 7 T Po 195 [.ref (w.2.1 + a), zi v1, zi v2, zi v3, zi u29, zi x59, .null] [zi u117, zi (M31 a 23), .ref (w.2.1 + (a + 16))] (T, M112, J56, R) := by
                intro u117 h118 h119
                refine q_iast C dX12_lexesPool_195 (n := 196) rfl (zM53 h0) (by omega)  (fun M121 e122 => ?_)
                have hI123 : zI G M121 := hI114.put e122 ((zM54 h0) (M31 a 23)) rfl (by omega)
                have hK124 := hK115.upA e122 rfl
                have hK125 := hK116.upA e122 rfl
                refine q_aload_n C dX12_lexesPool_196 (n := 197) rfl rfl ?_
                refine q_dup C dX12_lexesPool_197 (n := 198) rfl rfl ?_
                refine q_getI C dX12_lexesPool_198 (n := 201) rfl f_X12_355 (zM0 h0) (v := M31 a 23) ((zup_p e122 (by omega) _).trans ((zup_p e113 (by omega) _).trans ((zup_p e108 (by omega) _).trans ((zup_p e103 (by omega) _).trans ((zup_p e98 (by omega) _).trans ((zup_p e93 (by omega) _).trans ((zup_p e88 (by omega) _).trans ((zup_p e83 (by omega) _).trans (hk60.getS rfl rfl))))))))) ?_
                refine q_iconst C dX12_lexesPool_201 (n := 202) rfl ?_
                refine q_iadd C dX12_lexesPool_202 (n := 203) rfl (v := (M31 a 23) + 1) rfl ?_
                refine q_putI C dX12_lexesPool_203 (n := 206) rfl f_X12_355 (zM0 h0) ⟨rfl, rfl⟩ (fun M126 (e127 : M126 = zup M121 a 23 ((M31 a 23) + 1)) => ?_)
                have hI128 : zI G M126 := hI123.put e127 (zM58 h0) rfl (by omega)
                have hK129 := hK124.upS e127 rfl
                have hK130 := hK125.upS e127 rfl
                have hp131 : zLy M126 a (u29 + x59) := h39.add (n := (M31 a 23)) (by omega) (by omega) (by omega) (by omega) (zup_s e127) (fun j hj => ((zup_p e127 (by omega) _).trans ((zup_p e122 (by omega) _).trans ((zup_p e113 (by omega) _).trans ((zup_p e108 (by omega) _).trans ((zup_p e103 (by omega) _).trans ((zup_p e98 (by omega) _).trans ((zup_p e93 (by omega) _).trans ((zup_n e88 (by omega)).trans ((zup_p e83 (by omega) _).trans (hk60.getA rfl rfl rfl))))))))))) (fun j hj => ((zup_p e127 (by omega) _).trans ((zup_p e122 (by omega) _).trans ((zup_p e113 (by omega) _).trans ((zup_p e108 (by omega) _).trans ((zup_p e103 (by omega) _).trans ((zup_p e98 (by omega) _).trans ((zup_n e93 (by omega)).trans ((zup_p e88 (by omega) _).trans ((zup_p e83 (by omega) _).trans (hk60.getA rfl rfl rfl))))))))))) ((zup_p e127 (by omega) _).trans ((zup_p e122 (by omega) _).trans ((zup_p e113 (by omega) _).trans ((zup_p e108 (by omega) _).trans ((zup_p e103 (by omega) _).trans ((zup_p e98 (by omega) _).trans ((zup_p e93 (by omega) _).trans (zup_s e88)))))))) ((zup_p e127 (by omega) _).trans ((zup_p e122 (by omega) _).trans ((zup_p e113 (by omega) _).trans ((zup_p e108 (by omega) _).trans ((zup_p e103 (by omega) _).trans ((zup_p e98 (by omega) _).trans (zup_s e93)))))))
                have hx9 := h54
                rw [show M31 (a + 17) = M (a + 17) from funext (fun j => ((hK35.getA rfl rfl rfl).trans ((zup_p e26 (by omega) _).trans ((zup_p e22 (by omega) _).trans ((zup_p e18 (by omega) _).trans ((zup_p e14 (by omega) _).trans ((zup_p e10 (by omega) _).trans ((zup_p e6 (by omega) _).trans (zup_p e2 (by omega) _)))))))))] at hx9
                have htr9 := zTr.add h40 (by omega) (by omega) hx9 (by omega) (fun j hj => ((zup_p e127 (by omega) _).trans ((zup_p e122 (by omega) _).trans ((zup_p e113 (by omega) _).trans ((zup_p e108 (by omega) _).trans ((zup_p e103 (by omega) _).trans ((zup_p e98 (by omega) _).trans ((zup_p e93 (by omega) _).trans ((zup_p e88 (by omega) _).trans ((zup_n e83 (by omega)).trans (hk60.getA rfl rfl rfl))))))))))) (fun j hj => ((zup_p e127 (by omega) _).trans ((zup_p e122 (by omega) _).trans ((zup_p e113 (by omega) _).trans ((zup_p e108 (by omega) _).trans ((zup_p e103 (by omega) _).trans ((zup_p e98 (by omega) _).trans ((zup_p e93 (by omega) _).trans ((zup_n e88 (by omega)).trans ((zup_p e83 (by omega) _).trans (hk60.getA rfl rfl rfl))))))))))) (fun j hj => ((zup_p e127 (by omega) _).trans ((zup_p e122 (by omega) _).trans ((zup_p e113 (by omega) _).trans ((zup_p e108 (by omega) _).trans ((zup_p e103 (by omega) _).trans ((zup_p e98 (by omega) _).trans ((zup_n e93 (by omega)).trans ((zup_p e88 (by omega) _).trans ((zup_p e83 (by omega) _).trans (hk60.getA rfl rfl rfl))))))))))) ((zup_p e127 (by omega) _).trans ((zup_p e122 (by omega) _).trans ((zup_p e113 (by omega) _).trans ((zup_p e108 (by omega) _).trans ((zup_p e103 (by omega) _).trans ((zup_p e98 (by omega) _).trans ((zup_p e93 (by omega) _).trans ((zup_p e88 (by omega) _).trans (zup_s e83))))))))) ((zup_p e127 (by omega) _).trans ((zup_p e122 (by omega) _).trans ((zup_p e113 (by omega) _).trans ((zup_p e108 (by omega) _).trans ((zup_p e103 (by omega) _).trans ((zup_p e98 (by omega) _).trans ((zup_p e93 (by omega) _).trans (zup_s e88)))))))) ((zup_p e127 (by omega) _).trans ((zup_p e122 (by omega) _).trans ((zup_p e113 (by omega) _).trans ((zup_p e108 (by omega) _).trans ((zup_p e103 (by omega) _).trans ((zup_p e98 (by omega) _).trans (zup_s e93))))))) (by have hz : M126 a 23 = (M31 a 23) + 1 := (zup_s e127); omega) (i2 := u29 + x59) rfl
                refine q_iload C dX12_lexesPool_206 (n := 208) rfl rfl ?_
                refine q_iload C dX12_lexesPool_208 (n := 210) rfl rfl ?_
                refine q_iadd C dX12_lexesPool_210 (n := 211) rfl (v := u29 + x59) rfl ?_
                refine q_istore C [.ref (w.2.1 + a), zi v1, zi v2, zi v3, zi (u29 + x59), zi x59, .null] dX12_lexesPool_211 (n := 213) rfl rfl rfl ?_
                refine q_goto C 42 dX12_lexesPool_213 rfl ?_
                exact zK.weak (ih43 (u29 + x59) M126 J56 hI128 hK129 hK130 (by omega) (by omega) (by have hz132 : M126 a 23 = (M31 a 23) + 1 := (zup_s e127); omega) (hp131.le (by omega)) htr9 (by omega)) (zwk_c (zwk_c (zwk_c (zwk_c (zwk_c (zwk_n (zwk_n zwk_e)))))))
              have J_133 : zK w p e 3 0 0 s m args below meth c 7 T Po 194 [.ref (w.2.1 + a), zi v1, zi v2, zi v3, zi u29, zi x59, .null] [zi (M31 a 23), .ref (w.2.1 + (a + 16))] (T, M112, J56, R) := by
                refine q_iconst C dX12_lexesPool_194 (n := 195) rfl ?_
                exact zK.weak (J_120 0 (by omega) (by omega)) (zwk_c (zwk_c (zwk_c (zwk_c (zwk_c (zwk_c (zwk_n zwk_e)))))))
              refine q_if_le C 194 dX12_lexesPool_173 (n := 176) rfl rfl (by omega) (fun h134 => ?_) (fun h134 => ?_)
              · exact zK.weak (J_133) (zwk_c (zwk_c (zwk_c (zwk_c (zwk_c (zwk_c (zwk_n zwk_e)))))))
              · refine q_aload_n C dX12_lexesPool_176 (n := 177) rfl rfl ?_
                refine q_getR C dX12_lexesPool_177 (n := 180) rfl f_X12_65 (zM0 h0) (hF _ _ _ (zM55 h0)) ?_
                refine q_iload C dX12_lexesPool_180 (n := 182) rfl rfl ?_
                refine q_iconst C dX12_lexesPool_182 (n := 183) rfl ?_
                refine q_isub C dX12_lexesPool_183 (n := 184) rfl (v := u29 - 1) rfl ?_
                have g135 := zI.at hI ((zM57 h0) (u29 - 1))
                refine q_bald C dX12_lexesPool_184 (n := 185) rfl (zM56 h0) (by omega) (v := M (a + 17) (u29 - 1)) ((zup_p e113 (by omega) _).trans ((zup_p e108 (by omega) _).trans ((zup_p e103 (by omega) _).trans ((zup_p e98 (by omega) _).trans ((zup_p e93 (by omega) _).trans ((zup_p e88 (by omega) _).trans ((zup_p e83 (by omega) _).trans ((hk60.getA rfl rfl rfl).trans ((hK35.getA rfl rfl rfl).trans ((zup_p e26 (by omega) _).trans ((zup_p e22 (by omega) _).trans ((zup_p e18 (by omega) _).trans ((zup_p e14 (by omega) _).trans ((zup_p e10 (by omega) _).trans ((zup_p e6 (by omega) _).trans (zup_p e2 (by omega) _)))))))))))))))) ?_
                refine q_bipush C dX12_lexesPool_185 (n := 187) rfl (x := 32) (by decide) ?_
                refine q_icmp_ne C 194 dX12_lexesPool_187 (n := 190) rfl rfl (by omega) (fun h136 => ?_) (fun h136 => ?_)
                · exact zK.weak (J_133) (zwk_c (zwk_c (zwk_c (zwk_c (zwk_c (zwk_c (zwk_n zwk_e)))))))
                · refine q_iconst C dX12_lexesPool_190 (n := 191) rfl ?_
                  refine q_goto C 195 dX12_lexesPool_191 rfl ?_
                  exact zK.weak (J_120 1 (by omega) (by omega)) (zwk_c (zwk_c (zwk_c (zwk_c (zwk_c (zwk_c (zwk_n zwk_e)))))))
            · refine q_aload_n C dX12_lexesPool_87 (n := 88) rfl rfl ?_
              refine q_iconst C dX12_lexesPool_88 (n := 89) rfl ?_
              refine q_iload_n C dX12_lexesPool_89 (n := 90) rfl rfl ?_
              refine q_iload_n C dX12_lexesPool_90 (n := 91) rfl rfl ?_
              refine q_iload C dX12_lexesPool_91 (n := 93) rfl rfl ?_
              refine q_callVi C dX12_lexesPool_93 (n := 96) rfl m_X12_373 v_yX12_bad (zM0 h0) ⟨by decide, rfl⟩ (c_X12_bad (w := w) (J := J56) hI57 hF h0 1 v2 v3 u29 (by omega) (by omega) (by omega) (by omega)) (Nat.le_of_ble_eq_true rfl) rfl rfl (Nat.le_of_ble_eq_true rfl) ⟨Nat.le_refl _, Nat.le_refl _⟩ (fun x143 M139 J140  hI141 h142 => ?_)
              obtain ⟨hk144, h137, h138⟩ := h142
              have hK145 := hK61.tr hk144 rfl rfl rfl
              have hp151 : zLy M139 a u29 := h39.cg (fun j => ((hk144.getA rfl rfl rfl).trans (hk60.getA rfl rfl rfl))) (fun j => ((hk144.getA rfl rfl rfl).trans (hk60.getA rfl rfl rfl))) ((hk144.getS rfl rfl).trans (hk60.getS rfl rfl))
              exact q_zret C dX12_lexesPool_96 ⟨rfl, rfl⟩ (by omega) (by rw [hPo]; exact ⟨x143, M139, J140, rfl, rfl, hI141, hK145, by omega, by have hz146 : M139 a 25 = 440 := ((hk144.getS rfl rfl).trans ((hk60.getS rfl rfl).trans ((hK35.getS rfl rfl).trans ((zup_n e26 (by omega)).trans ((zup_n e22 (by omega)).trans ((zup_n e18 (by omega)).trans ((zup_n e14 (by omega)).trans (zup_s e10)))))))); omega, by have hz147 : M139 a 26 = 3500 := ((hk144.getS rfl rfl).trans ((hk60.getS rfl rfl).trans ((hK35.getS rfl rfl).trans ((zup_n e26 (by omega)).trans ((zup_n e22 (by omega)).trans ((zup_n e18 (by omega)).trans (zup_s e14))))))); omega, by have hz148 : M139 a 24 = v1 := ((hk144.getS rfl rfl).trans ((hk60.getS rfl rfl).trans ((hK35.getS rfl rfl).trans ((zup_n e26 (by omega)).trans ((zup_n e22 (by omega)).trans ((zup_n e18 (by omega)).trans ((zup_n e14 (by omega)).trans ((zup_n e10 (by omega)).trans (zup_s e6))))))))); omega, by have hz149 : M139 a 28 = v2 := ((hk144.getS rfl rfl).trans ((hk60.getS rfl rfl).trans ((hK35.getS rfl rfl).trans ((zup_n e26 (by omega)).trans (zup_s e22))))); omega, by have hz150 : M139 a 29 = v3 := ((hk144.getS rfl rfl).trans ((hk60.getS rfl rfl).trans ((hK35.getS rfl rfl).trans (zup_s e26)))); omega, (hp151.le (by omega)), (Or.inr ⟨by omega, _, _, _, _, _, _, _, h40, by omega, by omega, (by have hx9 := h54; rw [show M31 (a + 17) = M (a + 17) from funext (fun j => ((hK35.getA rfl rfl rfl).trans ((zup_p e26 (by omega) _).trans ((zup_p e22 (by omega) _).trans ((zup_p e18 (by omega) _).trans ((zup_p e14 (by omega) _).trans ((zup_p e10 (by omega) _).trans ((zup_p e6 (by omega) _).trans (zup_p e2 (by omega) _)))))))))] at hx9; exact hx9), by omega⟩)⟩)
        · refine q_iinc C [.ref (w.2.1 + a), zi v1, zi v2, zi v3, zi (u29 + 1), .null, .null] dX12_lexesPool_60 (n := 63) rfl rfl rfl rfl ?_
          refine q_goto C 42 dX12_lexesPool_63 rfl ?_
          exact zK.weak (ih43 (u29 + 1) M31 J32 hI33 hK34 hK35 (by omega) (by omega) (by omega) (h39.le (by omega)) (zTr.blank h40 (by omega) (by omega)) (by omega)) (zwk_c (zwk_c (zwk_c (zwk_c (zwk_c (zwk_n (zwk_n zwk_e)))))))
  exact zK.weak (L_41 _ 0 M25 J hI27 hK28 (zMd.rf : zMd a [9, 10, 11, 12, 13, 14, 15, 16] [23, 34] [] M25 M25) (by omega) (by omega) (by have hz152 : M25 a 23 = 0 := ((zup_n e26 (by omega)).trans ((zup_n e22 (by omega)).trans ((zup_n e18 (by omega)).trans ((zup_n e14 (by omega)).trans ((zup_n e10 (by omega)).trans ((zup_n e6 (by omega)).trans (zup_s e2))))))); omega) (by unfold zLy; rw [((zup_n e26 (by omega)).trans ((zup_n e22 (by omega)).trans ((zup_n e18 (by omega)).trans ((zup_n e14 (by omega)).trans ((zup_n e10 (by omega)).trans ((zup_n e6 (by omega)).trans (zup_s e2)))))))]; exact zLt.zero) (zTr.nil (by omega) ((zup_n e26 (by omega)).trans ((zup_n e22 (by omega)).trans ((zup_n e18 (by omega)).trans ((zup_n e14 (by omega)).trans ((zup_n e10 (by omega)).trans ((zup_n e6 (by omega)).trans (zup_s e2))))))) rfl) (Int.self_le_toNat _)) (zwk_c (zwk_c (zwk_c (zwk_c (zwk_c (zwk_n (zwk_n zwk_e)))))))
theorem c_X12_lexes_e {w : zWp} {T : zTl} {M : zMm} {J : zJm} {R : zRm'} {G : zGt} {F : zRm'} {a : Nat} (hI : zI G M) (hF : zF F R) (h0 : zModel T F G a) (v1 : Int) (v2 : Int) (p1 : zFi M a) (p2 : 0 ≤ v1 ∧ v1 ≤ 3) (p3 : 0 ≤ v2 ∧ v2 < M (a + 2) (4 + v1) ∧ v2 ≤ 39) : zCt w 4 0 0 yX12_lexes cX12_lexes 6 (some .boolean) [.ref (w.2.1 + a), zi v1, zi v2] (T, M, J, R) (zPi T R G (fun x M2 => (zMd a [9, 10, 11, 12, 13, 14, 15, 16, 17] [23, 24, 25, 26, 27, 28, 29, 34] [(18, 11), (18, 12), (18, 13), (18, 14)] M M2) ∧ (x = 0 ∨ x = 1) ∧ (M2 a 25 = 440) ∧ (M2 a 26 = 3500) ∧ (0 ≤ M2 a 24 ∧ M2 a 24 ≤ 440) ∧ (M2 a 28 = v1) ∧ (M2 a 29 = v2) ∧ (zLy M2 a 440) ∧ (x = 1 ∧ zTr (zLb (M (a + 4)) (400 * v1 + zSum (M (a + 2)) (8 + 40 * v1) (v2).toNat) (M (a + 2) (8 + 40 * v1 + v2))) (M (a + 2) (8 + 40 * v1 + v2)) (M2 a 23) (M (a + 2) (8 + 40 * v1 + v2)) (M2 (a + 9)) (M2 (a + 10)) (M2 (a + 11)) ∨ x = 0 ∧ zTxw (zLb (M (a + 4)) (400 * v1 + zSum (M (a + 2)) (8 + 40 * v1) (v2).toNat) (M (a + 2) (8 + 40 * v1 + v2))) (M (a + 2) (8 + 40 * v1 + v2))) ∧ (∀ q, 0 ≤ q → q < M (a + 2) (8 + 40 * v1 + v2) → M2 (a + 17) q = (zLb (M (a + 4)) (400 * v1 + zSum (M (a + 2)) (8 + 40 * v1) (v2).toNat) (M (a + 2) (8 + 40 * v1 + v2))) q))) := by
  refine zCt.of rfl (Nat.le_of_ble_eq_true rfl) ?_
  intro p e s m args below meth c C
  obtain ⟨Po, hPo⟩ : ∃ Po, Po = zPi T R G (fun x M2 => (zMd a [9, 10, 11, 12, 13, 14, 15, 16, 17] [23, 24, 25, 26, 27, 28, 29, 34] [(18, 11), (18, 12), (18, 13), (18, 14)] M M2) ∧ (x = 0 ∨ x = 1) ∧ (M2 a 25 = 440) ∧ (M2 a 26 = 3500) ∧ (0 ≤ M2 a 24 ∧ M2 a 24 ≤ 440) ∧ (M2 a 28 = v1) ∧ (M2 a 29 = v2) ∧ (zLy M2 a 440) ∧ (x = 1 ∧ zTr (zLb (M (a + 4)) (400 * v1 + zSum (M (a + 2)) (8 + 40 * v1) (v2).toNat) (M (a + 2) (8 + 40 * v1 + v2))) (M (a + 2) (8 + 40 * v1 + v2)) (M2 a 23) (M (a + 2) (8 + 40 * v1 + v2)) (M2 (a + 9)) (M2 (a + 10)) (M2 (a + 11)) ∨ x = 0 ∧ zTxw (zLb (M (a + 4)) (400 * v1 + zSum (M (a + 2)) (8 + 40 * v1) (v2).toNat) (M (a + 2) (8 + 40 * v1 + v2))) (M (a + 2) (8 + 40 * v1 + v2))) ∧ (∀ q, 0 ≤ q → q < M (a + 2) (8 + 40 * v1 + v2) → M2 (a + 17) q = (zLb (M (a + 4)) (400 * v1 + zSum (M (a + 2)) (8 + 40 * v1) (v2).toNat) (M (a + 2) (8 + 40 * v1 + v2))) q)) := ⟨_, rfl⟩
  rw [← hPo]
  have hK0 : zMd a [9, 10, 11, 12, 13, 14, 15, 16, 17] [23, 24, 25, 26, 27, 28, 29, 34] [(18, 11), (18, 12), (18, 13), (18, 14)] M M := zMd.rf
  show zK w p e 4 0 0 s m args below meth c 6 T Po 0 [.ref (w.2.1 + a), zi v1, zi v2, .null, .null, .null] [] (T, M, J, R)
  refine q_aload_n C dX12_lexes_0 (n := 1) rfl rfl ?_
  refine q_iload_n C dX12_lexes_1 (n := 2) rfl rfl ?_
  refine q_iload_n C dX12_lexes_2 (n := 3) rfl rfl ?_
  refine q_callVp C dX12_lexes_3 (n := 6) rfl m_X12_321 v_yX12_beginOf (zM0 h0) ⟨by decide, rfl⟩ (c_X12_beginOf (w := w) (J := J) hI hF h0 v1 v2 p1 (by omega) (by omega)) (Nat.le_of_ble_eq_true rfl) rfl rfl (Nat.le_of_ble_eq_true rfl) ⟨Nat.le_refl _, Nat.le_refl _⟩ (fun x4 h5 => ?_)
  obtain ⟨h1, h2, h3⟩ := h5
  refine q_istore_n C [.ref (w.2.1 + a), zi v1, zi v2, zi x4, .null, .null] dX12_lexes_6 (n := 7) rfl rfl rfl ?_
  refine q_aload_n C dX12_lexes_7 (n := 8) rfl rfl ?_
  refine q_iload_n C dX12_lexes_8 (n := 9) rfl rfl ?_
  refine q_iload_n C dX12_lexes_9 (n := 10) rfl rfl ?_
  refine q_callVp C dX12_lexes_10 (n := 13) rfl m_X12_289 v_yX12_lengthOf (zM0 h0) ⟨by decide, rfl⟩ (c_X12_lengthOf (w := w) (J := J) hI hF h0 v1 v2 (by omega) (by omega)) (Nat.le_of_ble_eq_true rfl) rfl rfl (Nat.le_of_ble_eq_true rfl) ⟨Nat.le_refl _, Nat.le_refl _⟩ (fun x8 h9 => ?_)
  obtain ⟨h6, h7⟩ := h9
  refine q_istore C [.ref (w.2.1 + a), zi v1, zi v2, zi x4, zi x8, .null] dX12_lexes_13 (n := 15) rfl rfl rfl ?_
  refine q_iconst C dX12_lexes_15 (n := 16) rfl ?_
  refine q_istore C [.ref (w.2.1 + a), zi v1, zi v2, zi x4, zi x8, zi 0] dX12_lexes_16 (n := 18) rfl rfl rfl ?_
  have L_20 : ∀ n21 : Nat, ∀ (u10 : Int) (M12 : zMm) (J13 : zJm), zI G M12 → zMd a [9, 10, 11, 12, 13, 14, 15, 16, 17] [23, 24, 25, 26, 27, 28, 29, 34] [(18, 11), (18, 12), (18, 13), (18, 14)] M M12 → zMd a [17] [] [] M M12 → (-2147483648 ≤ u10 ∧ u10 ≤ 2147483647) → (0 ≤ u10 ∧ u10 ≤ x8) → (∀ j, 0 ≤ j → j < u10 → M12 (a + 17) j = M (a + 4) (x4 + j)) → (x8 - u10 + 1 ≤ (n21 : Int)) → zK w p e 4 0 0 s m args below meth c 6 T Po 18 [.ref (w.2.1 + a), zi v1, zi v2, zi x4, zi x8, zi u10] [] (T, M12, J13, R) := by
    intro n21
    induction n21 with
    | zero =>
      intro u10 M12 J13 hI14 hK15 hK16 h17 h18 h19 hm23
      exfalso
      omega
    | succ n21 ih22 =>
      intro u10 M12 J13 hI14 hK15 hK16 h17 h18 h19 hm23
      refine q_iload C dX12_lexes_18 (n := 20) rfl rfl ?_
      refine q_iload C dX12_lexes_20 (n := 22) rfl rfl ?_
      refine q_icmp_ge C 47 dX12_lexes_22 (n := 25) rfl rfl (by omega) (fun h24 => ?_) (fun h24 => ?_)
      · refine q_aload_n C dX12_lexes_47 (n := 48) rfl rfl ?_
        refine q_iload C dX12_lexes_48 (n := 50) rfl rfl ?_
        refine q_iload_n C dX12_lexes_50 (n := 51) rfl rfl ?_
        refine q_iload_n C dX12_lexes_51 (n := 52) rfl rfl ?_
        refine q_callVi C dX12_lexes_52 (n := 55) rfl m_X12_403 v_yX12_lexesPool (zM0 h0) ⟨by decide, rfl⟩ (c_X12_lexesPool_e (w := w) (J := J13) hI14 hF h0 x8 v1 v2 (by omega) (by omega) (by omega)) (Nat.le_of_ble_eq_true rfl) rfl rfl (Nat.le_of_ble_eq_true rfl) ⟨Nat.le_refl _, Nat.le_refl _⟩ (fun x37 M33 J34  hI35 h36 => ?_)
        obtain ⟨hk38, h25, h26, h27, h28, h29, h30, h31, h32⟩ := h36
        have hK39 := hK15.tr hk38 rfl rfl rfl
        have hpb : ∀ q, 0 ≤ q → q < (M (a + 2) (8 + 40 * v1 + v2)) → (zLb (M (a + 4)) (400 * v1 + zSum (M (a + 2)) (8 + 40 * v1) (v2).toNat) (M (a + 2) (8 + 40 * v1 + v2))) q = M12 (a + 17) q := fun q q0 q1 => by
          rw [zLb_at ⟨q0, q1⟩, ← (show (x4 : Int) = 400 * v1 + zSum (M (a + 2)) (8 + 40 * v1) (v2).toNat by omega)]
          exact (h19 q q0 (by omega)).symm
        have hlx := h32
        rw [show (x8 : Int) = M (a + 2) (8 + 40 * v1 + v2) by omega] at hlx
        exact q_zret C dX12_lexes_55 ⟨rfl, rfl⟩ (by omega) (by rw [hPo]; exact ⟨x37, M33, J34, rfl, rfl, hI35, hK39, by omega, by omega, by omega, by omega, by omega, by omega, h31, (hlx.imp (fun q => ⟨q.1, q.2.cg hpb⟩) (fun q => ⟨q.1, q.2.cg hpb⟩)), (fun q q0 q1 => ((hk38.getA rfl rfl rfl)).trans (hpb q q0 q1).symm)⟩)
      · refine q_aload_n C dX12_lexes_25 (n := 26) rfl rfl ?_
        refine q_getR C dX12_lexes_26 (n := 29) rfl f_X12_65 (zM0 h0) (hF _ _ _ (zM55 h0)) ?_
        refine q_iload C dX12_lexes_29 (n := 31) rfl rfl ?_
        refine q_aload_n C dX12_lexes_31 (n := 32) rfl rfl ?_
        refine q_getR C dX12_lexes_32 (n := 35) rfl f_X12_24 (zM0 h0) (hF _ _ _ (zM13 h0)) ?_
        refine q_iload_n C dX12_lexes_35 (n := 36) rfl rfl ?_
        refine q_iload C dX12_lexes_36 (n := 38) rfl rfl ?_
        refine q_iadd C dX12_lexes_38 (n := 39) rfl (v := x4 + u10) rfl ?_
        have g40 := zI.at hI ((zM15 h0) (x4 + u10))
        refine q_bald C dX12_lexes_39 (n := 40) rfl (zM14 h0) (by omega) (v := M (a + 4) (x4 + u10)) (hK16.getA rfl rfl rfl) ?_
        refine q_bast C dX12_lexes_40 (n := 41) rfl (zM56 h0) (by omega) (by omega) (fun M41 e42 => ?_)
        have hI43 : zI G M41 := hI14.put e42 ((zM57 h0) u10) rfl (by omega)
        have hK44 := hK15.upA e42 rfl
        have hK45 := hK16.upA e42 rfl
        refine q_iinc C [.ref (w.2.1 + a), zi v1, zi v2, zi x4, zi x8, zi (u10 + 1)] dX12_lexes_41 (n := 44) rfl rfl rfl rfl ?_
        refine q_goto C 18 dX12_lexes_44 rfl ?_
        exact zK.weak (ih22 (u10 + 1) M41 J13 hI43 hK44 hK45 (by omega) (by omega) (fun j j0 j1 => (Decidable.em (j = u10)).elim (fun z => by rw [z]; exact zup_s e42) (fun z => (zup_n e42 (by omega)).trans (h19 j j0 (by omega)))) (by omega)) (zwk_c (zwk_c (zwk_c (zwk_c (zwk_c (zwk_c zwk_e))))))
  exact zK.weak (L_20 _ 0 M J hI hK0 (zMd.rf : zMd a [17] [] [] M M) (by omega) (by omega) (fun j j0 j1 => by omega) (Int.self_le_toNat _)) (zwk_c (zwk_c (zwk_c (zwk_c (zwk_c (zwk_c zwk_e))))))
theorem c_X12_wordOf_e {w : zWp} {T : zTl} {M : zMm} {J : zJm} {R : zRm'} {G : zGt} {F : zRm'} {a : Nat} (hI : zI G M) (hF : zF F R) (h0 : zModel T F G a) (v1 : Int) (p1 : 0 ≤ v1 ∧ v1 ≤ 1000) : zCt w 2 0 0 yX12_wordOf cX12_wordOf 3 (some .int) [.ref (w.2.1 + a), zi v1] (T, M, J, R) (zPi T R G (fun x M2 => (zMd a [22] [] [] M M2) ∧ (-1 ≤ x ∧ x ≤ 60) ∧ (x = -1 ∨ v1 < M a 23) ∧ ((v1 < M a 23 ∧ M (a + 9) v1 = 0) ∧ (0 ≤ M (a + 10) v1 → zWi (M (a + 17)) (M (a + 10) v1) (M (a + 11) v1) x) ∨ ¬ (v1 < M a 23 ∧ M (a + 9) v1 = 0) ∧ x = -1))) := by
  refine zCt.of rfl (Nat.le_of_ble_eq_true rfl) ?_
  intro p e s m args below meth c C
  obtain ⟨Po, hPo⟩ : ∃ Po, Po = zPi T R G (fun x M2 => (zMd a [22] [] [] M M2) ∧ (-1 ≤ x ∧ x ≤ 60) ∧ (x = -1 ∨ v1 < M a 23) ∧ ((v1 < M a 23 ∧ M (a + 9) v1 = 0) ∧ (0 ≤ M (a + 10) v1 → zWi (M (a + 17)) (M (a + 10) v1) (M (a + 11) v1) x) ∨ ¬ (v1 < M a 23 ∧ M (a + 9) v1 = 0) ∧ x = -1)) := ⟨_, rfl⟩
  rw [← hPo]
  have hK0 : zMd a [22] [] [] M M := zMd.rf
  show zK w p e 2 0 0 s m args below meth c 3 T Po 0 [.ref (w.2.1 + a), zi v1, .null] [] (T, M, J, R)
  refine q_iload_n C dX12_wordOf_0 (n := 1) rfl rfl ?_
  refine q_aload_n C dX12_wordOf_1 (n := 2) rfl rfl ?_
  have g1 := zI.at hI (zM58 h0)
  refine q_getI C dX12_wordOf_2 (n := 5) rfl f_X12_355 (zM0 h0) (v := M a 23) rfl ?_
  refine q_icmp_ge C 17 dX12_wordOf_5 (n := 8) rfl rfl (by omega) (fun h2 => ?_) (fun h2 => ?_)
  · refine q_iconst C dX12_wordOf_17 (n := 18) rfl ?_
    exact q_iret C dX12_wordOf_18 ⟨rfl, rfl⟩ (by rw [hPo]; exact ⟨(-1), M, J, rfl, rfl, hI, hK0, by omega, by omega, (Or.inr ⟨by omega, rfl⟩)⟩)
  · refine q_aload_n C dX12_wordOf_8 (n := 9) rfl rfl ?_
    refine q_getR C dX12_wordOf_9 (n := 12) rfl f_X12_40 (zM0 h0) (hF _ _ _ (zM31 h0)) ?_
    refine q_iload_n C dX12_wordOf_12 (n := 13) rfl rfl ?_
    have g3 := zI.at hI ((zM33 h0) v1)
    refine q_iald C dX12_wordOf_13 (n := 14) rfl (zM32 h0) (by omega) (v := M (a + 9) v1) rfl ?_
    refine q_if_eq C 19 dX12_wordOf_14 (n := 17) rfl rfl (by omega) (fun h4 => ?_) (fun h4 => ?_)
    · refine q_iconst C dX12_wordOf_19 (n := 20) rfl ?_
      refine q_istore_n C [.ref (w.2.1 + a), zi v1, zi 0] dX12_wordOf_20 (n := 21) rfl rfl rfl ?_
      have L_15 : ∀ n16 : Nat, ∀ (u5 : Int) (M7 : zMm) (J8 : zJm), zI G M7 → zMd a [22] [] [] M M7 → zMd a [22] [] [] M M7 → (-2147483648 ≤ u5 ∧ u5 ≤ 2147483647) → (0 ≤ u5 ∧ u5 ≤ 30) → (∀ j, 0 ≤ j → j < u5 → M7 (a + 22) j = zBy M a v1 j) → (30 - u5 + 1 ≤ (n16 : Int)) → zK w p e 2 0 0 s m args below meth c 3 T Po 21 [.ref (w.2.1 + a), zi v1, zi u5] [] (T, M7, J8, R) := by
        intro n16
        induction n16 with
        | zero =>
          intro u5 M7 J8 hI9 hK10 hK11 h12 h13 h14 hm18
          exfalso
          omega
        | succ n16 ih17 =>
          intro u5 M7 J8 hI9 hK10 hK11 h12 h13 h14 hm18
          refine q_iload_n C dX12_wordOf_21 (n := 22) rfl rfl ?_
          refine q_aload_n C dX12_wordOf_22 (n := 23) rfl rfl ?_
          refine q_getR C dX12_wordOf_23 (n := 26) rfl f_X12_46 (zM0 h0) (hF _ _ _ (zM37 h0)) ?_
          refine q_iload_n C dX12_wordOf_26 (n := 27) rfl rfl ?_
          have g19 := zI.at hI ((zM39 h0) v1)
          refine q_iald C dX12_wordOf_27 (n := 28) rfl (zM38 h0) (by omega) (v := M (a + 11) v1) (hK11.getA rfl rfl rfl) ?_
          refine q_icmp_ge C 50 dX12_wordOf_28 (n := 31) rfl rfl (by omega) (fun h20 => ?_) (fun h20 => ?_)
          · refine q_aload_n C dX12_wordOf_50 (n := 51) rfl rfl ?_
            refine q_aload_n C dX12_wordOf_51 (n := 52) rfl rfl ?_
            refine q_getR C dX12_wordOf_52 (n := 55) rfl f_X12_80 (zM0 h0) (hF _ _ _ (zM78 h0)) ?_
            refine q_iconst C dX12_wordOf_55 (n := 56) rfl ?_
            refine q_aload_n C dX12_wordOf_56 (n := 57) rfl rfl ?_
            refine q_getR C dX12_wordOf_57 (n := 60) rfl f_X12_46 (zM0 h0) (hF _ _ _ (zM37 h0)) ?_
            refine q_iload_n C dX12_wordOf_60 (n := 61) rfl rfl ?_
            refine q_iald C dX12_wordOf_61 (n := 62) rfl (zM38 h0) (by omega) (v := M (a + 11) v1) (hK11.getA rfl rfl rfl) ?_
            refine q_callVp C dX12_wordOf_62 (n := 65) rfl m_X12_333 v_yX12_wordIn (zM0 h0) ⟨by decide, rfl⟩ (c_X12_wordIn_e (w := w) (J := J8) hI9 hF h0 (zM79 h0) (zM80 h0) 0 (M (a + 11) v1) (by omega) (by omega)) (Nat.le_of_ble_eq_true rfl) rfl rfl (Nat.le_of_ble_eq_true rfl) ⟨Nat.le_refl _, Nat.le_refl _⟩ (fun x23 h24 => ?_)
            obtain ⟨h21, h22⟩ := h24
            exact q_iret C dX12_wordOf_65 ⟨rfl, rfl⟩ (by rw [hPo]; exact ⟨x23, M7, J8, rfl, rfl, hI9, hK10, by omega, by omega, (Or.inl ⟨by omega, fun ho => by have hq9 := h22; exact zWi.cg hq9 (fun j j0 j1 => by rw [Int.zero_add, h14 j j0 (by omega)]; unfold zBy; rw [if_pos ho])⟩)⟩)
          · refine q_aload_n C dX12_wordOf_31 (n := 32) rfl rfl ?_
            refine q_getR C dX12_wordOf_32 (n := 35) rfl f_X12_80 (zM0 h0) (hF _ _ _ (zM78 h0)) ?_
            refine q_iload_n C dX12_wordOf_35 (n := 36) rfl rfl ?_
            refine q_aload_n C dX12_wordOf_36 (n := 37) rfl rfl ?_
            refine q_iload_n C dX12_wordOf_37 (n := 38) rfl rfl ?_
            refine q_iload_n C dX12_wordOf_38 (n := 39) rfl rfl ?_
            refine q_callVp C dX12_wordOf_39 (n := 42) rfl m_X12_370 v_yX12_byteIn (zM0 h0) ⟨by decide, rfl⟩ (c_X12_byteIn (w := w) (J := J8) hI9 hF h0 v1 u5 (by omega) (by omega)) (Nat.le_of_ble_eq_true rfl) rfl rfl (Nat.le_of_ble_eq_true rfl) ⟨Nat.le_refl _, Nat.le_refl _⟩ (fun x27 h28 => ?_)
            obtain ⟨h25, h26⟩ := h28
            have hby : zi2b x27 = zBy M a v1 u5 := (zi2b_id h25).trans ((show x27 = zBy M7 a v1 u5 from h26).trans (zBy_cg (fun j => (hK11.getA rfl rfl rfl)) (fun j => (hK11.getA rfl rfl rfl)) (fun j => (hK11.getA rfl rfl rfl))))
            refine q_i2b C dX12_wordOf_42 (n := 43) rfl (v := zi2b x27) rfl ?_
            have g29 := z8_r x27
            refine q_bast C dX12_wordOf_43 (n := 44) rfl (zM79 h0) (by omega) (by omega) (fun M30 e31 => ?_)
            have hI32 : zI G M30 := hI9.put e31 ((zM80 h0) u5) rfl (by omega)
            have hK33 := hK10.upA e31 rfl
            have hK34 := hK11.upA e31 rfl
            refine q_iinc C [.ref (w.2.1 + a), zi v1, zi (u5 + 1)] dX12_wordOf_44 (n := 47) rfl rfl rfl rfl ?_
            refine q_goto C 21 dX12_wordOf_47 rfl ?_
            exact zK.weak (ih17 (u5 + 1) M30 J8 hI32 hK33 hK34 (by omega) (by omega) (fun j j0 j1 => (Decidable.em (j = u5)).elim (fun z => by rw [z]; exact (zup_s e31).trans hby) (fun z => (zup_n e31 (by omega)).trans (h14 j j0 (by omega)))) (by omega)) (zwk_c (zwk_c (zwk_c zwk_e)))
      exact zK.weak (L_15 _ 0 M J hI hK0 (zMd.rf : zMd a [22] [] [] M M) (by omega) (by omega) (fun j j0 j1 => by omega) (Int.self_le_toNat _)) (zwk_c (zwk_c (zwk_c zwk_e)))
    · refine q_iconst C dX12_wordOf_17 (n := 18) rfl ?_
      exact q_iret C dX12_wordOf_18 ⟨rfl, rfl⟩ (by rw [hPo]; exact ⟨(-1), M, J, rfl, rfl, hI, hK0, by omega, by omega, (Or.inr ⟨by omega, rfl⟩)⟩)
theorem c_X12_guardOf_e {w : zWp} {T : zTl} {M : zMm} {J : zJm} {R : zRm'} {G : zGt} {F : zRm'} {a : Nat} {W : Int → Int} (hI : zI G M) (hF : zF F R) (h0 : zModel T F G a) (v1 : Int) (p1 : zFi M a) (p2 : 0 ≤ v1 ∧ v1 ≤ 3) (p3 : ∀ j, 0 ≤ j → j < M (a + 2) (4 + v1) → zRole (zLb (M (a + 4)) (400 * v1 + zSum (M (a + 2)) (8 + 40 * v1) (j).toNat) (M (a + 2) (8 + 40 * v1 + j))) (M (a + 2) (8 + 40 * v1 + j)) (W j)) : zCt w 6 0 0 yX12_guardOf cX12_guardOf 4 (some .int) [.ref (w.2.1 + a), zi v1] (T, M, J, R) (zPi T R G (fun x M2 => (zMd a [9, 10, 11, 12, 13, 14, 15, 16, 17, 22] [11, 23, 24, 25, 26, 27, 28, 29, 34] [(18, 11), (18, 12), (18, 13), (18, 14)] M M2) ∧ (0 ≤ x ∧ x ≤ 30) ∧ (zGrw (fun j => zLb (M (a + 4)) (400 * v1 + zSum (M (a + 2)) (8 + 40 * v1) (j).toNat) (M (a + 2) (8 + 40 * v1 + j))) (fun j => M (a + 2) (8 + 40 * v1 + j)) W (M (a + 2) (4 + v1)) x (fun i => M2 (a + 17) (M2 (a + 10) 2 + i))) ∧ (x = 0 ∨ 0 ≤ M2 (a + 10) 2 ∧ M2 (a + 11) 2 = x))) := by
  refine zCt.of rfl (Nat.le_of_ble_eq_true rfl) ?_
  intro p e s m args below meth c C
  obtain ⟨Po, hPo⟩ : ∃ Po, Po = zPi T R G (fun x M2 => (zMd a [9, 10, 11, 12, 13, 14, 15, 16, 17, 22] [11, 23, 24, 25, 26, 27, 28, 29, 34] [(18, 11), (18, 12), (18, 13), (18, 14)] M M2) ∧ (0 ≤ x ∧ x ≤ 30) ∧ (zGrw (fun j => zLb (M (a + 4)) (400 * v1 + zSum (M (a + 2)) (8 + 40 * v1) (j).toNat) (M (a + 2) (8 + 40 * v1 + j))) (fun j => M (a + 2) (8 + 40 * v1 + j)) W (M (a + 2) (4 + v1)) x (fun i => M2 (a + 17) (M2 (a + 10) 2 + i))) ∧ (x = 0 ∨ 0 ≤ M2 (a + 10) 2 ∧ M2 (a + 11) 2 = x)) := ⟨_, rfl⟩
  rw [← hPo]
  have hK0 : zMd a [9, 10, 11, 12, 13, 14, 15, 16, 17, 22] [11, 23, 24, 25, 26, 27, 28, 29, 34] [(18, 11), (18, 12), (18, 13), (18, 14)] M M := zMd.rf
  have gk_f_4___v1 := zI.at hI (((zM9 h0) (4 + v1)).trans (zfG_4 (by omega)))
  show zK w p e 6 0 0 s m args below meth c 4 T Po 0 [.ref (w.2.1 + a), zi v1, .null, .null] [] (T, M, J, R)
  refine q_iconst C dX12_guardOf_0 (n := 1) rfl ?_
  refine q_istore_n C [.ref (w.2.1 + a), zi v1, zi 0, .null] dX12_guardOf_1 (n := 2) rfl rfl rfl ?_
  have L_5 : ∀ n6 : Nat, ∀ (u1 : Int), (-2147483648 ≤ u1 ∧ u1 ≤ 2147483647) → (0 ≤ u1 ∧ u1 ≤ M (a + 2) (4 + v1) ∧ u1 ≤ 40) → (∀ q, 0 ≤ q → q < u1 → zBl (zLb (M (a + 4)) (400 * v1 + zSum (M (a + 2)) (8 + 40 * v1) (q).toNat) (M (a + 2) (8 + 40 * v1 + q))) (M (a + 2) (8 + 40 * v1 + q))) → (40 - u1 + 1 ≤ (n6 : Int)) → zK w p e 6 0 0 s m args below meth c 4 T Po 2 [.ref (w.2.1 + a), zi v1, zi u1, .null] [] (T, M, J, R) := by
    intro n6
    induction n6 with
    | zero =>
      intro u1 h2 h3 h4 hm8
      exfalso
      omega
    | succ n6 ih7 =>
      intro u1 h2 h3 h4 hm8
      refine q_iload_n C dX12_guardOf_2 (n := 3) rfl rfl ?_
      refine q_aload_n C dX12_guardOf_3 (n := 4) rfl rfl ?_
      refine q_iload_n C dX12_guardOf_4 (n := 5) rfl rfl ?_
      refine q_callVp C dX12_guardOf_5 (n := 8) rfl m_X12_285 v_yX12_linesOf (zM0 h0) ⟨by decide, rfl⟩ (c_X12_linesOf (w := w) (J := J) hI hF h0 v1 (by omega)) (Nat.le_of_ble_eq_true rfl) rfl rfl (Nat.le_of_ble_eq_true rfl) ⟨Nat.le_refl _, Nat.le_refl _⟩ (fun x11 h12 => ?_)
      obtain ⟨h9, h10⟩ := h12
      have J_14 : (M (a + 2) (4 + v1) ≤ u1 ∨ ¬ zBl (zLb (M (a + 4)) (400 * v1 + zSum (M (a + 2)) (8 + 40 * v1) (u1).toNat) (M (a + 2) (8 + 40 * v1 + u1))) (M (a + 2) (8 + 40 * v1 + u1))) → zK w p e 6 0 0 s m args below meth c 4 T Po 26 [.ref (w.2.1 + a), zi v1, zi u1, .null] [] (T, M, J, R) := by
        intro h13
        refine q_aload_n C dX12_guardOf_26 (n := 27) rfl rfl ?_
        refine q_iload_n C dX12_guardOf_27 (n := 28) rfl rfl ?_
        refine q_callVp C dX12_guardOf_28 (n := 31) rfl m_X12_285 v_yX12_linesOf (zM0 h0) ⟨by decide, rfl⟩ (c_X12_linesOf (w := w) (J := J) hI hF h0 v1 (by omega)) (Nat.le_of_ble_eq_true rfl) rfl rfl (Nat.le_of_ble_eq_true rfl) ⟨Nat.le_refl _, Nat.le_refl _⟩ (fun x17 h18 => ?_)
        obtain ⟨h15, h16⟩ := h18
        refine q_iconst C dX12_guardOf_31 (n := 32) rfl ?_
        refine q_isub C dX12_guardOf_32 (n := 33) rfl (v := x17 - 1) rfl ?_
        refine q_istore_n C [.ref (w.2.1 + a), zi v1, zi u1, zi (x17 - 1)] dX12_guardOf_33 (n := 34) rfl rfl rfl ?_
        have L_24 : ∀ n25 : Nat, ∀ (u19 : Int), (-2147483648 ≤ u19 ∧ u19 ≤ 2147483647) → (-1 ≤ u19 ∧ u19 < M (a + 2) (4 + v1) ∧ u19 ≤ 39) → (u1 ≤ u19 ∨ u19 = M (a + 2) (4 + v1) - 1) → (∀ q, u19 < q → q < M (a + 2) (4 + v1) → zBl (zLb (M (a + 4)) (400 * v1 + zSum (M (a + 2)) (8 + 40 * v1) (q).toNat) (M (a + 2) (8 + 40 * v1 + q))) (M (a + 2) (8 + 40 * v1 + q))) → (u19 + 2 ≤ (n25 : Int)) → zK w p e 6 0 0 s m args below meth c 4 T Po 34 [.ref (w.2.1 + a), zi v1, zi u1, zi u19] [] (T, M, J, R) := by
          intro n25
          induction n25 with
          | zero =>
            intro u19 h20 h21 h22 h23 hm27
            exfalso
            omega
          | succ n25 ih26 =>
            intro u19 h20 h21 h22 h23 hm27
            refine q_iload_n C dX12_guardOf_34 (n := 35) rfl rfl ?_
            refine q_iload_n C dX12_guardOf_35 (n := 36) rfl rfl ?_
            have J_29 : (u19 ≤ u1 ∨ ¬ zBl (zLb (M (a + 4)) (400 * v1 + zSum (M (a + 2)) (8 + 40 * v1) (u19).toNat) (M (a + 2) (8 + 40 * v1 + u19))) (M (a + 2) (8 + 40 * v1 + u19))) → zK w p e 6 0 0 s m args below meth c 4 T Po 54 [.ref (w.2.1 + a), zi v1, zi u1, zi u19] [] (T, M, J, R) := by
              intro h28
              have hf9 : zFst (fun q => zBl (zLb (M (a + 4)) (400 * v1 + zSum (M (a + 2)) (8 + 40 * v1) (q).toNat) (M (a + 2) (8 + 40 * v1 + q))) (M (a + 2) (8 + 40 * v1 + q))) (M (a + 2) (4 + v1)) 0 u1 := ⟨by omega, fun q q0 q1 => h4 q q0 q1, (h13).elim (fun z => Or.inl (by omega)) Or.inr⟩
              have hl9 : zLsw (fun q => zBl (zLb (M (a + 4)) (400 * v1 + zSum (M (a + 2)) (8 + 40 * v1) (q).toNat) (M (a + 2) (8 + 40 * v1 + q))) (M (a + 2) (8 + 40 * v1 + q))) (M (a + 2) (4 + v1)) u1 u19 := ⟨by omega, fun q q0 q1 => h23 q q0 q1, h28, by omega⟩
              refine q_iload_n C dX12_guardOf_54 (n := 55) rfl rfl ?_
              refine q_iload_n C dX12_guardOf_55 (n := 56) rfl rfl ?_
              have J_31 : (¬ ∃ y p, zGdw (fun j => zLb (M (a + 4)) (400 * v1 + zSum (M (a + 2)) (8 + 40 * v1) (j).toNat) (M (a + 2) (8 + 40 * v1 + j))) (fun j => M (a + 2) (8 + 40 * v1 + j)) W (M (a + 2) (4 + v1)) u1 u19 y p) → zK w p e 6 0 0 s m args below meth c 4 T Po 69 [.null, .null, .null, .null] [] (T, M, J, R) := by
                intro h30
                refine q_iconst C dX12_guardOf_69 (n := 70) rfl ?_
                exact q_iret C dX12_guardOf_70 ⟨rfl, rfl⟩ (by rw [hPo]; exact ⟨0, M, J, rfl, rfl, hI, hK0, by omega, (Or.inr ⟨rfl, fun ⟨f, l, y, p, q⟩ => by obtain rfl := hf9.eq q.1; obtain rfl := hl9.eq q.2.1; exact h30 ⟨y, p, q⟩⟩), (Or.inl rfl)⟩)
              refine q_icmp_ge C 69 dX12_guardOf_56 (n := 59) rfl rfl (by omega) (fun h32 => ?_) (fun h32 => ?_)
              · exact zK.weak (J_31 (fun ⟨y, p, q⟩ => by have := q.2.2.1; omega)) (zwk_n (zwk_n (zwk_n (zwk_n zwk_e))))
              · refine q_aload_n C dX12_guardOf_59 (n := 60) rfl rfl ?_
                refine q_iload_n C dX12_guardOf_60 (n := 61) rfl rfl ?_
                refine q_iload_n C dX12_guardOf_61 (n := 62) rfl rfl ?_
                refine q_callVp C dX12_guardOf_62 (n := 65) rfl m_X12_337 v_yX12_roleOf (zM0 h0) ⟨by decide, rfl⟩ (c_X12_roleOf_e (w := w) (J := J) hI hF h0 v1 u19 p1 (by omega) (by omega)) (Nat.le_of_ble_eq_true rfl) rfl rfl (Nat.le_of_ble_eq_true rfl) ⟨Nat.le_refl _, Nat.le_refl _⟩ (fun x35 h36 => ?_)
                obtain ⟨h33, h34⟩ := h36
                have hw37 := zRole.eq h34 (p3 u19 (by omega) (by omega))
                refine q_iconst C dX12_guardOf_65 (n := 66) rfl ?_
                refine q_icmp_eq C 71 dX12_guardOf_66 (n := 69) rfl rfl (by omega) (fun h38 => ?_) (fun h38 => ?_)
                · refine q_aload_n C dX12_guardOf_71 (n := 72) rfl rfl ?_
                  refine q_iload_n C dX12_guardOf_72 (n := 73) rfl rfl ?_
                  refine q_putI C dX12_guardOf_73 (n := 76) rfl f_X12_349 (zM0 h0) ⟨rfl, rfl⟩ (fun M39 (e40 : M39 = zup M a 11 u1) => ?_)
                  have hI41 : zI G M39 := hI.put e40 (zM26 h0) rfl (by omega)
                  have hK42 := hK0.upS e40 rfl
                  refine q_aload_n C dX12_guardOf_76 (n := 77) rfl rfl ?_
                  refine q_iload_n C dX12_guardOf_77 (n := 78) rfl rfl ?_
                  refine q_iload_n C dX12_guardOf_78 (n := 79) rfl rfl ?_
                  have hp43 : zFi M39 a := p1.cg (fun j => (zup_p e40 (by omega) _))
                  refine q_callVi C dX12_guardOf_79 (n := 82) rfl m_X12_352 v_yX12_lexes (zM0 h0) ⟨by decide, rfl⟩ (c_X12_lexes_e (w := w) (J := J) hI41 hF h0 v1 u1 hp43 (by omega) (by have hz44 : M39 (a + 2) (4 + v1) = M (a + 2) (4 + v1) := (zup_p e40 (by omega) _); omega)) (Nat.le_of_ble_eq_true rfl) rfl rfl (Nat.le_of_ble_eq_true rfl) ⟨Nat.le_refl _, Nat.le_refl _⟩ (fun x58 M54 J55  hI56 h57 => ?_)
                  obtain ⟨hk59, h45, h46, h47, h48, h49, h50, h51, h52, h53⟩ := h57
                  have hK60 := hK42.tr hk59 rfl rfl rfl
                  have hz61 : M39 (a + 2) (8 + 40 * v1 + u1) = M (a + 2) (8 + 40 * v1 + u1) := (zup_p e40 (by omega) _)
                  have hlx := h52
                  have hpl := h53
                  rw [show M39 (a + 2) = M (a + 2) from funext (fun j => (zup_p e40 (by omega) _)), show M39 (a + 4) = M (a + 4) from funext (fun j => (zup_p e40 (by omega) _))] at hlx hpl
                  have J_73 : ∀ (u62 : Int) (M64 : zMm) (J65 : zJm), zI G M64 → zMd a [9, 10, 11, 12, 13, 14, 15, 16, 17, 22] [11, 23, 24, 25, 26, 27, 28, 29, 34] [(18, 11), (18, 12), (18, 13), (18, 14)] M M64 → zMd a [22] [] [] M54 M64 → (-2147483648 ≤ u62 ∧ u62 ≤ 2147483647) → (0 ≤ u62 ∧ u62 ≤ 30) → (zGrw (fun j => zLb (M (a + 4)) (400 * v1 + zSum (M (a + 2)) (8 + 40 * v1) (j).toNat) (M (a + 2) (8 + 40 * v1 + j))) (fun j => M (a + 2) (8 + 40 * v1 + j)) W (M (a + 2) (4 + v1)) u62 (fun i => M64 (a + 17) (M64 (a + 10) 2 + i))) → (u62 = 0 ∨ 0 ≤ M64 (a + 10) 2 ∧ M64 (a + 11) 2 = u62) → zK w p e 6 0 0 s m args below meth c 4 T Po 139 [.null, .null, .null, .null] [zi u62] (T, M64, J65, R) := by
                    intro u62 M64 J65 hI66 hK67 hK68 h69 h70 h71 h72
                    have hz74 : M64 (a + 10) 2 = M54 (a + 10) 2 := (hK68.getA rfl rfl rfl)
                    have hz75 : M64 (a + 11) 2 = M54 (a + 11) 2 := (hK68.getA rfl rfl rfl)
                    exact q_iret C dX12_guardOf_139 ⟨rfl, rfl⟩ (by rw [hPo]; exact ⟨u62, M64, J65, rfl, rfl, hI66, hK67, by omega, h71, h72⟩)
                  have J_84 : ∀ (M77 : zMm) (J78 : zJm), zI G M77 → zMd a [9, 10, 11, 12, 13, 14, 15, 16, 17, 22] [11, 23, 24, 25, 26, 27, 28, 29, 34] [(18, 11), (18, 12), (18, 13), (18, 14)] M M77 → zMd a [22] [] [] M54 M77 → zMd a [22] [] [] M54 M77 → (¬ ∃ y p, zGdw (fun j => zLb (M (a + 4)) (400 * v1 + zSum (M (a + 2)) (8 + 40 * v1) (j).toNat) (M (a + 2) (8 + 40 * v1 + j))) (fun j => M (a + 2) (8 + 40 * v1 + j)) W (M (a + 2) (4 + v1)) u1 u19 y p) → zK w p e 6 0 0 s m args below meth c 4 T Po 138 [.null, .null, .null, .null] [] (T, M77, J78, R) := by
                    intro M77 J78 hI79 hK80 hK81 hK82 h83
                    refine q_iconst C dX12_guardOf_138 (n := 139) rfl ?_
                    exact zK.weak (J_73 0 M77 J78 hI79 hK80 hK81 (by omega) (by omega) (Or.inr ⟨rfl, fun ⟨f, l, y, p, q⟩ => by obtain rfl := hf9.eq q.1; obtain rfl := hl9.eq q.2.1; exact h83 ⟨y, p, q⟩⟩) (Or.inl rfl)) (zwk_n (zwk_n (zwk_n (zwk_n zwk_e))))
                  refine q_if_eq C 138 dX12_guardOf_82 (n := 85) rfl rfl (by omega) (fun h85 => ?_) (fun h85 => ?_)
                  · exact zK.weak (J_84 M54 J55 hI56 hK60 (zMd.rf : zMd a [22] [] [] M54 M54) (zMd.rf : zMd a [22] [] [] M54 M54) (fun ⟨y, p, q⟩ => zGtw.nox (((hlx).resolve_left (by omega)).2) ⟨y, p, q.2.2.2.2.2⟩)) (zwk_n (zwk_n (zwk_n (zwk_n zwk_e))))
                  · have htr := (hlx).resolve_right (by omega)
                    refine q_aload_n C dX12_guardOf_85 (n := 86) rfl rfl ?_
                    have g86 := zI.at hI56 (zM58 h0)
                    refine q_getI C dX12_guardOf_86 (n := 89) rfl f_X12_355 (zM0 h0) (v := M54 a 23) rfl ?_
                    refine q_iconst C dX12_guardOf_89 (n := 90) rfl ?_
                    refine q_icmp_ne C 138 dX12_guardOf_90 (n := 93) rfl rfl (by omega) (fun h87 => ?_) (fun h87 => ?_)
                    · exact zK.weak (J_84 M54 J55 hI56 hK60 (zMd.rf : zMd a [22] [] [] M54 M54) (zMd.rf : zMd a [22] [] [] M54 M54) (fun ⟨y, p, q⟩ => by have := (q.2.2.2.2.2.tr htr.2).2.1 rfl; omega)) (zwk_n (zwk_n (zwk_n (zwk_n zwk_e))))
                    · have hT := htr.2
                      rw [show M54 a 23 = 3 by omega] at hT
                      have hb3 := hT.b3
                      have hTK := fun y p (q : zGtw (zLb (M (a + 4)) (400 * v1 + zSum (M (a + 2)) (8 + 40 * v1) (u1).toNat) (M (a + 2) (8 + 40 * v1 + u1))) (M (a + 2) (8 + 40 * v1 + u1)) y p) => (q.tr hT).1.2 (by omega)
                      refine q_aload_n C dX12_guardOf_93 (n := 94) rfl rfl ?_
                      refine q_iconst C dX12_guardOf_94 (n := 95) rfl ?_
                      refine q_callVp C dX12_guardOf_95 (n := 98) rfl m_X12_358 v_yX12_isHash (zM0 h0) ⟨by decide, rfl⟩ (c_X12_isHash (w := w) (J := J55) hI56 hF h0 0 (by omega)) (Nat.le_of_ble_eq_true rfl) rfl rfl (Nat.le_of_ble_eq_true rfl) ⟨Nat.le_refl _, Nat.le_refl _⟩ (fun x90 h91 => ?_)
                      obtain ⟨h88, h89⟩ := h91
                      have hz92 : M54 a 0 = M a 0 := ((hk59.getS rfl rfl).trans (zup_n e40 (by omega)))
                      have hsg := zSgn.b (b := zLb (M (a + 4)) (400 * v1 + zSum (M (a + 2)) (8 + 40 * v1) (u1).toNat) (M (a + 2) (8 + 40 * v1 + u1))) h89 hb3.1.1 (hpl _ hb3.1.1 hb3.1.2)
                      refine q_if_eq C 138 dX12_guardOf_98 (n := 101) rfl rfl (by omega) (fun h93 => ?_) (fun h93 => ?_)
                      · exact zK.weak (J_84 M54 J55 hI56 hK60 (zMd.rf : zMd a [22] [] [] M54 M54) (zMd.rf : zMd a [22] [] [] M54 M54) (fun ⟨y, p, q⟩ => by obtain ⟨t0, t1, t2⟩ := hTK y p q.2.2.2.2.2; exact hsg.mpr t0 (by omega))) (zwk_n (zwk_n (zwk_n (zwk_n zwk_e))))
                      · refine q_aload_n C dX12_guardOf_101 (n := 102) rfl rfl ?_
                        refine q_iconst C dX12_guardOf_102 (n := 103) rfl ?_
                        refine q_callVi C dX12_guardOf_103 (n := 106) rfl m_X12_361 v_yX12_wordOf (zM0 h0) ⟨by decide, rfl⟩ (c_X12_wordOf_e (w := w) (J := J55) hI56 hF h0 1 (by omega)) (Nat.le_of_ble_eq_true rfl) rfl rfl (Nat.le_of_ble_eq_true rfl) ⟨Nat.le_refl _, Nat.le_refl _⟩ (fun x101 M97 J98  hI99 h100 => ?_)
                        obtain ⟨hk102, h94, h95, h96⟩ := h100
                        have hK103 := hK60.tr hk102 rfl rfl rfl
                        have hK104 := (zMd.rf : zMd a [22] [] [] M54 M54).tr hk102 rfl rfl rfl
                        have hK105 := (zMd.rf : zMd a [22] [] [] M54 M54).tr hk102 rfl rfl rfl
                        have hwd := zGwd (K := M54 (a + 9)) (O := M54 (a + 10)) (L := M54 (a + 11)) h96 (by omega) hT hpl
                        refine q_iconst C dX12_guardOf_106 (n := 107) rfl ?_
                        refine q_icmp_ne C 138 dX12_guardOf_107 (n := 110) rfl rfl (by omega) (fun h106 => ?_) (fun h106 => ?_)
                        · exact zK.weak (J_84 M97 J98 hI99 hK103 hK104 hK105 (fun ⟨y, p, q⟩ => by obtain ⟨t0, t1, t2⟩ := hTK y p q.2.2.2.2.2; have := hwd.mpr ⟨t1.1, by rw [t1.2.1]; exact zWo_5 t1.2.2⟩; omega)) (zwk_n (zwk_n (zwk_n (zwk_n zwk_e))))
                        · refine q_aload_n C dX12_guardOf_110 (n := 111) rfl rfl ?_
                          refine q_getR C dX12_guardOf_111 (n := 114) rfl f_X12_40 (zM0 h0) (hF _ _ _ (zM31 h0)) ?_
                          refine q_iconst C dX12_guardOf_114 (n := 115) rfl ?_
                          have g107 := zI.at hI56 ((zM33 h0) 2)
                          refine q_iald C dX12_guardOf_115 (n := 116) rfl (zM32 h0) (by omega) (v := M54 (a + 9) 2) (hk102.getA rfl rfl rfl) ?_
                          refine q_if_ne C 138 dX12_guardOf_116 (n := 119) rfl rfl (by omega) (fun h108 => ?_) (fun h108 => ?_)
                          · exact zK.weak (J_84 M97 J98 hI99 hK103 hK104 hK105 (fun ⟨y, p, q⟩ => by obtain ⟨t0, t1, t2⟩ := hTK y p q.2.2.2.2.2; have := t2.1; have hz : M97 (a + 9) 2 = M54 (a + 9) 2 := (hk102.getA rfl rfl rfl); omega)) (zwk_n (zwk_n (zwk_n (zwk_n zwk_e))))
                          · have hpw : ∀ j, 0 ≤ j → j < M97 (a + 2) (4 + v1) → zRole (zLb (M97 (a + 4)) (400 * v1 + zSum (M97 (a + 2)) (8 + 40 * v1) (j).toNat) (M97 (a + 2) (8 + 40 * v1 + j))) (M97 (a + 2) (8 + 40 * v1 + j)) (W j) := by
                              rw [show M97 (a + 2) = M (a + 2) from funext (fun j => ((hk102.getA rfl rfl rfl).trans ((hk59.getA rfl rfl rfl).trans (zup_p e40 (by omega) _)))), show M97 (a + 4) = M (a + 4) from funext (fun j => ((hk102.getA rfl rfl rfl).trans ((hk59.getA rfl rfl rfl).trans (zup_p e40 (by omega) _))))]
                              exact p3
                            refine q_aload_n C dX12_guardOf_119 (n := 120) rfl rfl ?_
                            refine q_iload_n C dX12_guardOf_120 (n := 121) rfl rfl ?_
                            refine q_iload_n C dX12_guardOf_121 (n := 122) rfl rfl ?_
                            have hp109 : zFi M97 a := hp43.cg (fun j => ((hk102.getA rfl rfl rfl).trans (hk59.getA rfl rfl rfl)))
                            refine q_callVp C dX12_guardOf_122 (n := 125) rfl m_X12_343 v_yX12_behindOf (zM0 h0) ⟨by decide, rfl⟩ (c_X12_behindOf_e (w := w) (J := J98) hI99 hF h0 v1 u1 hp109 (by omega) (by have hz110 : M97 (a + 2) (4 + v1) = M (a + 2) (4 + v1) := ((hk102.getA rfl rfl rfl).trans ((hk59.getA rfl rfl rfl).trans (zup_p e40 (by omega) _))); omega) hpw) (Nat.le_of_ble_eq_true rfl) rfl rfl (Nat.le_of_ble_eq_true rfl) ⟨Nat.le_refl _, Nat.le_refl _⟩ (fun x113 h114 => ?_)
                            obtain ⟨h111, h112⟩ := h114
                            have hz115 : M97 (a + 2) (4 + v1) = M (a + 2) (4 + v1) := ((hk102.getA rfl rfl rfl).trans ((hk59.getA rfl rfl rfl).trans (zup_p e40 (by omega) _)))
                            refine q_iload_n C dX12_guardOf_125 (n := 126) rfl rfl ?_
                            refine q_icmp_ne C 138 dX12_guardOf_126 (n := 129) rfl rfl (by omega) (fun h116 => ?_) (fun h116 => ?_)
                            · exact zK.weak (J_84 M97 J98 hI99 hK103 hK104 hK105 (fun ⟨y, p, q⟩ => by have hwf := (p3 u1 (by omega) (by omega)).eq q.2.2.2.2.2.role; rcases h112 with ⟨q1, q2⟩ | ⟨q1, q2⟩; omega; (rw [show M97 (a + 2) (4 + v1) = M (a + 2) (4 + v1) from ((hk102.getA rfl rfl rfl).trans ((hk59.getA rfl rfl rfl).trans (zup_p e40 (by omega) _)))] at q2; have := q2.eq q.2.2.2.2.1; omega))) (zwk_n (zwk_n (zwk_n (zwk_n zwk_e))))
                            · refine q_aload_n C dX12_guardOf_129 (n := 130) rfl rfl ?_
                              refine q_getR C dX12_guardOf_130 (n := 133) rfl f_X12_46 (zM0 h0) (hF _ _ _ (zM37 h0)) ?_
                              refine q_iconst C dX12_guardOf_133 (n := 134) rfl ?_
                              have g117 := zI.at hI56 ((zM39 h0) 2)
                              refine q_iald C dX12_guardOf_134 (n := 135) rfl (zM38 h0) (by omega) (v := M54 (a + 11) 2) (hk102.getA rfl rfl rfl) ?_
                              refine q_goto C 139 dX12_guardOf_135 rfl ?_
                              have hk0 := hsg.mp (by omega)
                              have hk1 := hwd.mp (by omega)
                              have hk2 : M54 (a + 9) 2 = 0 := by have hz : M97 (a + 9) 2 = M54 (a + 9) 2 := (hk102.getA rfl rfl rfl); omega
                              have hgt := zGtw.of hT hk0 hk1.1 hk1.2 hk2
                              have hbh : zBh W (M (a + 2) (4 + v1)) u1 u19 := by
                                have hwf := (p3 u1 (by omega) (by omega)).eq hgt.1.role
                                rcases h112 with ⟨q1, q2⟩ | ⟨q1, q2⟩
                                · omega
                                · rw [show M97 (a + 2) (4 + v1) = M (a + 2) (4 + v1) from ((hk102.getA rfl rfl rfl).trans ((hk59.getA rfl rfl rfl).trans (zup_p e40 (by omega) _))), show (x113 : Int) = u19 by omega] at q2
                                  exact q2
                              have hxl : M54 (a + 11) 2 = M54 (a + 11) 2 := rfl
                              exact zK.weak (J_73 (M54 (a + 11) 2) M97 J98 hI99 hK103 hK104 (by omega) (by omega) (by rw [hxl]; exact Or.inl ⟨_, _, _, ⟨hf9, hl9, by omega, by omega, hbh, hgt.1⟩, fun i i0 i1 => by rw [show M97 (a + 10) 2 = M54 (a + 10) 2 from (hk102.getA rfl rfl rfl)]; exact (show M97 (a + 17) (M54 (a + 10) 2 + i) = M54 (a + 17) (M54 (a + 10) 2 + i) from (hk102.getA rfl rfl rfl)).trans (hpl _ (by omega) (by omega))⟩) (Or.inr ⟨by rw [show M97 (a + 10) 2 = M54 (a + 10) 2 from (hk102.getA rfl rfl rfl)]; exact hgt.2, (show M97 (a + 11) 2 = M54 (a + 11) 2 from (hk102.getA rfl rfl rfl)).trans hxl.symm⟩)) (zwk_n (zwk_n (zwk_n (zwk_n zwk_e))))
                · exact zK.weak (J_31 (fun ⟨y, p, q⟩ => by have := q.2.2.2.1; omega)) (zwk_n (zwk_n (zwk_n (zwk_n zwk_e))))
            refine q_icmp_le C 54 dX12_guardOf_36 (n := 39) rfl rfl (by omega) (fun h118 => ?_) (fun h118 => ?_)
            · exact zK.weak (J_29 (Or.inl (by omega))) (zwk_c (zwk_c (zwk_c (zwk_c zwk_e))))
            · refine q_aload_n C dX12_guardOf_39 (n := 40) rfl rfl ?_
              refine q_iload_n C dX12_guardOf_40 (n := 41) rfl rfl ?_
              refine q_iload_n C dX12_guardOf_41 (n := 42) rfl rfl ?_
              refine q_callVp C dX12_guardOf_42 (n := 45) rfl m_X12_346 v_yX12_isBlankLine (zM0 h0) ⟨by decide, rfl⟩ (c_X12_isBlankLine_e (w := w) (J := J) hI hF h0 v1 u19 p1 (by omega) (by omega)) (Nat.le_of_ble_eq_true rfl) rfl rfl (Nat.le_of_ble_eq_true rfl) ⟨Nat.le_refl _, Nat.le_refl _⟩ (fun x121 h122 => ?_)
              obtain ⟨h119, h120⟩ := h122
              refine q_if_eq C 54 dX12_guardOf_45 (n := 48) rfl rfl (by omega) (fun h123 => ?_) (fun h123 => ?_)
              · exact zK.weak (J_29 (Or.inr (fun q => by have := h120.mpr q; omega))) (zwk_c (zwk_c (zwk_c (zwk_c zwk_e))))
              · refine q_iinc C [.ref (w.2.1 + a), zi v1, zi u1, zi (u19 + (-1))] dX12_guardOf_48 (n := 51) rfl rfl rfl rfl ?_
                refine q_goto C 34 dX12_guardOf_51 rfl ?_
                exact zK.weak (ih26 (u19 + (-1)) (by omega) (by omega) (by omega) (fun q q0 q1 => (Decidable.em (q = u19)).elim (fun z => by rw [z]; exact h120.mp (by omega)) (fun z => h23 q (by omega) q1)) (by omega)) (zwk_c (zwk_c (zwk_c (zwk_c zwk_e))))
        exact zK.weak (L_24 _ (x17 - 1) (by omega) (by omega) (by omega) (fun q q0 q1 => by omega) (Int.self_le_toNat _)) (zwk_c (zwk_c (zwk_c (zwk_c zwk_e))))
      refine q_icmp_ge C 26 dX12_guardOf_8 (n := 11) rfl rfl (by omega) (fun h124 => ?_) (fun h124 => ?_)
      · exact zK.weak (J_14 (Or.inl (by omega))) (zwk_c (zwk_c (zwk_c (zwk_n zwk_e))))
      · refine q_aload_n C dX12_guardOf_11 (n := 12) rfl rfl ?_
        refine q_iload_n C dX12_guardOf_12 (n := 13) rfl rfl ?_
        refine q_iload_n C dX12_guardOf_13 (n := 14) rfl rfl ?_
        refine q_callVp C dX12_guardOf_14 (n := 17) rfl m_X12_346 v_yX12_isBlankLine (zM0 h0) ⟨by decide, rfl⟩ (c_X12_isBlankLine_e (w := w) (J := J) hI hF h0 v1 u1 p1 (by omega) (by omega)) (Nat.le_of_ble_eq_true rfl) rfl rfl (Nat.le_of_ble_eq_true rfl) ⟨Nat.le_refl _, Nat.le_refl _⟩ (fun x127 h128 => ?_)
        obtain ⟨h125, h126⟩ := h128
        refine q_if_eq C 26 dX12_guardOf_17 (n := 20) rfl rfl (by omega) (fun h129 => ?_) (fun h129 => ?_)
        · exact zK.weak (J_14 (Or.inr (fun q => by have := h126.mpr q; omega))) (zwk_c (zwk_c (zwk_c (zwk_n zwk_e))))
        · refine q_iinc C [.ref (w.2.1 + a), zi v1, zi (u1 + 1), .null] dX12_guardOf_20 (n := 23) rfl rfl rfl rfl ?_
          refine q_goto C 2 dX12_guardOf_23 rfl ?_
          exact zK.weak (ih7 (u1 + 1) (by omega) (by omega) (fun q q0 q1 => (Decidable.em (q = u1)).elim (fun z => by rw [z]; exact h126.mp (by omega)) (fun z => h4 q q0 (by omega))) (by omega)) (zwk_c (zwk_c (zwk_c (zwk_n zwk_e))))
  exact zK.weak (L_5 _ 0 (by omega) (by omega) (fun q q0 q1 => by omega) (Int.self_le_toNat _)) (zwk_c (zwk_c (zwk_c (zwk_n zwk_e))))
theorem c_X12_guard_g {w : zWp} {T : zTl} {M : zMm} {J : zJm} {R : zRm'} {G : zGt} {F : zRm'} {a : Nat} {W : Int → Int} (hI : zI G M) (hF : zF F R) (h0 : zModel T F G a) (v1 : Int) (p1 : zFi M a) (p2 : -2147483648 ≤ v1 ∧ v1 ≤ 2147483647) (p3 : 0 ≤ v1 ∧ v1 ≤ 3 → ∀ j, 0 ≤ j → j < M (a + 2) (4 + v1) → zRole (zLb (M (a + 4)) (400 * v1 + zSum (M (a + 2)) (8 + 40 * v1) (j).toNat) (M (a + 2) (8 + 40 * v1 + j))) (M (a + 2) (8 + 40 * v1 + j)) (W j)) : zCt w 7 0 0 yX12_guard cX12_guard 4 (some .int) [.ref (w.2.1 + a), zi v1] (T, M, J, R) (zPi T R G (fun x M2 => (zMd a [8, 9, 10, 11, 12, 13, 14, 15, 16, 17, 22] [0, 11, 13, 23, 24, 25, 26, 27, 28, 29, 34] [(18, 11), (18, 12), (18, 13), (18, 14)] M M2) ∧ ((0 ≤ v1 ∧ v1 ≤ 3 ∧ M (a + 2) v1 = 1) ∧ (x = 0 ∧ (∃ nm, zGrw (fun j => zLb (M (a + 4)) (400 * v1 + zSum (M (a + 2)) (8 + 40 * v1) (j).toNat) (M (a + 2) (8 + 40 * v1 + j))) (fun j => M (a + 2) (8 + 40 * v1 + j)) W (M (a + 2) (4 + v1)) 0 nm) ∧ (M2 a 13 = M a 13 ∧ (∀ i, M2 (a + 8) i = M (a + 8) i)) ∨ x ≠ 0 ∧ M2 a 13 = x ∧ zGrw (fun j => zLb (M (a + 4)) (400 * v1 + zSum (M (a + 2)) (8 + 40 * v1) (j).toNat) (M (a + 2) (8 + 40 * v1 + j))) (fun j => M (a + 2) (8 + 40 * v1 + j)) W (M (a + 2) (4 + v1)) x (fun i => M2 (a + 8) i)) ∨ ¬ (0 ≤ v1 ∧ v1 ≤ 3 ∧ M (a + 2) v1 = 1) ∧ x = -1 ∧ (M2 a 13 = M a 13 ∧ (∀ i, M2 (a + 8) i = M (a + 8) i))))) := by
  refine zCt.of rfl (Nat.le_of_ble_eq_true rfl) ?_
  intro p e s m args below meth c C
  obtain ⟨Po, hPo⟩ : ∃ Po, Po = zPi T R G (fun x M2 => (zMd a [8, 9, 10, 11, 12, 13, 14, 15, 16, 17, 22] [0, 11, 13, 23, 24, 25, 26, 27, 28, 29, 34] [(18, 11), (18, 12), (18, 13), (18, 14)] M M2) ∧ ((0 ≤ v1 ∧ v1 ≤ 3 ∧ M (a + 2) v1 = 1) ∧ (x = 0 ∧ (∃ nm, zGrw (fun j => zLb (M (a + 4)) (400 * v1 + zSum (M (a + 2)) (8 + 40 * v1) (j).toNat) (M (a + 2) (8 + 40 * v1 + j))) (fun j => M (a + 2) (8 + 40 * v1 + j)) W (M (a + 2) (4 + v1)) 0 nm) ∧ (M2 a 13 = M a 13 ∧ (∀ i, M2 (a + 8) i = M (a + 8) i)) ∨ x ≠ 0 ∧ M2 a 13 = x ∧ zGrw (fun j => zLb (M (a + 4)) (400 * v1 + zSum (M (a + 2)) (8 + 40 * v1) (j).toNat) (M (a + 2) (8 + 40 * v1 + j))) (fun j => M (a + 2) (8 + 40 * v1 + j)) W (M (a + 2) (4 + v1)) x (fun i => M2 (a + 8) i)) ∨ ¬ (0 ≤ v1 ∧ v1 ≤ 3 ∧ M (a + 2) v1 = 1) ∧ x = -1 ∧ (M2 a 13 = M a 13 ∧ (∀ i, M2 (a + 8) i = M (a + 8) i)))) := ⟨_, rfl⟩
  rw [← hPo]
  have hK0 : zMd a [8, 9, 10, 11, 12, 13, 14, 15, 16, 17, 22] [0, 11, 13, 23, 24, 25, 26, 27, 28, 29, 34] [(18, 11), (18, 12), (18, 13), (18, 14)] M M := zMd.rf
  show zK w p e 7 0 0 s m args below meth c 4 T Po 0 [.ref (w.2.1 + a), zi v1, .null, .null] [] (T, M, J, R)
  refine q_aload_n C dX12_guard_0 (n := 1) rfl rfl ?_
  refine q_iconst C dX12_guard_1 (n := 2) rfl ?_
  refine q_putI C dX12_guard_2 (n := 5) rfl f_X12_1 (zM0 h0) ⟨rfl, rfl⟩ (fun M1 (e2 : M1 = zup M a 0 0) => ?_)
  have hI3 : zI G M1 := hI.put e2 (zM1 h0) rfl (by omega)
  have hK4 := hK0.upS e2 rfl
  refine q_aload_n C dX12_guard_5 (n := 6) rfl rfl ?_
  refine q_iload_n C dX12_guard_6 (n := 7) rfl rfl ?_
  refine q_callVp C dX12_guard_7 (n := 10) rfl m_X12_281 v_yX12_isFile (zM0 h0) ⟨by decide, rfl⟩ (c_X12_isFile_e (w := w) (J := J) hI3 hF h0 v1 (by omega)) (Nat.le_of_ble_eq_true rfl) rfl rfl (Nat.le_of_ble_eq_true rfl) ⟨Nat.le_refl _, Nat.le_refl _⟩ (fun x8 h9 => ?_)
  obtain ⟨h5, h6, h7⟩ := h9
  have hz10 : M1 (a + 2) v1 = M (a + 2) v1 := (zup_p e2 (by omega) _)
  refine q_if_ne C 15 dX12_guard_10 (n := 13) rfl rfl (by omega) (fun h11 => ?_) (fun h11 => ?_)
  · have hpw : ∀ j, 0 ≤ j → j < M1 (a + 2) (4 + v1) → zRole (zLb (M1 (a + 4)) (400 * v1 + zSum (M1 (a + 2)) (8 + 40 * v1) (j).toNat) (M1 (a + 2) (8 + 40 * v1 + j))) (M1 (a + 2) (8 + 40 * v1 + j)) (W j) := by
      rw [show M1 (a + 2) = M (a + 2) from funext (fun j => (zup_p e2 (by omega) _)), show M1 (a + 4) = M (a + 4) from funext (fun j => (zup_p e2 (by omega) _))]
      exact p3 (by omega)
    refine q_aload_n C dX12_guard_15 (n := 16) rfl rfl ?_
    refine q_iload_n C dX12_guard_16 (n := 17) rfl rfl ?_
    have hp12 : zFi M1 a := p1.cg (fun j => (zup_p e2 (by omega) _))
    refine q_callVi C dX12_guard_17 (n := 20) rfl m_X12_364 v_yX12_guardOf (zM0 h0) ⟨by decide, rfl⟩ (c_X12_guardOf_e (w := w) (J := J) hI3 hF h0 v1 hp12 (by omega) hpw) (Nat.le_of_ble_eq_true rfl) rfl rfl (Nat.le_of_ble_eq_true rfl) ⟨Nat.le_refl _, Nat.le_refl _⟩ (fun x20 M16 J17  hI18 h19 => ?_)
    obtain ⟨hk21, h13, h14, h15⟩ := h19
    have hK22 := hK4.tr hk21 rfl rfl rfl
    have hz23 : M1 (a + 2) (4 + v1) = M (a + 2) (4 + v1) := (zup_p e2 (by omega) _)
    have hgr := h14
    have hgo := h15
    rw [show M1 (a + 2) = M (a + 2) from funext (fun j => (zup_p e2 (by omega) _)), show M1 (a + 4) = M (a + 4) from funext (fun j => (zup_p e2 (by omega) _))] at hgr
    refine q_istore_n C [.ref (w.2.1 + a), zi v1, zi x20, .null] dX12_guard_20 (n := 21) rfl rfl rfl ?_
    refine q_iload_n C dX12_guard_21 (n := 22) rfl rfl ?_
    refine q_if_ne C 27 dX12_guard_22 (n := 25) rfl rfl (by omega) (fun h24 => ?_) (fun h24 => ?_)
    · refine q_aload_n C dX12_guard_27 (n := 28) rfl rfl ?_
      refine q_iload_n C dX12_guard_28 (n := 29) rfl rfl ?_
      refine q_putI C dX12_guard_29 (n := 32) rfl f_X12_367 (zM0 h0) ⟨rfl, rfl⟩ (fun M25 (e26 : M25 = zup M16 a 13 x20) => ?_)
      have hI27 : zI G M25 := hI18.put e26 (zM30 h0) rfl (by omega)
      have hK28 := hK22.upS e26 rfl
      have hgo2 : 0 ≤ M25 (a + 10) 2 := by
        rw [show M25 (a + 10) = M16 (a + 10) from funext (fun j => (zup_p e26 (by omega) _))]
        exact (hgo.resolve_left (by omega)).1
      have hgr2 := hgr
      rw [← (show M25 (a + 10) = M16 (a + 10) from funext (fun j => (zup_p e26 (by omega) _))), ← (show M25 (a + 17) = M16 (a + 17) from funext (fun j => (zup_p e26 (by omega) _)))] at hgr2
      refine q_iconst C dX12_guard_32 (n := 33) rfl ?_
      refine q_istore_n C [.ref (w.2.1 + a), zi v1, zi x20, zi 0] dX12_guard_33 (n := 34) rfl rfl rfl ?_
      have L_39 : ∀ n40 : Nat, ∀ (u29 : Int) (M31 : zMm) (J32 : zJm), zI G M31 → zMd a [8, 9, 10, 11, 12, 13, 14, 15, 16, 17, 22] [0, 11, 13, 23, 24, 25, 26, 27, 28, 29, 34] [(18, 11), (18, 12), (18, 13), (18, 14)] M M31 → zMd a [8] [] [] M25 M31 → (-2147483648 ≤ u29 ∧ u29 ≤ 2147483647) → (0 ≤ u29 ∧ u29 ≤ x20) → (∀ j, 0 ≤ j → j < u29 → M31 (a + 8) j = M25 (a + 17) (M25 (a + 10) 2 + j)) → (30 - u29 + 1 ≤ (n40 : Int)) → zK w p e 7 0 0 s m args below meth c 4 T Po 34 [.ref (w.2.1 + a), .null, zi x20, zi u29] [] (T, M31, J32, R) := by
        intro n40
        induction n40 with
        | zero =>
          intro u29 M31 J32 hI33 hK34 hK35 h36 h37 h38 hm42
          exfalso
          omega
        | succ n40 ih41 =>
          intro u29 M31 J32 hI33 hK34 hK35 h36 h37 h38 hm42
          refine q_iload_n C dX12_guard_34 (n := 35) rfl rfl ?_
          refine q_iload_n C dX12_guard_35 (n := 36) rfl rfl ?_
          refine q_icmp_ge C 58 dX12_guard_36 (n := 39) rfl rfl (by omega) (fun h43 => ?_) (fun h43 => ?_)
          · refine q_iload_n C dX12_guard_58 (n := 59) rfl rfl ?_
            exact q_iret C dX12_guard_59 ⟨rfl, rfl⟩ (by rw [hPo]; exact ⟨x20, M31, J32, rfl, rfl, hI33, hK34, (Or.inl ⟨by omega, Or.inr ⟨by omega, (by have hz : M31 a 13 = x20 := ((hK35.getS rfl rfl).trans (zup_s e26)); omega), hgr2.imp (fun ⟨f, l, p, q1, q2⟩ => ⟨f, l, p, q1, fun i i0 i1 => (h38 i i0 (by omega)).trans (q2 i i0 i1)⟩) id⟩⟩)⟩)
          · refine q_aload_n C dX12_guard_39 (n := 40) rfl rfl ?_
            refine q_getR C dX12_guard_40 (n := 43) rfl f_X12_37 (zM0 h0) (hF _ _ _ (zM27 h0)) ?_
            refine q_iload_n C dX12_guard_43 (n := 44) rfl rfl ?_
            refine q_aload_n C dX12_guard_44 (n := 45) rfl rfl ?_
            refine q_iconst C dX12_guard_45 (n := 46) rfl ?_
            refine q_iload_n C dX12_guard_46 (n := 47) rfl rfl ?_
            refine q_callVp C dX12_guard_47 (n := 50) rfl m_X12_370 v_yX12_byteIn (zM0 h0) ⟨by decide, rfl⟩ (c_X12_byteIn (w := w) (J := J32) hI33 hF h0 2 u29 (by omega) (by omega)) (Nat.le_of_ble_eq_true rfl) rfl rfl (Nat.le_of_ble_eq_true rfl) ⟨Nat.le_refl _, Nat.le_refl _⟩ (fun x46 h47 => ?_)
            obtain ⟨h44, h45⟩ := h47
            have hz48 : M31 a 2 = M a 2 := ((hK35.getS rfl rfl).trans ((zup_n e26 (by omega)).trans ((hk21.getS rfl rfl).trans (zup_n e2 (by omega)))))
            have hby : zi2b x46 = M25 (a + 17) (M25 (a + 10) 2 + u29) := (zi2b_id h44).trans ((show x46 = zBy M31 a 2 u29 from h45).trans ((zBy_cg (fun j => (hK35.getA rfl rfl rfl)) (fun j => (hK35.getA rfl rfl rfl)) (fun j => (hK35.getA rfl rfl rfl))).trans (if_pos hgo2)))
            refine q_i2b C dX12_guard_50 (n := 51) rfl (v := zi2b x46) rfl ?_
            have g49 := z8_r x46
            refine q_bast C dX12_guard_51 (n := 52) rfl (zM28 h0) (by omega) (by omega) (fun M50 e51 => ?_)
            have hI52 : zI G M50 := hI33.put e51 ((zM29 h0) u29) rfl (by omega)
            have hK53 := hK34.upA e51 rfl
            have hK54 := hK35.upA e51 rfl
            refine q_iinc C [.ref (w.2.1 + a), .null, zi x20, zi (u29 + 1)] dX12_guard_52 (n := 55) rfl rfl rfl rfl ?_
            refine q_goto C 34 dX12_guard_55 rfl ?_
            exact zK.weak (ih41 (u29 + 1) M50 J32 hI52 hK53 hK54 (by omega) (by omega) (fun j j0 j1 => (Decidable.em (j = u29)).elim (fun z => by rw [z]; exact (zup_s e51).trans hby) (fun z => (zup_n e51 (by omega)).trans (h38 j j0 (by omega)))) (by omega)) (zwk_c (zwk_n (zwk_c (zwk_c zwk_e))))
      exact zK.weak (L_39 _ 0 M25 J17 hI27 hK28 (zMd.rf : zMd a [8] [] [] M25 M25) (by omega) (by omega) (fun j j0 j1 => by omega) (Int.self_le_toNat _)) (zwk_c (zwk_n (zwk_c (zwk_c zwk_e))))
    · refine q_iconst C dX12_guard_25 (n := 26) rfl ?_
      exact q_iret C dX12_guard_26 ⟨rfl, rfl⟩ (by rw [hPo]; exact ⟨0, M16, J17, rfl, rfl, hI18, hK22, (Or.inl ⟨by omega, by rw [show (x20 : Int) = 0 by omega] at hgr; exact Or.inl ⟨rfl, ⟨_, hgr⟩, by have hz : M16 a 13 = M a 13 := ((hk21.getS rfl rfl).trans (zup_n e2 (by omega))); exact hz, fun i => ((hk21.getA rfl rfl rfl).trans (zup_p e2 (by omega) _))⟩⟩)⟩)
  · refine q_iconst C dX12_guard_13 (n := 14) rfl ?_
    exact q_iret C dX12_guard_14 ⟨rfl, rfl⟩ (by rw [hPo]; exact ⟨(-1), M1, J, rfl, rfl, hI3, hK4, (Or.inr ⟨by omega, rfl, by have hz : M1 a 13 = M a 13 := (zup_n e2 (by omega)); exact hz, fun i => (zup_p e2 (by omega) _)⟩)⟩)
theorem c_X12_guardAt_g {w : zWp} {T : zTl} {M : zMm} {J : zJm} {R : zRm'} {G : zGt} {F : zRm'} {a : Nat} (hI : zI G M) (hF : zF F R) (h0 : zModel T F G a) (v1 : Int) (p1 : -2147483648 ≤ v1 ∧ v1 ≤ 2147483647) : zCt w 2 0 0 yX12_guardAt cX12_guardAt 2 (some .int) [.ref (w.2.1 + a), zi v1] (T, M, J, R) (zPi T R G (fun x M2 => (zMd a [] [0] [] M M2) ∧ ((0 ≤ v1 ∧ v1 < M a 13) ∧ x = M (a + 8) v1 ∨ ¬ (0 ≤ v1 ∧ v1 < M a 13) ∧ x = -1))) := by
  refine zCt.of rfl (Nat.le_of_ble_eq_true rfl) ?_
  intro p e s m args below meth c C
  obtain ⟨Po, hPo⟩ : ∃ Po, Po = zPi T R G (fun x M2 => (zMd a [] [0] [] M M2) ∧ ((0 ≤ v1 ∧ v1 < M a 13) ∧ x = M (a + 8) v1 ∨ ¬ (0 ≤ v1 ∧ v1 < M a 13) ∧ x = -1)) := ⟨_, rfl⟩
  rw [← hPo]
  have hK0 : zMd a [] [0] [] M M := zMd.rf
  show zK w p e 2 0 0 s m args below meth c 2 T Po 0 [.ref (w.2.1 + a), zi v1] [] (T, M, J, R)
  refine q_aload_n C dX12_guardAt_0 (n := 1) rfl rfl ?_
  refine q_iconst C dX12_guardAt_1 (n := 2) rfl ?_
  refine q_putI C dX12_guardAt_2 (n := 5) rfl f_X12_1 (zM0 h0) ⟨rfl, rfl⟩ (fun M1 (e2 : M1 = zup M a 0 0) => ?_)
  have hI3 : zI G M1 := hI.put e2 (zM1 h0) rfl (by omega)
  have hK4 := hK0.upS e2 rfl
  refine q_iload_n C dX12_guardAt_5 (n := 6) rfl rfl ?_
  refine q_iconst C dX12_guardAt_6 (n := 7) rfl ?_
  refine q_aload_n C dX12_guardAt_7 (n := 8) rfl rfl ?_
  have g5 := zI.at hI (zM30 h0)
  refine q_getI C dX12_guardAt_8 (n := 11) rfl f_X12_367 (zM0 h0) (v := M a 13) (zup_n e2 (by omega)) ?_
  refine q_iconst C dX12_guardAt_11 (n := 12) rfl ?_
  refine q_isub C dX12_guardAt_12 (n := 13) rfl (v := (M a 13) - 1) rfl ?_
  refine q_callSp C dX12_guardAt_13 (n := 16) rfl m_X12_277 s_yX12_isIn (c_X12_isIn (w := w) (J := J) hI3 hF v1 0 ((M a 13) - 1) (by omega) (by omega) (by omega)) (Nat.le_of_ble_eq_true rfl) rfl rfl (Nat.le_of_ble_eq_true rfl) ⟨Nat.le_refl _, Nat.le_refl _⟩ (fun x9 h10 => ?_)
  obtain ⟨h6, h7, h8⟩ := h10
  have J_14 : ∀ (u11 : Int), (-2147483648 ≤ u11 ∧ u11 ≤ 2147483647) → ((0 ≤ v1 ∧ v1 < M a 13) ∧ u11 = M (a + 8) v1 ∨ ¬ (0 ≤ v1 ∧ v1 < M a 13) ∧ u11 = -1) → zK w p e 2 0 0 s m args below meth c 2 T Po 29 [.null, .null] [zi u11] (T, M1, J, R) := by
    intro u11 h12 h13
    exact q_iret C dX12_guardAt_29 ⟨rfl, rfl⟩ (by rw [hPo]; exact ⟨u11, M1, J, rfl, rfl, hI3, hK4, by omega⟩)
  refine q_if_eq C 28 dX12_guardAt_16 (n := 19) rfl rfl (by omega) (fun h15 => ?_) (fun h15 => ?_)
  · refine q_iconst C dX12_guardAt_28 (n := 29) rfl ?_
    exact zK.weak (J_14 (-1) (by omega) (by omega)) (zwk_n (zwk_n zwk_e))
  · refine q_aload_n C dX12_guardAt_19 (n := 20) rfl rfl ?_
    refine q_getR C dX12_guardAt_20 (n := 23) rfl f_X12_37 (zM0 h0) (hF _ _ _ (zM27 h0)) ?_
    refine q_iload_n C dX12_guardAt_23 (n := 24) rfl rfl ?_
    have g16 := zI.at hI ((zM29 h0) v1)
    refine q_bald C dX12_guardAt_24 (n := 25) rfl (zM28 h0) (by omega) (v := M (a + 8) v1) (zup_p e2 (by omega) _) ?_
    refine q_goto C 29 dX12_guardAt_25 rfl ?_
    exact zK.weak (J_14 (M (a + 8) v1) (by omega) (by omega)) (zwk_n (zwk_n zwk_e))
