theorem zMo.nil {M : zMm} {a : Nat} (h3 : M a 3 = 0) (h0 : M (a + 2) 0 = 0) : zMo M a := ⟨fun i i0 i1 => by omega, h0⟩
/-- a page ahead of a line's change: the line is l, its bytes many, the next one begins at tail, goes on by shift -/
def zCg (M : zMm) (a : Nat) (l many tail shift : Int) : Prop := zMo M a ∧ (0 ≤ l ∧ l + 1 ≤ M a 3 ∧ M a 3 ≤ 40) ∧ M (a + 2) (l + 1) = tail ∧ M (a + 2) (M a 3) + shift ≤ 400 ∧ shift = M (a + 2) l + many + 1 - tail ∧ 0 ≤ many
theorem zCg.cg {M M2 : zMm} {a : Nat} {l many tail shift : Int} (h : zCg M a l many tail shift) (h3 : M2 a 3 = M a 3) (h2 : ∀ i, M2 (a + 2) i = M (a + 2) i) : zCg M2 a l many tail shift := by
  obtain ⟨g1, g2, g3, g4, g5, g6⟩ := h
  exact ⟨g1.cg h3 h2, by rw [h3]; exact g2, by rw [h2]; exact g3, by rw [h3, h2]; exact g4, by rw [h2]; exact g5, g6⟩
theorem zCg.B {M M1 M2 : zMm} {a : Nat} {l many tail shift s : Int} (h : zMo M a) (hs : M a 3 = s) (h0 : 0 ≤ s) (hs40 : s < 40) (hl : l = s) (ht : tail = M (a + 2) s) (hx : M (a + 2) s + shift ≤ 400) (hh : shift = M (a + 2) l + many + 1 - tail) (hm : 0 ≤ many) (e1 : M1 = zup M a 3 (s + 1)) (e2 : M2 = zup M1 (a + 2) (s + 1) tail) : zCg M2 a l many tail shift := by
  have m3 : M2 a 3 = s + 1 := (zup_p e2 (by omega) 3).trans (zup_s e1)
  have mi : ∀ i, i ≠ s + 1 → M2 (a + 2) i = M (a + 2) i := fun i hi => (zup_n e2 (by omega)).trans (zup_p e1 (by omega) i)
  have ms : M2 (a + 2) (s + 1) = tail := zup_s e2
  refine ⟨h.close hs h0 (by omega) e1 e2, by rw [m3]; omega, by rw [hl]; exact ms, by rw [m3, ms]; omega, ?_, hm⟩
  rw [mi l (by omega)]
  exact hh
def zCl (M0 M : zMm) (a : Nat) (l many tail shift i : Int) : Prop := zCg M0 a l many tail shift ∧ M a 3 = M0 a 3 ∧ (l + 1 ≤ i ∧ i ≤ M0 a 3 + 1) ∧ ∀ j, M (a + 2) j = if l < j ∧ j < i then M0 (a + 2) j + shift else M0 (a + 2) j
theorem zCl.start {M0 : zMm} {a : Nat} {l many tail shift i : Int} (h : zCg M0 a l many tail shift) (hi : i = l + 1) : zCl M0 M0 a l many tail shift i := by
  have := h.2.1
  exact ⟨h, rfl, ⟨by omega, by omega⟩, fun j => (if_neg (by omega)).symm⟩
theorem zCl.size {M0 M : zMm} {a : Nat} {l many tail shift i : Int} (h : zCl M0 M a l many tail shift i) : M a 3 = M0 a 3 ∧ l + 1 ≤ i ∧ i ≤ M0 a 3 + 1 ∧ M0 a 3 ≤ 40 ∧ 0 ≤ l := ⟨h.2.1, h.2.2.1.1, h.2.2.1.2, h.1.2.1.2.2, h.1.2.1.1⟩
theorem zCl.bound {M0 M : zMm} {a : Nat} {l many tail shift i : Int} (h : zCl M0 M a l many tail shift i) (hb : ∀ j, 0 ≤ M0 (a + 2) j) (hi : i ≤ M a 3) : 0 ≤ M (a + 2) i + shift ∧ M (a + 2) i + shift ≤ 400 := by
  obtain ⟨⟨g1, g2, g3, g4, g5, g6⟩, h3, hr, hv⟩ := h
  have e : M (a + 2) i = M0 (a + 2) i := by rw [hv]; exact if_neg (by omega)
  have l1 := g1.lt (i := l + 1) (j := i) (by omega) (by omega) (by omega)
  have l2 := g1.lt (i := i) (j := M0 a 3) (by omega) (by omega) (by omega)
  have l3 := hb l
  rw [e]
  omega
theorem zCl.step {M0 M M2 : zMm} {a : Nat} {l many tail shift i : Int} (h : zCl M0 M a l many tail shift i) (hi : i ≤ M a 3) (e : M2 = zup M (a + 2) i (M (a + 2) i + shift)) : zCl M0 M2 a l many tail shift (i + 1) := by
  obtain ⟨g, h3, hr, hv⟩ := h
  refine ⟨g, (zup_p e (by omega) 3).trans h3, ⟨by omega, by omega⟩, fun j => ?_⟩
  have ei : M (a + 2) i = M0 (a + 2) i := by rw [hv]; exact if_neg (by omega)
  by_cases q : j = i
  · subst q
    rw [zup_s e, ei, if_pos ⟨by omega, by omega⟩]
  · rw [zup_n e (by omega), hv]
    by_cases q2 : l < j ∧ j < i
    · rw [if_pos q2, if_pos ⟨q2.1, by omega⟩]
    · rw [if_neg q2, if_neg (by omega)]
theorem zCl.fin {M0 M : zMm} {a : Nat} {l many tail shift i : Int} (h : zCl M0 M a l many tail shift i) (hi : M a 3 < i) : zMo M a := by
  obtain ⟨⟨g1, g2, g3, g4, g5, g6⟩, h3, hr, hv⟩ := h
  refine ⟨fun j j0 j1 => ?_, by rw [hv, if_neg (by omega)]; exact g1.2⟩
  have q := g1.1 j j0 (by omega)
  rw [hv j, hv (j + 1)]
  by_cases c1 : l < j
  · rw [if_pos ⟨c1, by omega⟩, if_pos ⟨by omega, by omega⟩]
    omega
  · rw [if_neg (by omega)]
    by_cases c2 : j = l
    · subst c2
      rw [if_pos ⟨by omega, by omega⟩, g3]
      omega
    · rw [if_neg (by omega)]
      exact q
def zTk (M0 M : zMm) (a : Nat) (l gap i : Int) : Prop := zMo M0 a ∧ (0 ≤ l ∧ l < M0 a 3 ∧ M0 a 3 ≤ 40) ∧ gap = M0 (a + 2) (l + 1) - M0 (a + 2) l ∧ M a 3 = M0 a 3 ∧ (l + 1 ≤ i ∧ i ≤ M0 a 3) ∧ ∀ j, M (a + 2) j = if l < j ∧ j < i then M0 (a + 2) (j + 1) - gap else M0 (a + 2) j
theorem zTk.start {M0 : zMm} {a : Nat} {l gap i : Int} (h : zMo M0 a) (hl : 0 ≤ l ∧ l < M0 a 3 ∧ M0 a 3 ≤ 40) (hg : gap = M0 (a + 2) (l + 1) - M0 (a + 2) l) (hi : i = l + 1) : zTk M0 M0 a l gap i := ⟨h, hl, hg, rfl, ⟨by omega, by omega⟩, fun j => (if_neg (by omega)).symm⟩
theorem zTk.size {M0 M : zMm} {a : Nat} {l gap i : Int} (h : zTk M0 M a l gap i) : M a 3 = M0 a 3 ∧ l + 1 ≤ i ∧ i ≤ M0 a 3 ∧ M0 a 3 ≤ 40 ∧ 0 ≤ l := ⟨h.2.2.2.1, h.2.2.2.2.1.1, h.2.2.2.2.1.2, h.2.1.2.2, h.2.1.1⟩
theorem zTk.bound {M0 M : zMm} {a : Nat} {l gap i : Int} (h : zTk M0 M a l gap i) (hb : ∀ j, 0 ≤ M0 (a + 2) j ∧ M0 (a + 2) j ≤ 401) (hi : i < M a 3) : 0 ≤ M (a + 2) (i + 1) - gap ∧ M (a + 2) (i + 1) - gap ≤ 401 := by
  obtain ⟨g1, g2, g3, h3, hr, hv⟩ := h
  have e : M (a + 2) (i + 1) = M0 (a + 2) (i + 1) := by rw [hv]; exact if_neg (by omega)
  have l1 := g1.lt (i := l + 1) (j := i + 1) (by omega) (by omega) (by omega)
  have l2 := g1.1 l (by omega) (by omega)
  have l3 := hb l
  have l4 := hb (i + 1)
  rw [e]
  omega
theorem zTk.step {M0 M M2 : zMm} {a : Nat} {l gap i : Int} (h : zTk M0 M a l gap i) (hi : i < M a 3) (e : M2 = zup M (a + 2) i (M (a + 2) (i + 1) - gap)) : zTk M0 M2 a l gap (i + 1) := by
  obtain ⟨g1, g2, g3, h3, hr, hv⟩ := h
  refine ⟨g1, g2, g3, (zup_p e (by omega) 3).trans h3, ⟨by omega, by omega⟩, fun j => ?_⟩
  have ei : M (a + 2) (i + 1) = M0 (a + 2) (i + 1) := by rw [hv]; exact if_neg (by omega)
  by_cases q : j = i
  · subst q
    rw [zup_s e, ei, if_pos ⟨by omega, by omega⟩]
  · rw [zup_n e (by omega), hv]
    by_cases q2 : l < j ∧ j < i
    · rw [if_pos q2, if_pos ⟨q2.1, by omega⟩]
    · rw [if_neg q2, if_neg (by omega)]
theorem zTk.fin {M0 M M2 : zMm} {a : Nat} {l gap i x : Int} (h : zTk M0 M a l gap i) (hi : M a 3 ≤ i) (e : M2 = zup M a 3 x) (hx : x = M a 3 - 1) : zMo M2 a := by
  obtain ⟨g1, g2, g3, h3, hr, hv⟩ := h
  have m3 : M2 a 3 = M0 a 3 - 1 := by rw [zup_s e, hx, h3]
  have m2 : ∀ j, M2 (a + 2) j = M (a + 2) j := fun j => zup_p e (by omega) j
  refine ⟨fun j j0 j1 => ?_, by rw [m2, hv, if_neg (by omega)]; exact g1.2⟩
  rw [m3] at j1
  rw [m2, m2, hv j, hv (j + 1)]
  by_cases c1 : l < j
  · rw [if_pos ⟨c1, by omega⟩, if_pos ⟨by omega, by omega⟩]
    have := g1.1 (j + 1) (by omega) (by omega)
    omega
  · rw [if_neg (by omega)]
    by_cases c2 : j = l
    · subst c2
      rw [if_pos ⟨by omega, by omega⟩]
      have := g1.1 (j + 1) (by omega) (by omega)
      omega
    · rw [if_neg (by omega)]
      exact g1.1 j j0 (by omega)
theorem zcp_at {M M2 : zMm} {a0 a : Nat} {sp dp z i : Int} (hM : M2 = zcp M a0 a sp dp z) (h : dp ≤ i ∧ i < dp + z) : M2 a i = M a0 (sp + (i - dp)) := by
  rw [hM]
  exact if_pos ⟨rfl, h⟩
theorem zPr.copy {M M2 : zMm} {a o : Nat} (h : zPr M o) (h3 : M2 a 3 = M o 3) (h5 : M2 a 5 = M o 5) (h6 : M2 a 6 = M o 6) (h40 : M o 3 ≤ 40) (h0 : 0 ≤ M o 3) (h2 : ∀ i, 0 ≤ i → i ≤ 40 → M2 (a + 2) i = M (o + 2) i) : zPr M2 a := by
  refine ⟨⟨fun i i0 i1 => ?_, by rw [h2 0 (by omega) (by omega)]; exact h.1.2⟩, by rw [h5, h6]; exact h.2⟩
  rw [h3] at i1
  rw [h2 i i0 (by omega), h2 (i + 1) (by omega) (by omega)]
  exact h.1.1 i i0 i1
theorem zPr.cg {M M2 : zMm} {a : Nat} (h : zPr M a) (h3 : M2 a 3 = M a 3) (h5 : M2 a 5 = M a 5) (h6 : M2 a 6 = M a 6) (h2 : ∀ i, M2 (a + 2) i = M (a + 2) i) : zPr M2 a := ⟨h.1.cg h3 h2, by rw [h5, h6]; exact h.2⟩
/-- of a source: the first n names found on a tape are no longer than 30 -/
def zNm (M : zMm) (a : Nat) (n : Int) : Prop := ∀ j, 0 ≤ j → j < n → M (a + 7) j ≤ M (a + 8) j ∧ M (a + 8) j - M (a + 7) j ≤ 30
theorem zNm.cg {M M2 : zMm} {a : Nat} {n : Int} (h : zNm M a n) (h1 : ∀ j, M2 (a + 7) j = M (a + 7) j) (h2 : ∀ j, M2 (a + 8) j = M (a + 8) j) : zNm M2 a n := by
  intro j j0 j1
  rw [h1, h2]
  exact h j j0 j1
theorem zNm.put {M M1 M2 : zMm} {a : Nat} {n f t : Int} (h : zNm M a n) (e1 : M1 = zup M (a + 7) n f) (e2 : M2 = zup M1 (a + 8) n t) (hf : f ≤ t ∧ t - f ≤ 30) : zNm M2 a (n + 1) := by
  intro j j0 j1
  by_cases q : j = n
  · subst q
    rw [zup_p e2 (by omega), zup_s e1, zup_s e2]
    exact hf
  · rw [zup_p e2 (by omega), zup_n e1 (by omega), zup_n e2 (by omega), zup_p e1 (by omega)]
    exact h j j0 (by omega)

/-! how many of the first bytes are 10 -/
def zTen (g : Int → Int) : Nat → Int
  | 0 => 0
  | n + 1 => zTen g n + if g n = 10 then 1 else 0
theorem zTen_0 {g : Int → Int} : zTen g (0 : Int).toNat = 0 := rfl
theorem zTen_s {g : Int → Int} {i : Int} (h : 0 ≤ i) : g i = 10 ∧ zTen g (i + 1).toNat = zTen g i.toNat + 1 ∨ g i ≠ 10 ∧ zTen g (i + 1).toNat = zTen g i.toNat := by
  have e : (i + 1).toNat = i.toNat + 1 := by omega
  have e2 : zTen g (i.toNat + 1) = zTen g i.toNat + if g ((i.toNat : Nat) : Int) = 10 then 1 else 0 := rfl
  rw [e, e2, show ((i.toNat : Nat) : Int) = i by omega]
  by_cases q : g i = 10
  · exact Or.inl ⟨q, by rw [if_pos q]⟩
  · exact Or.inr ⟨q, by rw [if_neg q, Int.add_zero]⟩
theorem zTen_mo {g : Int → Int} : ∀ (n m : Nat), zTen g n ≤ zTen g (n + m)
  | _, 0 => Int.le_refl _
  | n, m + 1 => by
    have h1 := zTen_mo (g := g) n m
    have e : zTen g (n + (m + 1)) = zTen g (n + m) + if g ((n + m : Nat) : Int) = 10 then 1 else 0 := rfl
    rw [e]
    split <;> omega
theorem zTen_le {g : Int → Int} {i j : Int} (h : 0 ≤ i ∧ i ≤ j) : 0 ≤ zTen g i.toNat ∧ zTen g i.toNat ≤ zTen g j.toNat := by
  have h1 := zTen_mo (g := g) 0 i.toNat
  rw [Nat.zero_add] at h1
  have h2 := zTen_mo (g := g) i.toNat (j.toNat - i.toNat)
  rw [show i.toNat + (j.toNat - i.toNat) = j.toNat by omega] at h2
  exact ⟨h1, h2⟩
theorem zTen_cg {g h : Int → Int} : ∀ (n : Nat), (∀ j : Int, 0 ≤ j → j < (n : Int) → g j = h j) → zTen g n = zTen h n
  | 0, _ => rfl
  | n + 1, e => by
    show zTen g n + (if g n = 10 then 1 else 0) = zTen h n + (if h n = 10 then 1 else 0)
    rw [zTen_cg n (fun j a b => e j a (by omega)), e n (by omega) (by omega)]
theorem zTen_e {g : Int → Int} {i v : Int} (h : 0 ≤ v) : ¬ i = v ∨ (v = 0 ∧ zTen g i.toNat = 0) ∨ (1 ≤ v ∧ g (i - 1) = 10 ∧ zTen g i.toNat = zTen g (v - 1).toNat + 1) ∨ (1 ≤ v ∧ g (i - 1) ≠ 10 ∧ zTen g i.toNat = zTen g (v - 1).toNat) := by
  by_cases e : i = v
  · subst e
    by_cases z : i = 0
    · subst z
      exact Or.inr (Or.inl ⟨rfl, rfl⟩)
    · have q := zTen_s (g := g) (i := i - 1) (by omega)
      rw [show i - 1 + 1 = i by omega] at q
      rcases q with ⟨q1, q2⟩ | ⟨q1, q2⟩
      · exact Or.inr (Or.inr (Or.inl ⟨by omega, q1, q2⟩))
      · exact Or.inr (Or.inr (Or.inr ⟨by omega, q1, q2⟩))
  · exact Or.inl e

