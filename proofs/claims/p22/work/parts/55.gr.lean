def zGr (M : zMm) (a : Nat) (s : Int) : Prop := (0 ≤ M a 88 ∧ M a 88 ≤ 6 ∧ M (a + 53) (M a 88) ≤ M a 89 ∧ M a 89 + s ≤ M (a + 53) (M a 88) + M (a + 52) (M a 88) ∧ 0 ≤ s) ∧ (∀ g, 0 ≤ g → g ≤ M a 88 → 0 ≤ M (a + 53) g ∧ M (a + 53) g ≤ 40 * g ∧ M (a + 52) g ≤ M (a + 2) (4 + M (a + 51) g) ∧ M (a + 52) g ≤ 40) ∧ (∀ g, 0 ≤ g → g < M a 88 → M (a + 53) g ≤ M (a + 53) (g + 1) ∧ M (a + 53) (g + 1) ≤ M (a + 53) g + M (a + 52) g ∧ 1 ≤ M (a + 52) g ∧ ∀ j, M (a + 53) g ≤ j → j < M (a + 53) (g + 1) → M (a + 54) j < M (a + 2) (4 + M (a + 51) g)) ∧ (∀ j, M (a + 53) (M a 88) ≤ j → j < M a 89 → M (a + 54) j < M (a + 2) (4 + M (a + 51) (M a 88)))
theorem zGr.cg {M M2 : zMm} {a : Nat} {s : Int} (h : zGr M a s) (e2 : ∀ j, M2 (a + 2) j = M (a + 2) j) (e51 : ∀ j, M2 (a + 51) j = M (a + 51) j) (e52 : ∀ j, M2 (a + 52) j = M (a + 52) j) (e53 : ∀ j, M2 (a + 53) j = M (a + 53) j) (e54 : ∀ j, M2 (a + 54) j = M (a + 54) j) (e88 : M2 a 88 = M a 88) (e89 : M2 a 89 = M a 89) : zGr M2 a s := by
  unfold zGr at h ⊢
  rw [funext e2, funext e51, funext e52, funext e53, funext e54, e88, e89]
  exact h
theorem zGr.num {M : zMm} {a : Nat} {s d : Int} (h : zGr M a s) (hd : M a 88 = d) : 0 ≤ d ∧ d ≤ 6 ∧ 0 ≤ M (a + 53) d ∧ M (a + 53) d ≤ M a 89 ∧ M a 89 + s ≤ M (a + 53) d + M (a + 52) d ∧ M (a + 53) d ≤ 40 * d ∧ M (a + 52) d ≤ M (a + 2) (4 + M (a + 51) d) ∧ M (a + 52) d ≤ 40 ∧ 0 ≤ s := by
  subst hd
  have h1 := h.1
  have h2 := h.2.1 (M a 88) (by omega) (Int.le_refl _)
  omega
theorem zGr.weak {M : zMm} {a : Nat} {s s2 : Int} (h : zGr M a s) (hs : 0 ≤ s2 ∧ s2 ≤ s) : zGr M a s2 := ⟨by have := h.1; omega, h.2⟩
theorem zGr.push {M M2 : zMm} {a : Nat} {l : Int} (h : zGr M a 1) (e2 : ∀ j, M2 (a + 2) j = M (a + 2) j) (e51 : ∀ j, M2 (a + 51) j = M (a + 51) j) (e52 : ∀ j, M2 (a + 52) j = M (a + 52) j) (e53 : ∀ j, M2 (a + 53) j = M (a + 53) j) (e88 : M2 a 88 = M a 88) (e89 : M2 a 89 = M a 89 + 1) (e54 : ∀ j, j ≠ M a 89 → M2 (a + 54) j = M (a + 54) j) (g54 : M2 (a + 54) (M a 89) = l) (hl : l < M (a + 2) (4 + M (a + 51) (M a 88))) : zGr M2 a 0 := by
  obtain ⟨⟨a1, a2, a3, a4, a5⟩, h1, h2, h3⟩ := h
  unfold zGr
  rw [funext e2, funext e51, funext e52, funext e53, e88, e89]
  have mo : ∀ (k : Nat) (g : Int), 0 ≤ g → g + k ≤ M a 88 → M (a + 53) g ≤ M (a + 53) (g + k) := fun k => by
    induction k with
    | zero => intro g _ _; rw [show g + ((0 : Nat) : Int) = g by omega]; exact Int.le_refl _
    | succ k ih =>
      intro g g0 g1
      have i1 := ih g g0 (by omega)
      have i2 := (h2 (g + k) (by omega) (by omega)).1
      rw [show g + ((k + 1 : Nat) : Int) = g + k + 1 by omega]
      omega
  refine ⟨by omega, h1, fun g g0 g1 => ?_, fun j j0 j1 => ?_⟩
  · obtain ⟨q1, q2, q3, q4⟩ := h2 g g0 g1
    refine ⟨q1, q2, q3, fun j j0 j1 => ?_⟩
    have m1 := mo (M a 88 - (g + 1)).toNat (g + 1) (by omega) (by omega)
    rw [show g + 1 + ((M a 88 - (g + 1)).toNat : Int) = M a 88 by omega] at m1
    rw [e54 j (by omega)]
    exact q4 j j0 j1
  · by_cases q : j = M a 89
    · rw [q, g54]
      exact hl
    · rw [e54 j q]
      exact h3 j j0 (by omega)
theorem zGr.pop {M M2 : zMm} {a : Nat} {s : Int} (h : zGr M a s) (e2 : ∀ j, M2 (a + 2) j = M (a + 2) j) (e51 : ∀ j, M2 (a + 51) j = M (a + 51) j) (e52 : ∀ j, M2 (a + 52) j = M (a + 52) j) (e53 : ∀ j, M2 (a + 53) j = M (a + 53) j) (e54 : ∀ j, M2 (a + 54) j = M (a + 54) j) (e88 : M2 a 88 = M a 88) (e89 : M2 a 89 = M a 89 - 1) (hi : M (a + 53) (M a 88) < M a 89) : zGr M2 a s := by
  obtain ⟨⟨a1, a2, a3, a4, a5⟩, h1, h2, h3⟩ := h
  unfold zGr
  rw [funext e2, funext e51, funext e52, funext e53, funext e54, e88, e89]
  exact ⟨by omega, h1, h2, fun j j0 j1 => h3 j j0 (by omega)⟩
theorem zGr.line {M M2 : zMm} {a : Nat} (h : zGr M a 0) (e : M2 = zup M (a + 52) (M a 88) (M (a + 52) (M a 88) + 1)) (hl : M (a + 52) (M a 88) + 1 ≤ M (a + 2) (4 + M (a + 51) (M a 88)) ∧ M (a + 52) (M a 88) + 1 ≤ 40) : zGr M2 a 1 := by
  obtain ⟨⟨a1, a2, a3, a4, a5⟩, h1, h2, h3⟩ := h
  have q := fun (o : Nat) (ho : o ≠ 52) => (funext fun j => zup_p e (show a + o ≠ a + 52 by omega) j : M2 (a + o) = M (a + o))
  have q0 := fun (k : Int) => (zup_p e (show a ≠ a + 52 by omega) k : M2 a k = M a k)
  have u1 : M2 (a + 52) (M a 88) = M (a + 52) (M a 88) + 1 := zup_s e
  unfold zGr
  rw [q 2 (by decide), q 51 (by decide), q 53 (by decide), q 54 (by decide), q0, q0, u1]
  refine ⟨by omega, fun g g0 g1 => ?_, fun g g0 g1 => ?_, h3⟩
  · by_cases z : g = M a 88
    · have := h1 g g0 g1
      rw [z, u1]
      rw [z] at this
      omega
    · rw [zup_n e (by omega)]
      exact h1 g g0 g1
  · rw [zup_n e (by omega)]
    exact h2 g g0 g1
theorem zGr.enter {M M2 : zMm} {a : Nat} {k : Int} (h : zGr M a 1) (hd : M a 88 < 6) (e2 : ∀ j, M2 (a + 2) j = M (a + 2) j) (e88 : M2 a 88 = M a 88 + 1) (e89 : M2 a 89 = M a 89) (e54 : ∀ j, M2 (a + 54) j = M (a + 54) j) (e51 : ∀ j, j ≠ M a 88 + 1 → M2 (a + 51) j = M (a + 51) j) (e52 : ∀ j, j ≠ M a 88 + 1 → M2 (a + 52) j = M (a + 52) j) (e53 : ∀ j, j ≠ M a 88 + 1 → M2 (a + 53) j = M (a + 53) j) (g52 : M2 (a + 52) (M a 88 + 1) = 0) (g53 : M2 (a + 53) (M a 88 + 1) = M a 89) (hl : 0 ≤ M2 (a + 2) (4 + M2 (a + 51) (M a 88 + 1))) : zGr M2 a 0 := by
  obtain ⟨⟨a1, a2, a3, a4, a5⟩, h1, h2, h3⟩ := h
  have h1d := h1 (M a 88) a1 (Int.le_refl _)
  unfold zGr
  rw [e88, e89, g52, g53]
  refine ⟨by omega, fun g g0 g1 => ?_, fun g g0 g1 => ?_, fun j j0 j1 => by omega⟩
  · by_cases z : g = M a 88 + 1
    · rw [z, g52, g53]
      exact ⟨by omega, by omega, hl, by omega⟩
    · rw [e51 g z, e52 g z, e53 g z, e2]
      exact h1 g g0 (by omega)
  · by_cases z : g = M a 88
    · rw [e51 g (by omega), e52 g (by omega), e53 g (by omega), z, g53, e2, funext e54]
      exact ⟨a3, by omega, by omega, h3⟩
    · rw [e51 g (by omega), e52 g (by omega), e53 g (by omega), e53 (g + 1) (by omega), e2, funext e54]
      exact h2 g g0 (by omega)
theorem zGr.leave {M M2 : zMm} {a : Nat} (h : zGr M a 0) (hd : 1 ≤ M a 88) (hi : M a 89 ≤ M (a + 53) (M a 88)) (e2 : ∀ j, M2 (a + 2) j = M (a + 2) j) (e51 : ∀ j, M2 (a + 51) j = M (a + 51) j) (e52 : ∀ j, M2 (a + 52) j = M (a + 52) j) (e53 : ∀ j, M2 (a + 53) j = M (a + 53) j) (e54 : ∀ j, M2 (a + 54) j = M (a + 54) j) (e88 : M2 a 88 = M a 88 - 1) (e89 : M2 a 89 = M a 89) : zGr M2 a 0 ∧ 1 ≤ M2 (a + 52) (M2 a 88) := by
  obtain ⟨⟨a1, a2, a3, a4, a5⟩, h1, h2, h3⟩ := h
  obtain ⟨q1, q2, q3, q4⟩ := h2 (M a 88 - 1) (by omega) (by omega)
  rw [show M a 88 - 1 + 1 = M a 88 by omega] at q1 q2 q4
  unfold zGr
  rw [funext e2, funext e51, funext e52, funext e53, funext e54, e88, e89]
  exact ⟨⟨by omega, fun g g0 g1 => h1 g g0 (by omega), fun g g0 g1 => h2 g g0 (by omega), fun j j0 j1 => q4 j j0 (by omega)⟩, q3⟩
theorem zGr.init {M : zMm} {a : Nat} (e88 : M a 88 = 0) (e89 : M a 89 = 0) (e52 : M (a + 52) 0 = 0) (e53 : M (a + 53) 0 = 0) (hl : 0 ≤ M (a + 2) (4 + M (a + 51) 0)) : zGr M a 0 := by
  unfold zGr
  rw [e88, e89, e52, e53]
  refine ⟨by omega, fun g g0 g1 => ?_, fun g g0 g1 => by omega, fun j j0 j1 => by omega⟩
  rw [show g = 0 by omega, e52, e53]
  exact ⟨by omega, by omega, hl, by omega⟩
def zRu (M : zMm) (a : Nat) : Int := 100 * (12 - M (a + 18) 3) + 42 * (M a 88 + 1) - zSum (M (a + 52)) 0 (M a 88 + 1).toNat
theorem zRu_cg {M M2 : zMm} {a : Nat} (e3 : M2 (a + 18) 3 = M (a + 18) 3) (e88 : M2 a 88 = M a 88) (e52 : ∀ j, M2 (a + 52) j = M (a + 52) j) : zRu M2 a = zRu M a := by
  unfold zRu
  rw [e3, e88, funext e52]
theorem zRu_line {M M2 : zMm} {a : Nat} (e : M2 = zup M (a + 52) (M a 88) (M (a + 52) (M a 88) + 1)) (h : 0 ≤ M a 88) : zRu M2 a = zRu M a - 1 := by
  have q0 := fun (k : Int) => (zup_p e (show a ≠ a + 52 by omega) k : M2 a k = M a k)
  have z1 := zSum_s (g := M (a + 52)) (b := 0) (i := M a 88) h
  have z2 := zSum_s (g := M2 (a + 52)) (b := 0) (i := M a 88) h
  rw [Int.zero_add] at z1 z2
  rw [zup_s e, zSum_cg (g := M2 (a + 52)) (h := M (a + 52)) (M a 88).toNat (fun i hi => zup_n e (by omega))] at z2
  unfold zRu
  rw [q0, zup_p e (show a + 18 ≠ a + 52 by omega), z1, z2]
  omega
theorem zRu_enter {M M2 : zMm} {a : Nat} (h : 0 ≤ M a 88) (e3 : M2 (a + 18) 3 = M (a + 18) 3 + 1) (e88 : M2 a 88 = M a 88 + 1) (e52 : ∀ j, j ≠ M a 88 + 1 → M2 (a + 52) j = M (a + 52) j) (g52 : M2 (a + 52) (M a 88 + 1) = 0) : zRu M2 a ≤ zRu M a := by
  have z2 := zSum_s (g := M2 (a + 52)) (b := 0) (i := M a 88 + 1) (by omega)
  rw [Int.zero_add, g52, zSum_cg (g := M2 (a + 52)) (h := M (a + 52)) (M a 88 + 1).toNat (fun i hi => e52 _ (by omega))] at z2
  unfold zRu
  rw [e3, e88, z2]
  omega
theorem zRu_leave {M M2 : zMm} {a : Nat} (h : 0 ≤ M a 88) (hl : M (a + 52) (M a 88) ≤ 40) (e3 : M2 (a + 18) 3 = M (a + 18) 3) (e88 : M2 a 88 = M a 88 - 1) (e52 : ∀ j, M2 (a + 52) j = M (a + 52) j) : zRu M2 a < zRu M a := by
  have z1 := zSum_s (g := M (a + 52)) (b := 0) (i := M a 88) h
  rw [Int.zero_add] at z1
  unfold zRu
  rw [e3, e88, funext e52, show M a 88 - 1 + 1 = M a 88 by omega, z1]
  omega
theorem zRu_ge {M : zMm} {a : Nat} (h : -1 ≤ M a 88) (h3 : M (a + 18) 3 ≤ 12) (hl : ∀ g, 0 ≤ g → g ≤ M a 88 → M (a + 52) g ≤ 40) : 0 ≤ zRu M a := by
  have z : ∀ (k : Nat), (k : Int) ≤ M a 88 + 1 → zSum (M (a + 52)) 0 k ≤ 40 * k := fun k => by
    induction k with
    | zero => intro _; exact Int.le_refl _
    | succ k ih =>
      intro hk
      have i1 := ih (by omega)
      have i2 : zSum (M (a + 52)) 0 (k + 1) = zSum (M (a + 52)) 0 k + M (a + 52) (0 + (k : Int)) := rfl
      have i3 := hl k (by omega) (by omega)
      rw [i2, Int.zero_add]
      omega
  have z1 := z (M a 88 + 1).toNat (by omega)
  unfold zRu
  omega

