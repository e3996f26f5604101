/-! ===== the reference: the bytes of files ===== -/
theorem zTen_up {g : Int → Int} {i j : Int} (h : 0 ≤ i ∧ i ≤ j) : zTen g j.toNat ≤ zTen g i.toNat + (j - i) := by
  have key : ∀ n : Nat, zTen g (i.toNat + n) ≤ zTen g i.toNat + n := by
    intro n
    induction n with
    | zero =>
      show zTen g i.toNat ≤ zTen g i.toNat + ((0 : Nat) : Int)
      omega
    | succ n ih =>
      have e : zTen g (i.toNat + (n + 1)) = zTen g (i.toNat + n) + if g ((i.toNat + n : Nat) : Int) = 10 then 1 else 0 := rfl
      rw [e]
      split <;> omega
  have := key (j - i).toNat
  rw [show i.toNat + (j - i).toNat = j.toNat by omega] at this
  omega
def zNb (M M0 : zMm) (a : Nat) (k i : Int) (g : Int → Int) : Prop := (∀ j, 0 ≤ j → j < i → g j ≠ 10 → M (a + 4) (400 * k + j - zTen g j.toNat) = g j) ∧ ∀ x, ¬ (400 * k ≤ x ∧ x < 400 * k + 400) → M (a + 4) x = M0 (a + 4) x
theorem zNb.init {M M0 : zMm} {a : Nat} {k i : Int} {g : Int → Int} (e : ∀ j, M (a + 4) j = M0 (a + 4) j) (hi : i = 0) : zNb M M0 a k i g := ⟨fun j j0 j1 => by omega, fun x _ => e x⟩
theorem zNb.cg {M M0 M2 : zMm} {a : Nat} {k i : Int} {g : Int → Int} (h : zNb M M0 a k i g) (e : ∀ j, M2 (a + 4) j = M (a + 4) j) : zNb M2 M0 a k i g := ⟨fun j j0 j1 j2 => (e _).trans (h.1 j j0 j1 j2), fun x hx => (e x).trans (h.2 x hx)⟩
theorem zNb.put {M M0 M2 : zMm} {a : Nat} {k i x v : Int} {g : Int → Int} (h : zNb M M0 a k i g) (e : M2 = zup M (a + 4) x v) (hx : x + zTen g i.toNat = 400 * k + i) (hv : v = g i) (hi : 0 ≤ i ∧ i < 400) : zNb M2 M0 a k (i + 1) g := by
  have h0 := zTen_le (g := g) (i := i) (j := i) (by omega)
  have h1 := zTen_up (g := g) (i := 0) (j := i) (by omega)
  have hz : zTen g (0 : Int).toNat = 0 := rfl
  refine ⟨fun j j0 j1 j2 => ?_, fun y hy => (zup_n e (by omega)).trans (h.2 y hy)⟩
  by_cases z : j = i
  · rw [z, ← hv, show 400 * k + i - zTen g i.toNat = x by omega]
    exact zup_s e
  · have t := zTen_s (g := g) (i := j) j0
    have u := zTen_up (g := g) (i := j + 1) (j := i) (by omega)
    rw [zup_n e (by omega)]
    exact h.1 j j0 (by omega) j2
theorem zNb.ten {M M0 : zMm} {a : Nat} {k i : Int} {g : Int → Int} (h : zNb M M0 a k i g) (hg : g i = 10) : zNb M M0 a k (i + 1) g := ⟨fun j j0 j1 j2 => h.1 j j0 (by
  by_cases z : j = i
  · rw [z] at j2
    exact absurd hg j2
  · omega) j2, h.2⟩
/-- bytes from lo on, below hi, have moved by d -/
def zMv (M M0 : zMm) (a : Nat) (lo hi d : Int) : Prop := (∀ x, lo ≤ x → x < hi → M (a + 4) (x + d) = M0 (a + 4) x) ∧ ∀ x, x < lo ∧ x < lo + d ∨ hi ≤ x ∧ hi + d ≤ x → M (a + 4) x = M0 (a + 4) x
def zMd1 (M M0 : zMm) (a : Nat) (i hi d : Int) : Prop := (∀ x, i < x → x < hi → M (a + 4) (x + d) = M0 (a + 4) x) ∧ (∀ x, x ≤ i + d → M (a + 4) x = M0 (a + 4) x) ∧ ∀ x, hi + d ≤ x → M (a + 4) x = M0 (a + 4) x
theorem zMd1.init {M M0 : zMm} {a : Nat} {i hi d : Int} (e : ∀ j, M (a + 4) j = M0 (a + 4) j) (hi2 : i = hi - 1) : zMd1 M M0 a i hi d := ⟨fun x x0 x1 => by omega, fun x _ => e x, fun x _ => e x⟩
theorem zMd1.step {M M0 M2 : zMm} {a : Nat} {i hi d x v i2 : Int} (h : zMd1 M M0 a i hi d) (e : M2 = zup M (a + 4) x v) (hx : x = i + d) (hv : v = M (a + 4) i) (hd : 0 < d) (h1 : i < hi) (h2 : i2 = i - 1) : zMd1 M2 M0 a i2 hi d := by
  subst hx h2
  obtain ⟨q1, q2, q3⟩ := h
  refine ⟨fun y y0 y1 => ?_, fun y y0 => (zup_n e (by omega)).trans (q2 y (by omega)), fun y y0 => (zup_n e (by omega)).trans (q3 y y0)⟩
  by_cases z : y = i
  · rw [z, zup_s e, hv]
    exact q2 i (by omega)
  · rw [zup_n e (by omega)]
    exact q1 y (by omega) y1
theorem zMd1.mv {M M0 M2 : zMm} {a : Nat} {i lo hi d : Int} (h : zMd1 M M0 a i hi d) (e : ∀ j, M2 (a + 4) j = M (a + 4) j) (hi1 : i < lo ∧ lo ≤ i + 1 ∨ i < lo ∧ hi ≤ lo ∧ i = hi - 1) (hd : 0 < d) : zMv M2 M0 a lo hi d := by
  obtain ⟨q1, q2, q3⟩ := h
  refine ⟨fun y y0 y1 => (e _).trans (q1 y (by omega) y1), fun y hy => (e y).trans ?_⟩
  by_cases z : y ≤ i + d
  · exact q2 y z
  · exact q3 y (by omega)
def zMd2 (M M0 : zMm) (a : Nat) (lo i d : Int) : Prop := (∀ x, lo ≤ x → x < i → M (a + 4) (x + d) = M0 (a + 4) x) ∧ (∀ x, i + d ≤ x → M (a + 4) x = M0 (a + 4) x ∨ x < i) ∧ (∀ x, i ≤ x → M (a + 4) x = M0 (a + 4) x) ∧ ∀ x, x < lo + d → M (a + 4) x = M0 (a + 4) x
theorem zMd2.init {M M0 : zMm} {a : Nat} {lo i d : Int} (e : ∀ j, M (a + 4) j = M0 (a + 4) j) (hi2 : i = lo) : zMd2 M M0 a lo i d := ⟨fun x x0 x1 => by omega, fun x _ => Or.inl (e x), fun x _ => e x, fun x _ => e x⟩
theorem zMd2.step {M M0 M2 : zMm} {a : Nat} {lo i d x v i2 : Int} (h : zMd2 M M0 a lo i d) (e : M2 = zup M (a + 4) x v) (hx : x = i + d) (hv : v = M (a + 4) i) (hd : d ≤ 0) (h1 : lo ≤ i) (h2 : i2 = i + 1) : zMd2 M2 M0 a lo i2 d := by
  subst hx h2
  obtain ⟨q1, q2, q3, q4⟩ := h
  refine ⟨fun y y0 y1 => ?_, fun y y0 => ?_, fun y y0 => (zup_n e (by omega)).trans (q3 y (by omega)), fun y y0 => (zup_n e (by omega)).trans (q4 y y0)⟩
  · by_cases z : y = i
    · rw [z, zup_s e, hv]
      exact q3 i (Int.le_refl _)
    · rw [zup_n e (by omega)]
      exact q1 y y0 (by omega)
  · by_cases z : y < i + 1
    · exact Or.inr z
    · exact Or.inl ((zup_n e (by omega)).trans (q3 y (by omega)))
theorem zMd2.mv {M M0 M2 : zMm} {a : Nat} {i lo hi d : Int} (h : zMd2 M M0 a lo i d) (e : ∀ j, M2 (a + 4) j = M (a + 4) j) (hi1 : lo ≤ hi ∧ hi ≤ i ∧ (i ≤ hi ∨ i = lo)) (hd : d ≤ 0) : zMv M2 M0 a lo hi d := by
  obtain ⟨q1, q2, q3, q4⟩ := h
  refine ⟨fun y y0 y1 => (e _).trans (q1 y y0 (by omega)), fun y hy => (e y).trans ?_⟩
  by_cases z : i ≤ y
  · exact q3 y z
  · exact q4 y (by omega)
/-- n bytes of g stand from b on; the others as in Mx -/
def zWrw (M Mx : zMm) (a : Nat) (b n : Int) (g : Int → Int) : Prop := (∀ i, 0 ≤ i → i < n → M (a + 4) (b + i) = g i) ∧ ∀ x, x < b ∨ b + n ≤ x → M (a + 4) x = Mx (a + 4) x
theorem zWrw.init {M Mx : zMm} {a : Nat} {b n : Int} {g : Int → Int} (e : ∀ j, M (a + 4) j = Mx (a + 4) j) (hn : n = 0) : zWrw M Mx a b n g := ⟨fun i i0 i1 => by omega, fun x _ => e x⟩
theorem zWrw.step {M Mx M2 : zMm} {a : Nat} {b n x v : Int} {g : Int → Int} (h : zWrw M Mx a b n g) (e : M2 = zup M (a + 4) x v) (hx : x = b + n) (hv : v = g n) (hn : 0 ≤ n) : zWrw M2 Mx a b (n + 1) g := by
  subst hx
  refine ⟨fun i i0 i1 => ?_, fun y hy => (zup_n e (by omega)).trans (h.2 y (by omega))⟩
  by_cases z : i = n
  · rw [z, zup_s e, hv]
  · rw [zup_n e (by omega)]
    exact h.1 i i0 (by omega)
/-- a line's bytes (was of them, from b on) have become n of g; the file's end was at e -/
def zEf (M M2 : zMm) (a : Nat) (b was n e : Int) (g : Int → Int) : Prop := (∀ i, 0 ≤ i → i < n → M2 (a + 4) (b + i) = g i) ∧ (∀ x, b + was ≤ x → x < e → M2 (a + 4) (x + (n - was)) = M (a + 4) x) ∧ ∀ x, x < b ∨ e ≤ x ∧ e + (n - was) ≤ x → M2 (a + 4) x = M (a + 4) x
theorem zEf.mk {M Mx Mh M2 : zMm} {a : Nat} {b was n d e n2 : Int} {g : Int → Int} (h : zMv Mx M a (b + was) e d) (w : zWrw Mh Mx a b n2 g) (e2 : ∀ j, M2 (a + 4) j = Mh (a + 4) j) (hd : d = n - was) (hn : n2 = n) (h0 : 0 ≤ was ∧ 0 ≤ n ∧ b + was ≤ e) : zEf M M2 a b was n e g := by
  subst hd hn
  refine ⟨fun i i0 i1 => (e2 _).trans (w.1 i i0 i1), fun x x0 x1 => ?_, fun x hx => ?_⟩
  · rw [e2, w.2 _ (by omega)]
    exact h.1 x x0 x1
  · rw [e2, w.2 _ (by omega)]
    exact h.2 x (by omega)
/-- images of the bytes -/
def zIb (M M0 : zMm) (a : Nat) (k n : Int) : Prop := ∀ j, M (a + 5) j = if 1690 * k ≤ j ∧ j < 1690 * k + n then M0 (a + 4) (j - 1690 * k) else M0 (a + 5) j
theorem zIb.zero {M M0 : zMm} {a : Nat} {k n : Int} (e : ∀ j, M (a + 5) j = M0 (a + 5) j) (hn : n = 0) : zIb M M0 a k n := fun j => by
  rw [if_neg (by omega)]
  exact e j
theorem zIb.cg {M M0 M2 : zMm} {a : Nat} {k n n2 : Int} (h : zIb M M0 a k n) (e : ∀ j, M2 (a + 5) j = M (a + 5) j) (hn : n = n2) : zIb M2 M0 a k n2 := fun j => by
  subst hn
  exact (e j).trans (h j)
theorem zIb.step {M M0 M2 : zMm} {a : Nat} {k n x v : Int} (h : zIb M M0 a k n) (e : M2 = zup M (a + 5) x v) (hx : x = 1690 * k + n) (hv : v = M0 (a + 4) n) (n0 : 0 ≤ n) : zIb M2 M0 a k (n + 1) := fun j => by
  subst hx hv
  by_cases q : j = 1690 * k + n
  · subst q
    rw [zup_s e, if_pos (by omega), show 1690 * k + n - 1690 * k = n by omega]
  · rw [zup_n e (by omega), h j]
    by_cases q2 : 1690 * k ≤ j ∧ j < 1690 * k + n
    · rw [if_pos q2, if_pos (by omega)]
    · rw [if_neg q2, if_neg (by omega)]
def zRb (M M0 : zMm) (a : Nat) (k n : Int) : Prop := ∀ j, M (a + 4) j = if 0 ≤ j ∧ j < n then M0 (a + 5) (1690 * k + j) else M0 (a + 4) j
theorem zRb.zero {M M0 : zMm} {a : Nat} {k n : Int} (e : ∀ j, M (a + 4) j = M0 (a + 4) j) (hn : n = 0) : zRb M M0 a k n := fun j => by
  rw [if_neg (by omega)]
  exact e j
theorem zRb.cg {M M0 M2 : zMm} {a : Nat} {k n n2 : Int} (h : zRb M M0 a k n) (e : ∀ j, M2 (a + 4) j = M (a + 4) j) (hn : n = n2) : zRb M2 M0 a k n2 := fun j => by
  subst hn
  exact (e j).trans (h j)
theorem zRb.step {M M0 M2 : zMm} {a : Nat} {k n x v : Int} (h : zRb M M0 a k n) (e : M2 = zup M (a + 4) x v) (hx : x = n) (hv : v = M0 (a + 5) (1690 * k + n)) (n0 : 0 ≤ n) : zRb M2 M0 a k (n + 1) := fun j => by
  subst hx hv
  by_cases q : j = x
  · subst q
    rw [zup_s e, if_pos (by omega)]
  · rw [zup_n e (by omega), h j]
    by_cases q2 : 0 ≤ j ∧ j < x
    · rw [if_pos q2, if_pos (by omega)]
    · rw [if_neg q2, if_neg (by omega)]
/-! ===== the reference: what a line is of a group ===== -/
/-- the place of the # -/
def zHsw (h : Int → Int) (n x : Int) : Prop := ∃ i0, zFst (fun q => h q = 32) n 0 i0 ∧ ((i0 < n ∧ h i0 = 35 ∧ (i0 + 1 = n ∨ h (i0 + 1) ≠ 35)) ∧ x = i0 ∨ ¬ (i0 < n ∧ h i0 = 35 ∧ (i0 + 1 = n ∨ h (i0 + 1) ≠ 35)) ∧ x = -1)
theorem zHsw.of {g : Int → Int} {s n i x : Int} (h0 : 0 ≤ i ∧ i ≤ n) (h1 : ∀ q, 0 ≤ q → q < i → g (s + q) = 32) (h2 : i = n ∨ g (s + i) ≠ 32) (hx : (i < n ∧ g (s + i) = 35 ∧ (i + 1 = n ∨ g (s + i + 1) ≠ 35)) ∧ x = i ∨ ¬ (i < n ∧ g (s + i) = 35 ∧ (i + 1 = n ∨ g (s + i + 1) ≠ 35)) ∧ x = -1) : zHsw (zLb g s n) n x := by
  refine ⟨i, ⟨by omega, fun q q0 q1 => ?_, ?_⟩, ?_⟩
  · show zLb g s n q = 32
    rw [zLb_at (by omega)]
    exact h1 q q0 q1
  · by_cases z : i = n
    · exact Or.inl z
    · refine Or.inr ?_
      show ¬ zLb g s n i = 32
      rw [zLb_at (by omega)]
      exact h2.resolve_left z
  · by_cases z : i < n
    · rw [zLb_at (by omega)]
      by_cases z2 : i + 1 = n
      · omega
      · rw [zLb_at (q := i + 1) (by omega), show s + (i + 1) = s + i + 1 by omega]
        exact hx
    · refine Or.inr ⟨fun q => z q.1, by omega⟩
/-- the words of the reference's table: where they begin, how long they are -/
def zWa0 (w : Int) : Int := if w = 0 then 0 else if w = 1 then 7 else if w = 2 then 13 else if w = 3 then 21 else if w = 4 then 24 else if w = 5 then 30 else if w = 6 then 37 else if w = 7 then 42 else 47
def zWl0 (w : Int) : Int := if w = 0 then 6 else if w = 1 then 5 else if w = 2 then 7 else if w = 3 then 2 else if w = 4 then 5 else if w = 5 then 6 else if w = 6 then 4 else if w = 7 then 4 else 5
def zMtw (g : Int → Int) (b n w : Int) : Prop := n = zWl0 w ∧ ∀ j, 0 ≤ j → j < n → g (b + j) = zStt 201 (zWa0 w + j)
def zWi (g : Int → Int) (b n x : Int) : Prop := x = -1 ∧ (∀ w, 0 ≤ w → w < 9 → ¬ zMtw g b n w) ∨ (0 ≤ x ∧ x < 9) ∧ zMtw g b n x ∧ ∀ w, 0 ≤ w → w < x → ¬ zMtw g b n w
/-- of the table's bytes: which word a byte is of, its place there; 32 parts the words -/
theorem zWt_b : ∀ w : Int, 0 ≤ w → w < 9 → zStt 201 (zWa0 w + zWl0 w) = 32 := fun w w0 w1 => by
  rcases (show w = 0 ∨ w = 1 ∨ w = 2 ∨ w = 3 ∨ w = 4 ∨ w = 5 ∨ w = 6 ∨ w = 7 ∨ w = 8 by omega) with rfl | rfl | rfl | rfl | rfl | rfl | rfl | rfl | rfl <;> decide
theorem zWt_n : ∀ i : Int, 0 ≤ i → i < 53 → zStt 201 i = 32 → i = 6 ∨ i = 12 ∨ i = 20 ∨ i = 23 ∨ i = 29 ∨ i = 36 ∨ i = 41 ∨ i = 46 ∨ i = 52 := fun i i0 i1 h => by
  have key : ∀ n : Nat, n < 53 → zStt 201 n = 32 → n = 6 ∨ n = 12 ∨ n = 20 ∨ n = 23 ∨ n = 29 ∨ n = 36 ∨ n = 41 ∨ n = 46 ∨ n = 52 := by decide
  have := key i.toNat (by omega) (by rw [show ((i.toNat : Nat) : Int) = i by omega]; exact h)
  omega
/-- while the table is read: at byte i, w words are behind, k bytes of the next; z: so far it is so -/
def zWq (g : Int → Int) (b n i w k z : Int) : Prop := (0 ≤ w ∧ w ≤ 9 ∧ 0 ≤ k ∧ (z = 0 ∨ z = 1)) ∧ (w < 9 ∧ i = zWa0 w + k ∧ k ≤ zWl0 w ∨ w = 9 ∧ i = 53 ∧ k = 0) ∧ (∀ v, 0 ≤ v → v < w → ¬ zMtw g b n v) ∧ (z = 1 → k ≤ n ∧ ∀ j, 0 ≤ j → j < k → g (b + j) = zStt 201 (zWa0 w + j)) ∧ (z = 0 → ¬ (k ≤ n ∧ ∀ j, 0 ≤ j → j < k → g (b + j) = zStt 201 (zWa0 w + j)))
theorem zWl_r {w : Int} (h : 0 ≤ w ∧ w < 9) : (w = 0 ∧ zWa0 w = 0 ∧ zWl0 w = 6) ∨ (w = 1 ∧ zWa0 w = 7 ∧ zWl0 w = 5) ∨ (w = 2 ∧ zWa0 w = 13 ∧ zWl0 w = 7) ∨ (w = 3 ∧ zWa0 w = 21 ∧ zWl0 w = 2) ∨ (w = 4 ∧ zWa0 w = 24 ∧ zWl0 w = 5) ∨ (w = 5 ∧ zWa0 w = 30 ∧ zWl0 w = 6) ∨ (w = 6 ∧ zWa0 w = 37 ∧ zWl0 w = 4) ∨ (w = 7 ∧ zWa0 w = 42 ∧ zWl0 w = 4) ∨ (w = 8 ∧ zWa0 w = 47 ∧ zWl0 w = 5) := by
  rcases (show w = 0 ∨ w = 1 ∨ w = 2 ∨ w = 3 ∨ w = 4 ∨ w = 5 ∨ w = 6 ∨ w = 7 ∨ w = 8 by omega) with rfl | rfl | rfl | rfl | rfl | rfl | rfl | rfl | rfl <;> decide
theorem zWq.nil {g : Int → Int} {b n i w k z : Int} (hn : 0 ≤ n) (h : i = 0 ∧ w = 0 ∧ k = 0 ∧ z = 1) : zWq g b n i w k z := by
  obtain ⟨rfl, rfl, rfl, rfl⟩ := h
  exact ⟨by omega, Or.inl (by decide), fun v v0 v1 => by omega, fun _ => ⟨hn, fun j j0 j1 => by omega⟩, fun q => by omega⟩
theorem zWq.at {g : Int → Int} {b n i w k z : Int} (h : zWq g b n i w k z) (hi : i < 53) : (w < 9 ∧ i = zWa0 w + k ∧ k ≤ zWl0 w) ∧ (zStt 201 i = 32 → k = zWl0 w) ∧ (k = zWl0 w → zStt 201 i = 32) := by
  have h2 : w < 9 ∧ i = zWa0 w + k ∧ k ≤ zWl0 w := by
    rcases h.2.1 with q | q
    · exact q
    · omega
  have h1 := h.1
  refine ⟨h2, fun q => ?_, fun q => by rw [h2.2.1, q]; exact zWt_b w h1.1 h2.1⟩
  have h3 := zWt_n i (by have := zWl_r (w := w) ⟨h1.1, h2.1⟩; omega) hi q
  have h4 := zWl_r (w := w) ⟨h1.1, h2.1⟩
  omega
theorem zWq.hit {g : Int → Int} {b n i w k z : Int} (h : zWq g b n i w k z) (hi : i < 53) (hb : zStt 201 i = 32) (hz : z = 1) (hk : k = n) : zWi g b n w := by
  obtain ⟨⟨h1, h2, h3⟩, h4, h5⟩ := h.at hi
  have h0 := h.1
  have e := h4 hb
  exact Or.inr ⟨by omega, ⟨by omega, fun j j0 j1 => ((h.2.2.2.1 hz).2 j j0 (by omega))⟩, h.2.2.1⟩
theorem zWq.next {g : Int → Int} {b n i w k z i2 w2 k2 z2 : Int} (h : zWq g b n i w k z) (hi : i < 53) (hb : zStt 201 i = 32) (hz : z = 0 ∨ k ≠ n) (h2 : i2 = i + 1 ∧ w2 = w + 1 ∧ k2 = 0 ∧ z2 = 1) (hn : 0 ≤ n) : zWq g b n i2 w2 k2 z2 := by
  obtain ⟨rfl, rfl, rfl, rfl⟩ := h2
  obtain ⟨⟨h1, h2, h3⟩, h4, h5⟩ := h.at hi
  have h0 := h.1
  have e := h4 hb
  have l1 := zWl_r (w := w) (by omega)
  refine ⟨by omega, ?_, fun v v0 v1 => ?_, fun _ => ⟨hn, fun j j0 j1 => by omega⟩, fun q => by omega⟩
  · by_cases z8 : w = 8
    · exact Or.inr (by omega)
    · have l2 := zWl_r (w := w + 1) (by omega)
      exact Or.inl (by omega)
  · by_cases zv : v = w
    · subst zv
      rintro ⟨m1, m2⟩
      rcases hz with hz | hz
      · exact h.2.2.2.2 hz ⟨by omega, fun j j0 j1 => m2 j j0 (by omega)⟩
      · omega
    · exact h.2.2.1 v v0 (by omega)
theorem zWq.byte {g : Int → Int} {b n i w k z i2 k2 z2 : Int} (h : zWq g b n i w k z) (hi : i < 53) (hb : zStt 201 i ≠ 32) (h2 : i2 = i + 1 ∧ k2 = k + 1) (hz : (z = 1 ∧ k < n ∧ g (b + k) = zStt 201 i) ∧ z2 = 1 ∨ ¬ (z = 1 ∧ k < n ∧ g (b + k) = zStt 201 i) ∧ z2 = 0) : zWq g b n i2 w k2 z2 := by
  obtain ⟨rfl, rfl⟩ := h2
  obtain ⟨⟨h1, h2, h3⟩, h4, h5⟩ := h.at hi
  have h0 := h.1
  have e : k ≠ zWl0 w := fun q => hb (h5 q)
  refine ⟨by omega, Or.inl (by omega), h.2.2.1, fun q => ?_, fun q => ?_⟩
  · have hz1 := hz.resolve_right (fun r => by omega)
    obtain ⟨⟨r1, r2, r3⟩, _⟩ := hz1
    refine ⟨by omega, fun j j0 j1 => ?_⟩
    by_cases zj : j = k
    · rw [zj, r3, h2]
    · exact (h.2.2.2.1 r1).2 j j0 (by omega)
  · rintro ⟨m1, m2⟩
    have hz0 := (hz.resolve_left (fun r => by omega)).1
    have m3 := m2 k (by omega) (by omega)
    rw [← h2] at m3
    by_cases zz : z = 1
    · exact hz0 ⟨zz, by omega, m3⟩
    · exact h.2.2.2.2 (by omega) ⟨by omega, fun j j0 j1 => m2 j j0 (by omega)⟩
theorem zWq.fin {g : Int → Int} {b n i w k z : Int} (h : zWq g b n i w k z) (hi : 53 ≤ i) : zWi g b n (-1) := by
  have h0 := h.1
  refine Or.inl ⟨rfl, fun v v0 v1 => h.2.2.1 v v0 ?_⟩
  rcases h.2.1 with ⟨q1, q2, q3⟩ | q
  · have := zWl_r (w := w) (by omega)
    omega
  · omega
theorem zWx_t : (∀ j : Int, 0 ≤ j → j < 2 → zTxc 1 j = zStt 201 (21 + j)) ∧ (∀ j : Int, 0 ≤ j → j < 5 → zTxc 2 j = zStt 201 (24 + j)) ∧ (∀ j : Int, 0 ≤ j → j < 6 → zTxc 3 j = zStt 201 (30 + j)) ∧ (∀ j : Int, 0 ≤ j → j < 4 → zTxc 4 j = zStt 201 (37 + j)) ∧ (∀ j : Int, 0 ≤ j → j < 4 → zTxc 5 j = zStt 201 (42 + j)) ∧ ∀ j : Int, 0 ≤ j → j < 5 → zTxc 6 j = zStt 201 (47 + j) := by
  refine ⟨fun j j0 j1 => ?_, fun j j0 j1 => ?_, fun j j0 j1 => ?_, fun j j0 j1 => ?_, fun j j0 j1 => ?_, fun j j0 j1 => ?_⟩
  · rcases (show j = 0 ∨ j = 1 by omega) with rfl | rfl <;> decide
  · rcases (show j = 0 ∨ j = 1 ∨ j = 2 ∨ j = 3 ∨ j = 4 by omega) with rfl | rfl | rfl | rfl | rfl <;> decide
  · rcases (show j = 0 ∨ j = 1 ∨ j = 2 ∨ j = 3 ∨ j = 4 ∨ j = 5 by omega) with rfl | rfl | rfl | rfl | rfl | rfl <;> decide
  · rcases (show j = 0 ∨ j = 1 ∨ j = 2 ∨ j = 3 by omega) with rfl | rfl | rfl | rfl <;> decide
  · rcases (show j = 0 ∨ j = 1 ∨ j = 2 ∨ j = 3 by omega) with rfl | rfl | rfl | rfl <;> decide
  · rcases (show j = 0 ∨ j = 1 ∨ j = 2 ∨ j = 3 ∨ j = 4 by omega) with rfl | rfl | rfl | rfl | rfl <;> decide
theorem zTxl_v : (zTxl.getD 1 0 = 2 ∧ zTxl.getD 2 0 = 5 ∧ zTxl.getD 3 0 = 6) ∧ zTxl.getD 4 0 = 4 ∧ zTxl.getD 5 0 = 4 ∧ zTxl.getD 6 0 = 5 := by decide
theorem zWo_mt {h : Int → Int} {a b : Int} {k : Nat} {w L S : Int} (hL : ((zTxl.getD k 0 : Nat) : Int) = L) (hw : zWl0 w = L ∧ zWa0 w = S) (ht : ∀ j : Int, 0 ≤ j → j < L → zTxc k j = zStt 201 (S + j)) : zWo h a b k ↔ zMtw h a (b - a) w := by
  obtain ⟨w1, w2⟩ := hw
  subst w1 w2
  constructor
  · rintro ⟨h1, h2⟩
    exact ⟨by omega, fun j j0 j1 => by rw [h2 j j0 j1, ht j j0 (by omega)]⟩
  · rintro ⟨h1, h2⟩
    exact ⟨by omega, fun j j0 j1 => by rw [h2 j j0 j1, ht j j0 (by omega)]⟩
/-- by the reference's word, what the line is -/
theorem zRc.wi {h : Int → Int} {a b x r : Int} (hx : zWi h a (b - a) x) (hr : (x = 3 ∨ x = 4 ∨ x = 5) ∧ r = 1 ∨ x = 6 ∧ r = 2 ∨ x = 7 ∧ r = 3 ∨ x = 8 ∧ r = 4 ∨ (x < 3 ∨ 8 < x) ∧ r = 0) : zRc h a b r := by
  obtain ⟨⟨t1, t2, t3⟩, t4, t5, t6⟩ := zTxl_v
  obtain ⟨c1, c2, c3, c4, c5, c6⟩ := zWx_t
  have w1 : zWo h a b 1 ↔ zMtw h a (b - a) 3 := zWo_mt (L := 2) (S := 21) (by rw [t1]; rfl) (by decide) c1
  have w2 : zWo h a b 2 ↔ zMtw h a (b - a) 4 := zWo_mt (L := 5) (S := 24) (by rw [t2]; rfl) (by decide) c2
  have w3 : zWo h a b 3 ↔ zMtw h a (b - a) 5 := zWo_mt (L := 6) (S := 30) (by rw [t3]; rfl) (by decide) c3
  have w4 : zWo h a b 4 ↔ zMtw h a (b - a) 6 := zWo_mt (L := 4) (S := 37) (by rw [t4]; rfl) (by decide) c4
  have w5 : zWo h a b 5 ↔ zMtw h a (b - a) 7 := zWo_mt (L := 4) (S := 42) (by rw [t5]; rfl) (by decide) c5
  have w6 : zWo h a b 6 ↔ zMtw h a (b - a) 8 := zWo_mt (L := 5) (S := 47) (by rw [t6]; rfl) (by decide) c6
  unfold zRc
  rw [w1, w2, w3, w4, w5, w6]
  have no : ∀ v u : Int, zWl0 v ≠ zWl0 u → zMtw h a (b - a) v → ¬ zMtw h a (b - a) u := fun v u ne p q => ne (p.1.symm.trans q.1)
  have no2 : ∀ v u j : Int, 0 ≤ j → j < zWl0 v → zStt 201 (zWa0 v + j) ≠ zStt 201 (zWa0 u + j) → zMtw h a (b - a) v → ¬ zMtw h a (b - a) u := fun v u j j0 j1 ne p q => ne ((p.2 j j0 (by have := p.1; omega)).symm.trans (q.2 j j0 (by have := p.1; omega)))
  have all : ∀ (p3 : ¬ zMtw h a (b - a) 3) (p4 : ¬ zMtw h a (b - a) 4) (p5 : ¬ zMtw h a (b - a) 5), ¬ (zMtw h a (b - a) 3 ∨ zMtw h a (b - a) 4 ∨ zMtw h a (b - a) 5) := fun p3 p4 p5 q => q.elim p3 (fun q => q.elim p4 p5)
  rcases hx with ⟨x1, x2⟩ | ⟨x1, x2, x3⟩
  · have r0 : r = 0 := by omega
    exact Or.inr ⟨all (x2 3 (by omega) (by omega)) (x2 4 (by omega) (by omega)) (x2 5 (by omega) (by omega)), Or.inr ⟨x2 6 (by omega) (by omega), Or.inr ⟨x2 7 (by omega) (by omega), Or.inr ⟨x2 8 (by omega) (by omega), r0⟩⟩⟩⟩
  · rcases (show x = 0 ∨ x = 1 ∨ x = 2 ∨ x = 3 ∨ x = 4 ∨ x = 5 ∨ x = 6 ∨ x = 7 ∨ x = 8 by omega) with rfl | rfl | rfl | rfl | rfl | rfl | rfl | rfl | rfl
    · exact Or.inr ⟨all (no 0 3 (by decide) x2) (no 0 4 (by decide) x2) (no2 0 5 0 (by decide) (by decide) (by decide) x2), Or.inr ⟨no 0 6 (by decide) x2, Or.inr ⟨no 0 7 (by decide) x2, Or.inr ⟨no 0 8 (by decide) x2, by omega⟩⟩⟩⟩
    · exact Or.inr ⟨all (no 1 3 (by decide) x2) (no2 1 4 0 (by decide) (by decide) (by decide) x2) (no 1 5 (by decide) x2), Or.inr ⟨no 1 6 (by decide) x2, Or.inr ⟨no 1 7 (by decide) x2, Or.inr ⟨no2 1 8 0 (by decide) (by decide) (by decide) x2, by omega⟩⟩⟩⟩
    · exact Or.inr ⟨all (no 2 3 (by decide) x2) (no 2 4 (by decide) x2) (no 2 5 (by decide) x2), Or.inr ⟨no 2 6 (by decide) x2, Or.inr ⟨no 2 7 (by decide) x2, Or.inr ⟨no 2 8 (by decide) x2, by omega⟩⟩⟩⟩
    · exact Or.inl ⟨Or.inl x2, by omega⟩
    · exact Or.inl ⟨Or.inr (Or.inl x2), by omega⟩
    · exact Or.inl ⟨Or.inr (Or.inr x2), by omega⟩
    · exact Or.inr ⟨all (x3 3 (by omega) (by omega)) (x3 4 (by omega) (by omega)) (x3 5 (by omega) (by omega)), Or.inl ⟨x2, by omega⟩⟩
    · exact Or.inr ⟨all (x3 3 (by omega) (by omega)) (x3 4 (by omega) (by omega)) (x3 5 (by omega) (by omega)), Or.inr ⟨x3 6 (by omega) (by omega), Or.inl ⟨x2, by omega⟩⟩⟩
    · exact Or.inr ⟨all (x3 3 (by omega) (by omega)) (x3 4 (by omega) (by omega)) (x3 5 (by omega) (by omega)), Or.inr ⟨x3 6 (by omega) (by omega), Or.inr ⟨x3 7 (by omega) (by omega), Or.inl ⟨x2, by omega⟩⟩⟩⟩
theorem zRole.hn {h : Int → Int} {n x : Int} (p : zHsw h n x) (hx : x < 0) : zRole h n 0 := by
  obtain ⟨i0, p1, p2⟩ := p
  have b := p1.1
  have q := (p2.resolve_left (fun z => by omega)).1
  by_cases z : i0 = n ∨ h i0 ≠ 35
  · exact ⟨i0, p1, Or.inl ⟨z, rfl⟩⟩
  · have e1 : i0 < n ∧ h i0 = 35 := by omega
    have e2 : i0 + 1 < n ∧ h (i0 + 1) = 35 := by omega
    have w0 : ∀ k : Nat, 1 ≤ k → k < 7 → ¬ zWo h (i0 + 1) (i0 + 1) k := fun k k1 k2 q => by
      have q1 := q.1
      obtain ⟨⟨t1, t2, t3⟩, t4, t5, t6⟩ := zTxl_v
      rcases (show k = 1 ∨ k = 2 ∨ k = 3 ∨ k = 4 ∨ k = 5 ∨ k = 6 by omega) with rfl | rfl | rfl | rfl | rfl | rfl <;> omega
    refine ⟨i0, p1, Or.inr ⟨e1, i0 + 1, i0 + 1, ⟨by omega, fun q q0 q1 => by omega, Or.inr ?_⟩, ⟨by omega, fun q q0 q1 => by omega, Or.inr ?_⟩, Or.inr ⟨fun q => q.elim (w0 1 (by omega) (by omega)) (fun q => q.elim (w0 2 (by omega) (by omega)) (w0 3 (by omega) (by omega))), Or.inr ⟨w0 4 (by omega) (by omega), Or.inr ⟨w0 5 (by omega) (by omega), Or.inr ⟨w0 6 (by omega) (by omega), rfl⟩⟩⟩⟩⟩⟩
    · show ¬ h (i0 + 1) = 32
      omega
    · show ¬ zWd (h (i0 + 1)) = 1
      rw [e2.2]
      decide
theorem zMtw.lb {g : Int → Int} {s n a m w : Int} (h : 0 ≤ a ∧ a + m ≤ n) : zMtw g (s + a) m w ↔ zMtw (zLb g s n) a m w := by
  constructor
  · rintro ⟨h1, h2⟩
    exact ⟨h1, fun j j0 j1 => by rw [zLb_at (by omega), show s + (a + j) = s + a + j by omega]; exact h2 j j0 j1⟩
  · rintro ⟨h1, h2⟩
    refine ⟨h1, fun j j0 j1 => ?_⟩
    have := h2 j j0 j1
    rw [zLb_at (by omega), show s + (a + j) = s + a + j by omega] at this
    exact this
theorem zWi.lb {g : Int → Int} {s n a m x : Int} (h : 0 ≤ a ∧ a + m ≤ n) (p : zWi g (s + a) m x) : zWi (zLb g s n) a m x := by
  rcases p with ⟨p1, p2⟩ | ⟨p1, p2, p3⟩
  · exact Or.inl ⟨p1, fun w w0 w1 q => p2 w w0 w1 ((zMtw.lb h).mpr q)⟩
  · exact Or.inr ⟨p1, (zMtw.lb h).mp p2, fun w w0 w1 q => p3 w w0 w1 ((zMtw.lb h).mpr q)⟩
theorem zRole.w {g : Int → Int} {s n i j e x r : Int} (p : zHsw (zLb g s n) n i) (hi : 0 ≤ i) (h1 : ∀ q, i + 1 ≤ q → q < j → g (s + q) = 32) (h2 : j = n ∨ g (s + j) ≠ 32) (h3 : ∀ q, j ≤ q → q < e → zWd (g (s + q)) = 1) (h4 : e = n ∨ zWd (g (s + e)) = 0) (hb : i + 1 ≤ j ∧ j ≤ e ∧ e ≤ n) (hw : zWi g (s + j) (e - j) x) (hr : (x = 3 ∨ x = 4 ∨ x = 5) ∧ r = 1 ∨ x = 6 ∧ r = 2 ∨ x = 7 ∧ r = 3 ∨ x = 8 ∧ r = 4 ∨ (x < 3 ∨ 8 < x) ∧ r = 0) : zRole (zLb g s n) n r := by
  obtain ⟨i0, p1, p2⟩ := p
  obtain ⟨⟨q1, q2, q3⟩, rfl⟩ := p2.resolve_right (fun z => by omega)
  refine ⟨i, p1, Or.inr ⟨⟨q1, q2⟩, j, e, ⟨by omega, fun q q0 q1 => ?_, ?_⟩, ⟨by omega, fun q q0 q1 => ?_, ?_⟩, zRc.wi (hw.lb (by omega)) hr⟩⟩
  · show zLb g s n q = 32
    rw [zLb_at (by omega)]
    exact h1 q q0 q1
  · by_cases z : j = n
    · exact Or.inl z
    · refine Or.inr ?_
      show ¬ zLb g s n j = 32
      rw [zLb_at (by omega)]
      exact h2.resolve_left z
  · show zWd (zLb g s n q) = 1
    rw [zLb_at (by omega)]
    exact h3 q q0 q1
  · by_cases z : e = n
    · exact Or.inl z
    · refine Or.inr ?_
      show ¬ zWd (zLb g s n e) = 1
      rw [zLb_at (by omega)]
      have := h4.resolve_left z
      omega

theorem c_X12_file_w {w : zWp} {T : zTl} {M : zMm} {J : zJm} {R : zRm'} {G : zGt} {F : zRm'} {a : Nat} (hI : zI G M) (hF : zF F R) (h0 : zModel T F G a) (v1 : Int) (p1 : zFi M a) (p2 : -2147483648 ≤ v1 ∧ v1 ≤ 2147483647) : zCt w 3 0 0 yX12_file cX12_file 7 (some .int) [.ref (w.2.1 + a), zi v1] (T, M, J, R) (zPi T R G (fun x M2 => (zMd a [2, 4] [0, 2, 3, 9] [] M M2) ∧ (zFi M2 a) ∧ (M2 a 2 = 0) ∧ (zFA (M (a + 1)) (M a 2) v1 x) ∧ (0 ≤ x → zNg M2 M a v1 x (fun l => zCn (M (a + 1)) l (M a 2).toNat) 40) ∧ (x < 0 → ∀ j, M2 (a + 2) j = M (a + 2) j) ∧ (0 ≤ x → zNb M2 M a v1 (M a 2) (M (a + 1))) ∧ (x < 0 → ∀ j, M2 (a + 4) j = M (a + 4) j))) := by
  refine zCt.of rfl (Nat.le_of_ble_eq_true rfl) ?_
  intro p e s m args below meth c C
  obtain ⟨Po, hPo⟩ : ∃ Po, Po = zPi T R G (fun x M2 => (zMd a [2, 4] [0, 2, 3, 9] [] M M2) ∧ (zFi M2 a) ∧ (M2 a 2 = 0) ∧ (zFA (M (a + 1)) (M a 2) v1 x) ∧ (0 ≤ x → zNg M2 M a v1 x (fun l => zCn (M (a + 1)) l (M a 2).toNat) 40) ∧ (x < 0 → ∀ j, M2 (a + 2) j = M (a + 2) j) ∧ (0 ≤ x → zNb M2 M a v1 (M a 2) (M (a + 1))) ∧ (x < 0 → ∀ j, M2 (a + 4) j = M (a + 4) j)) := ⟨_, rfl⟩
  rw [← hPo]
  have hK0 : zMd a [2, 4] [0, 2, 3, 9] [] M M := zMd.rf
  have gk_length := zI.at hI (zM5 h0)
  have gk_size := zI.at hI (zM6 h0)
  show zK w p e 3 0 0 s m args below meth c 7 T Po 0 [.ref (w.2.1 + a), zi v1, .null, .null, .null, .null, .null] [] (T, M, J, R)
  refine q_aload_n C dX12_file_0 (n := 1) rfl rfl ?_
  refine q_callVv C dX12_file_1 (n := 4) rfl m_X12_293 v_yX12_taken (zM0 h0) ⟨by decide, rfl⟩ (c_X12_taken (w := w) (J := J) hI hF h0) (Nat.le_of_ble_eq_true rfl) rfl rfl (Nat.le_of_ble_eq_true rfl) ⟨Nat.le_refl _, Nat.le_refl _⟩ (fun M3 J4  hI5 h6 => ?_)
  obtain ⟨hk7, h1, h2⟩ := h6
  have hK8 := hK0.tr hk7 rfl rfl rfl
  refine q_iload_n C dX12_file_4 (n := 5) rfl rfl ?_
  refine q_iconst C dX12_file_5 (n := 6) rfl ?_
  refine q_iconst C dX12_file_6 (n := 7) rfl ?_
  refine q_callSp C dX12_file_7 (n := 10) rfl m_X12_277 s_yX12_isIn (c_X12_isIn (w := w) (J := J4) hI5 hF v1 0 3 (by omega) (by omega) (by omega)) (Nat.le_of_ble_eq_true rfl) rfl rfl (Nat.le_of_ble_eq_true rfl) ⟨Nat.le_refl _, Nat.le_refl _⟩ (fun x12 h13 => ?_)
  obtain ⟨h9, h10, h11⟩ := h13
  refine q_if_ne C 16 dX12_file_10 (n := 13) rfl rfl (by omega) (fun h14 => ?_) (fun h14 => ?_)
  · refine q_aload_n C dX12_file_16 (n := 17) rfl rfl ?_
    have g15 := zI.at hI5 (zM6 h0)
    refine q_getI C dX12_file_17 (n := 20) rfl f_X12_274 (zM0 h0) (v := M3 a 3) rfl ?_
    refine q_sipush C dX12_file_20 (n := 23) rfl (x := 400) (by decide) ?_
    refine q_icmp_le C 29 dX12_file_23 (n := 26) rfl rfl (by omega) (fun h16 => ?_) (fun h16 => ?_)
    · refine q_aload_n C dX12_file_29 (n := 30) rfl rfl ?_
      refine q_iconst C dX12_file_30 (n := 31) rfl ?_
      refine q_callVp C dX12_file_31 (n := 34) rfl m_X12_296 v_yX12_badByte (zM0 h0) ⟨by decide, rfl⟩ (c_X12_badByte (w := w) (J := J4) hI5 hF h0 1 (by omega)) (Nat.le_of_ble_eq_true rfl) rfl rfl (Nat.le_of_ble_eq_true rfl) ⟨Nat.le_refl _, Nat.le_refl _⟩ (fun x19 h20 => ?_)
      obtain ⟨h17, h18⟩ := h20
      refine q_istore_n C [.ref (w.2.1 + a), zi v1, zi x19, .null, .null, .null, .null] dX12_file_34 (n := 35) rfl rfl rfl ?_
      refine q_iload_n C dX12_file_35 (n := 36) rfl rfl ?_
      refine q_if_lt C 45 dX12_file_36 (n := 39) rfl rfl (by omega) (fun h21 => ?_) (fun h21 => ?_)
      · have gz0 := zTen_0 (g := M (a + 1))
        refine q_iconst C dX12_file_45 (n := 46) rfl ?_
        refine q_istore_n C [.ref (w.2.1 + a), zi v1, zi x19, zi 0, .null, .null, .null] dX12_file_46 (n := 47) rfl rfl rfl ?_
        refine q_iconst C dX12_file_47 (n := 48) rfl ?_
        refine q_istore C [.ref (w.2.1 + a), zi v1, zi x19, zi 0, zi 0, .null, .null] dX12_file_48 (n := 50) rfl rfl rfl ?_
        have L_29 : ∀ n30 : Nat, ∀ (u22 : Int) (u23 : Int), (-2147483648 ≤ u22 ∧ u22 ≤ 2147483647) → (-2147483648 ≤ u23 ∧ u23 ≤ 2147483647) → (0 ≤ u23 ∧ u23 ≤ M a 2) → (u23 < M a 2 ∧ u22 = zTen (M (a + 1)) (u23 : Int).toNat ∨ u23 = M a 2 ∧ (u23 = 0 ∧ u22 = 0 ∨ 1 ≤ u23 ∧ u22 = zTen (M (a + 1)) (M a 2 - 1).toNat + 1)) → (0 ≤ u22 ∧ u22 ≤ u23) → (441 - u23 ≤ (n30 : Int)) → zK w p e 3 0 0 s m args below meth c 7 T Po 50 [.ref (w.2.1 + a), zi v1, .null, zi u22, zi u23, .null, .null] [] (T, M3, J4, R) := by
          intro n30
          induction n30 with
          | zero =>
            intro u22 u23 h24 h25 h26 h27 h28 hm32
            exfalso
            omega
          | succ n30 ih31 =>
            intro u22 u23 h24 h25 h26 h27 h28 hm32
            refine q_iload C dX12_file_50 (n := 52) rfl rfl ?_
            refine q_aload_n C dX12_file_52 (n := 53) rfl rfl ?_
            refine q_getI C dX12_file_53 (n := 56) rfl f_X12_274 (zM0 h0) (v := M3 a 3) rfl ?_
            refine q_icmp_ge C 96 dX12_file_56 (n := 59) rfl rfl (by omega) (fun h33 => ?_) (fun h33 => ?_)
            · refine q_iload_n C dX12_file_96 (n := 97) rfl rfl ?_
              refine q_bipush C dX12_file_97 (n := 99) rfl (x := 40) (by decide) ?_
              refine q_icmp_le C 105 dX12_file_99 (n := 102) rfl rfl (by omega) (fun h34 => ?_) (fun h34 => ?_)
              · refine q_aload_n C dX12_file_105 (n := 106) rfl rfl ?_
                refine q_iconst C dX12_file_106 (n := 107) rfl ?_
                refine q_putZ C dX12_file_107 (n := 110) rfl f_X12_300 (zM0 h0) ⟨rfl, rfl⟩ (by omega) (fun M35 (e36 : M35 = zup M3 a 9 0) => ?_)
                have hI37 : zI G M35 := hI5.put e36 (zM22 h0) rfl (by omega)
                have hK38 := hK8.upS e36 rfl
                refine q_aload_n C dX12_file_110 (n := 111) rfl rfl ?_
                refine q_getR C dX12_file_111 (n := 114) rfl f_X12_17 (zM0 h0) (hF _ _ _ (zM7 h0)) ?_
                refine q_iconst C dX12_file_114 (n := 115) rfl ?_
                refine q_iload_n C dX12_file_115 (n := 116) rfl rfl ?_
                refine q_iadd C dX12_file_116 (n := 117) rfl (v := 0 + v1) rfl ?_
                refine q_iconst C dX12_file_117 (n := 118) rfl ?_
                refine q_iast C dX12_file_118 (n := 119) rfl (zM8 h0) (by omega)  (fun M39 e40 => ?_)
                have hp41 : zFi M35 a := p1.cg (fun j => ((zup_p e36 (by omega) _).trans (hk7.getA rfl rfl rfl)))
                have hI42 : zI G M39 := hI37.put e40 (((zM9 h0) (0 + v1)).trans (zfG_0 (by omega))) rfl (by omega)
                have hK43 := hK38.upA e40 rfl
                refine q_aload_n C dX12_file_119 (n := 120) rfl rfl ?_
                refine q_getR C dX12_file_120 (n := 123) rfl f_X12_17 (zM0 h0) (hF _ _ _ (zM7 h0)) ?_
                refine q_iconst C dX12_file_123 (n := 124) rfl ?_
                refine q_iload_n C dX12_file_124 (n := 125) rfl rfl ?_
                refine q_iadd C dX12_file_125 (n := 126) rfl (v := 4 + v1) rfl ?_
                refine q_iload_n C dX12_file_126 (n := 127) rfl rfl ?_
                refine q_iast C dX12_file_127 (n := 128) rfl (zM8 h0) (by omega)  (fun M44 e45 => ?_)
                have hI46 : zI G M44 := hI42.put e45 (((zM9 h0) (4 + v1)).trans (zfG_4 (by omega))) rfl (by omega)
                have hK47 := hK43.upA e45 rfl
                refine q_iconst C dX12_file_128 (n := 129) rfl ?_
                refine q_istore C [.ref (w.2.1 + a), zi v1, .null, zi u22, zi 0, .null, .null] dX12_file_129 (n := 131) rfl rfl rfl ?_
                have L_59 : ∀ n60 : Nat, ∀ (u48 : Int) (M50 : zMm) (J51 : zJm), zI G M50 → zMd a [2, 4] [0, 2, 3, 9] [] M M50 → zMd a [2] [] [] M44 M50 → (-2147483648 ≤ u48 ∧ u48 ≤ 2147483647) → (0 ≤ u48 ∧ u48 ≤ 40) → (zFl M50 a v1 u48 0) → (zNg M50 M a v1 u22 (fun _ => 0) u48) → (41 - u48 ≤ (n60 : Int)) → zK w p e 3 0 0 s m args below meth c 7 T Po 131 [.ref (w.2.1 + a), zi v1, .null, zi u22, zi u48, .null, .null] [] (T, M50, J51, R) := by
                  intro n60
                  induction n60 with
                  | zero =>
                    intro u48 M50 J51 hI52 hK53 hK54 h55 h56 h57 h58 hm62
                    exfalso
                    omega
                  | succ n60 ih61 =>
                    intro u48 M50 J51 hI52 hK53 hK54 h55 h56 h57 h58 hm62
                    refine q_iload C dX12_file_131 (n := 133) rfl rfl ?_
                    refine q_bipush C dX12_file_133 (n := 135) rfl (x := 40) (by decide) ?_
                    refine q_icmp_ge C 160 dX12_file_135 (n := 138) rfl rfl (by omega) (fun h63 => ?_) (fun h63 => ?_)
                    · refine q_sipush C dX12_file_160 (n := 163) rfl (x := 400) (by decide) ?_
                      refine q_iload_n C dX12_file_163 (n := 164) rfl rfl ?_
                      refine q_imul C dX12_file_164 (n := 165) rfl (v := 400 * v1) rfl ?_
                      refine q_istore C [.ref (w.2.1 + a), zi v1, .null, zi u22, zi (400 * v1), .null, .null] dX12_file_165 (n := 167) rfl rfl rfl ?_
                      refine q_iconst C dX12_file_167 (n := 168) rfl ?_
                      refine q_istore C [.ref (w.2.1 + a), zi v1, .null, zi u22, zi (400 * v1), zi 0, .null] dX12_file_168 (n := 170) rfl rfl rfl ?_
                      refine q_iconst C dX12_file_170 (n := 171) rfl ?_
                      refine q_istore C [.ref (w.2.1 + a), zi v1, .null, zi u22, zi (400 * v1), zi 0, zi 0] dX12_file_171 (n := 173) rfl rfl rfl ?_
                      have L_84 : ∀ n85 : Nat, ∀ (u64 : Int) (u65 : Int) (u66 : Int) (M68 : zMm) (J69 : zJm), zI G M68 → zMd a [2, 4] [0, 2, 3, 9] [] M M68 → zMd a [2, 4] [] [] M50 M68 → (-2147483648 ≤ u64 ∧ u64 ≤ 2147483647) → (-2147483648 ≤ u65 ∧ u65 ≤ 2147483647) → (-2147483648 ≤ u66 ∧ u66 ≤ 2147483647) → (0 ≤ u66 ∧ u66 ≤ M a 2) → (u65 = zTen (M (a + 1)) (u66 : Int).toNat) → (0 ≤ u65 ∧ u65 ≤ u66) → (400 * v1 ≤ u64 ∧ u64 ≤ 400 * v1 + u66) → (zFl M68 a v1 40 (u64 - 400 * v1)) → (zNg M68 M a v1 u22 (fun l => zCn (M (a + 1)) l (u66 : Int).toNat) 40) → (u64 + u65 = 400 * v1 + u66) → (zNb M68 M a v1 u66 (M (a + 1))) → (441 - u66 ≤ (n85 : Int)) → zK w p e 3 0 0 s m args below meth c 7 T Po 173 [.ref (w.2.1 + a), zi v1, .null, zi u22, zi u64, zi u65, zi u66] [] (T, M68, J69, R) := by
                        intro n85
                        induction n85 with
                        | zero =>
                          intro u64 u65 u66 M68 J69 hI70 hK71 hK72 h73 h74 h75 h76 h77 h78 h79 h80 h81 h82 h83 hm87
                          exfalso
                          omega
                        | succ n85 ih86 =>
                          intro u64 u65 u66 M68 J69 hI70 hK71 hK72 h73 h74 h75 h76 h77 h78 h79 h80 h81 h82 h83 hm87
                          refine q_iload C dX12_file_173 (n := 175) rfl rfl ?_
                          refine q_aload_n C dX12_file_175 (n := 176) rfl rfl ?_
                          refine q_getI C dX12_file_176 (n := 179) rfl f_X12_274 (zM0 h0) (v := M3 a 3) ((hK72.getS rfl rfl).trans ((hK54.getS rfl rfl).trans ((zup_p e45 (by omega) _).trans ((zup_p e40 (by omega) _).trans (zup_n e36 (by omega)))))) ?_
                          refine q_icmp_ge C 242 dX12_file_179 (n := 182) rfl rfl (by omega) (fun h88 => ?_) (fun h88 => ?_)
                          · have hp89 : zFi M68 a := zFl.fi h80 (by omega) hI70 h0 (by omega)
                            refine q_iload_n C dX12_file_242 (n := 243) rfl rfl ?_
                            exact q_iret C dX12_file_243 ⟨rfl, rfl⟩ (by rw [hPo]; exact ⟨u22, M68, J69, rfl, rfl, hI70, hK71, hp89, by have hz90 : M68 a 2 = M3 a 2 := ((hK72.getS rfl rfl).trans ((hK54.getS rfl rfl).trans ((zup_p e45 (by omega) _).trans ((zup_p e40 (by omega) _).trans (zup_n e36 (by omega)))))); omega, (zFA.d (by omega) (by omega) (zWb.cg h18 (fun j => (hk7.getA rfl rfl rfl)) (by omega) (by omega)) (by omega) (show zLi (M (a + 1)) (M a 2) u22 from (by unfold zLi; omega)) (Or.inr ⟨by omega, rfl⟩)), (fun _ => zNg.c (zNg.cg h81 (fun j => rfl)) rfl rfl (fun l => by rw [show (u66 : Int) = M a 2 by omega])), (fun h => absurd h (by omega)), (fun _ => by rw [← (show (u66 : Int) = M a 2 by omega)]; exact zNb.cg h83 (fun j => rfl)), (fun h => absurd h (by omega))⟩)
                          · have gs2 := zTen_s (g := M (a + 1)) (i := u66) (by omega)
                            have gm2 := zTen_le (g := M (a + 1)) (i := u66) (j := M a 2 - 1) (by omega)
                            refine q_aload_n C dX12_file_182 (n := 183) rfl rfl ?_
                            refine q_getR C dX12_file_183 (n := 186) rfl f_X12_13 (zM0 h0) (hF _ _ _ (zM2 h0)) ?_
                            refine q_iload C dX12_file_186 (n := 188) rfl rfl ?_
                            have g91 := zI.at hI ((zM4 h0) u66)
                            refine q_bald C dX12_file_188 (n := 189) rfl (zM3 h0) (by omega) (v := M (a + 1) u66) ((hK72.getA rfl rfl rfl).trans ((hK54.getA rfl rfl rfl).trans ((zup_p e45 (by omega) _).trans ((zup_p e40 (by omega) _).trans ((zup_p e36 (by omega) _).trans (hk7.getA rfl rfl rfl)))))) ?_
                            have gt92 : M68 (a + 1) u66 = M (a + 1) u66 := ((hK72.getA rfl rfl rfl).trans ((hK54.getA rfl rfl rfl).trans ((zup_p e45 (by omega) _).trans ((zup_p e40 (by omega) _).trans ((zup_p e36 (by omega) _).trans (hk7.getA rfl rfl rfl))))))
                            refine q_bipush C dX12_file_189 (n := 191) rfl (x := 10) (by decide) ?_
                            refine q_icmp_ne C 200 dX12_file_191 (n := 194) rfl rfl (by omega) (fun h93 => ?_) (fun h93 => ?_)
                            · refine q_aload_n C dX12_file_200 (n := 201) rfl rfl ?_
                              refine q_getR C dX12_file_201 (n := 204) rfl f_X12_24 (zM0 h0) (hF _ _ _ (zM13 h0)) ?_
                              refine q_iload C dX12_file_204 (n := 206) rfl rfl ?_
                              refine q_aload_n C dX12_file_206 (n := 207) rfl rfl ?_
                              refine q_getR C dX12_file_207 (n := 210) rfl f_X12_13 (zM0 h0) (hF _ _ _ (zM2 h0)) ?_
                              refine q_iload C dX12_file_210 (n := 212) rfl rfl ?_
                              refine q_bald C dX12_file_212 (n := 213) rfl (zM3 h0) (by omega) (v := M (a + 1) u66) ((hK72.getA rfl rfl rfl).trans ((hK54.getA rfl rfl rfl).trans ((zup_p e45 (by omega) _).trans ((zup_p e40 (by omega) _).trans ((zup_p e36 (by omega) _).trans (hk7.getA rfl rfl rfl)))))) ?_
                              refine q_bast C dX12_file_213 (n := 214) rfl (zM14 h0) (by omega) (by omega) (fun M94 e95 => ?_)
                              have hI96 : zI G M94 := hI70.put e95 ((zM15 h0) u64) rfl (by omega)
                              have hK97 := hK71.upA e95 rfl
                              have hK98 := hK72.upA e95 rfl
                              refine q_iinc C [.ref (w.2.1 + a), zi v1, .null, zi u22, zi (u64 + 1), zi u65, zi u66] dX12_file_214 (n := 217) rfl rfl rfl rfl ?_
                              have gfe : M94 (a + 2) (8 + 40 * v1 + u65) = M68 (a + 2) (8 + 40 * v1 + u65) := (zup_p e95 (by omega) _)
                              have hp99 : zFl M94 a v1 40 (u64 - 400 * v1) := h80.cg (fun j => (zup_p e95 (by omega) _))
                              have gfl := zFl.le (j := u65) hp99 hI96 h0 (by omega) (by omega)
                              refine q_aload_n C dX12_file_217 (n := 218) rfl rfl ?_
                              refine q_getR C dX12_file_218 (n := 221) rfl f_X12_17 (zM0 h0) (hF _ _ _ (zM7 h0)) ?_
                              refine q_bipush C dX12_file_221 (n := 223) rfl (x := 8) (by decide) ?_
                              refine q_bipush C dX12_file_223 (n := 225) rfl (x := 40) (by decide) ?_
                              refine q_iload_n C dX12_file_225 (n := 226) rfl rfl ?_
                              refine q_imul C dX12_file_226 (n := 227) rfl (v := 40 * v1) rfl ?_
                              refine q_iadd C dX12_file_227 (n := 228) rfl (v := 8 + (40 * v1)) rfl ?_
                              refine q_iload C dX12_file_228 (n := 230) rfl rfl ?_
                              refine q_iadd C dX12_file_230 (n := 231) rfl (v := (8 + (40 * v1)) + u65) rfl ?_
                              refine q_dup2 C dX12_file_231 (n := 232) rfl ⟨rfl, rfl⟩ ?_
                              have g100 := zI.at hI70 (((zM9 h0) ((8 + (40 * v1)) + u65)).trans (zfG_8 (by omega)))
                              refine q_iald C dX12_file_232 (n := 233) rfl (zM8 h0) (by omega) (v := M68 (a + 2) ((8 + (40 * v1)) + u65)) (zup_p e95 (by omega) _) ?_
                              refine q_iconst C dX12_file_233 (n := 234) rfl ?_
                              refine q_iadd C dX12_file_234 (n := 235) rfl (v := (M68 (a + 2) ((8 + (40 * v1)) + u65)) + 1) rfl ?_
                              refine q_iast C dX12_file_235 (n := 236) rfl (zM8 h0) (by omega)  (fun M101 e102 => ?_)
                              have hI103 : zI G M101 := hI96.put e102 (((zM9 h0) ((8 + (40 * v1)) + u65)).trans (zfG_8 (by omega))) rfl (by omega)
                              have hK104 := hK97.upA e102 rfl
                              have hK105 := hK98.upA e102 rfl
                              refine q_iinc C [.ref (w.2.1 + a), zi v1, .null, zi u22, zi (u64 + 1), zi u65, zi (u66 + 1)] dX12_file_236 (n := 239) rfl rfl rfl rfl ?_
                              refine q_goto C 173 dX12_file_239 rfl ?_
                              exact zK.weak (ih86 (u64 + 1) u65 (u66 + 1) M101 J69 hI103 hK104 hK105 (by omega) (by omega) (by omega) (by omega) (by omega) (by omega) (by omega) (zFl.c (zFl.inc hp99 e102 (by omega) hI96 h0 (by omega) (by omega)) (by omega) (by omega)) (zNg.inc (zNg.cg h81 (fun j => (zup_p e95 (by omega) _))) e102 (by omega) (by omega) (by omega) (by omega) (by omega) (by omega)) (by omega) (zNb.cg (zNb.put h83 e95 (by omega) (by omega) (by omega)) (fun j => zup_p e102 (by omega) j)) (by omega)) (zwk_c (zwk_c (zwk_n (zwk_c (zwk_c (zwk_c (zwk_c zwk_e)))))))
                            · refine q_iinc C [.ref (w.2.1 + a), zi v1, .null, zi u22, zi u64, zi (u65 + 1), zi u66] dX12_file_194 (n := 197) rfl rfl rfl rfl ?_
                              refine q_goto C 236 dX12_file_197 rfl ?_
                              refine q_iinc C [.ref (w.2.1 + a), zi v1, .null, zi u22, zi u64, zi (u65 + 1), zi (u66 + 1)] dX12_file_236 (n := 239) rfl rfl rfl rfl ?_
                              refine q_goto C 173 dX12_file_239 rfl ?_
                              exact zK.weak (ih86 u64 (u65 + 1) (u66 + 1) M68 J69 hI70 hK71 hK72 (by omega) (by omega) (by omega) (by omega) (by omega) (by omega) (by omega) (zFl.c h80 (by omega) (by omega)) (zNg.ten h81 (by omega) (by omega)) (by omega) (zNb.ten h83 (by omega)) (by omega)) (zwk_c (zwk_c (zwk_n (zwk_c (zwk_c (zwk_c (zwk_c zwk_e)))))))
                      exact zK.weak (L_84 _ (400 * v1) 0 0 M50 J51 hI52 hK53 (zMd.rf : zMd a [2, 4] [] [] M50 M50) (by omega) (by omega) (by omega) (by omega) (by omega) (by omega) (by omega) (zFl.c h57 (by omega) (by omega)) (zNg.c (zNg.cg h58 (fun j => rfl)) rfl (by omega) (fun _ => rfl)) (by omega) (zNb.init (fun j => ((hK54.getA rfl rfl rfl).trans ((zup_p e45 (by omega) _).trans ((zup_p e40 (by omega) _).trans ((zup_p e36 (by omega) _).trans (hk7.getA rfl rfl rfl)))))) rfl) (Int.self_le_toNat _)) (zwk_c (zwk_c (zwk_n (zwk_c (zwk_c (zwk_c (zwk_c zwk_e)))))))
                    · refine q_aload_n C dX12_file_138 (n := 139) rfl rfl ?_
                      refine q_getR C dX12_file_139 (n := 142) rfl f_X12_17 (zM0 h0) (hF _ _ _ (zM7 h0)) ?_
                      refine q_bipush C dX12_file_142 (n := 144) rfl (x := 8) (by decide) ?_
                      refine q_bipush C dX12_file_144 (n := 146) rfl (x := 40) (by decide) ?_
                      refine q_iload_n C dX12_file_146 (n := 147) rfl rfl ?_
                      refine q_imul C dX12_file_147 (n := 148) rfl (v := 40 * v1) rfl ?_
                      refine q_iadd C dX12_file_148 (n := 149) rfl (v := 8 + (40 * v1)) rfl ?_
                      refine q_iload C dX12_file_149 (n := 151) rfl rfl ?_
                      refine q_iadd C dX12_file_151 (n := 152) rfl (v := (8 + (40 * v1)) + u48) rfl ?_
                      refine q_iconst C dX12_file_152 (n := 153) rfl ?_
                      refine q_iast C dX12_file_153 (n := 154) rfl (zM8 h0) (by omega)  (fun M106 e107 => ?_)
                      have hI108 : zI G M106 := hI52.put e107 (((zM9 h0) ((8 + (40 * v1)) + u48)).trans (zfG_8 (by omega))) rfl (by omega)
                      have hK109 := hK53.upA e107 rfl
                      have hK110 := hK54.upA e107 rfl
                      refine q_iinc C [.ref (w.2.1 + a), zi v1, .null, zi u22, zi (u48 + 1), .null, .null] dX12_file_154 (n := 157) rfl rfl rfl rfl ?_
                      refine q_goto C 131 dX12_file_157 rfl ?_
                      exact zK.weak (ih61 (u48 + 1) M106 J51 hI108 hK109 hK110 (by omega) (by omega) (zFl.c (zFl.clr h57 e107 hI52 h0 (by omega) (by omega)) (by omega) (by omega)) (zNg.clr h58 e107 (by omega) (by omega)) (by omega)) (zwk_c (zwk_c (zwk_n (zwk_c (zwk_c (zwk_n (zwk_n zwk_e)))))))
                exact zK.weak (L_59 _ 0 M44 J4 hI46 hK47 (zMd.rf : zMd a [2] [] [] M44 M44) (by omega) (by omega) (zFl.c (zFl_init (M := M) (k := v1) (fun j => ((zup_p e36 (by omega) _).trans (hk7.getA rfl rfl rfl))) e40 e45 p1 hI h0 (by omega) (by omega)) (by omega) (by omega)) (zNg.c (zNg.init (M0 := M) (k := v1) (fun j => ((zup_p e36 (by omega) _).trans (hk7.getA rfl rfl rfl))) e40 e45 (by omega)) rfl (by omega) (fun _ => rfl)) (Int.self_le_toNat _)) (zwk_c (zwk_c (zwk_n (zwk_c (zwk_c (zwk_n (zwk_n zwk_e)))))))
              · refine q_bipush C dX12_file_102 (n := 104) rfl (x := (-3)) (by decide) ?_
                have hp111 : zFi M3 a := p1.cg (fun j => (hk7.getA rfl rfl rfl))
                exact q_iret C dX12_file_104 ⟨rfl, rfl⟩ (by rw [hPo]; exact ⟨(-3), M3, J4, rfl, rfl, hI5, hK8, hp111, by omega, (zFA.d (by omega) (by omega) (zWb.cg h18 (fun j => (hk7.getA rfl rfl rfl)) (by omega) (by omega)) (by omega) (show zLi (M (a + 1)) (M a 2) u22 from (by unfold zLi; omega)) (Or.inl ⟨by omega, rfl⟩)), (fun h => absurd h (by omega)), (fun _ j => (hk7.getA rfl rfl rfl)), (fun h => absurd h (by omega)), (fun _ j => (hk7.getA rfl rfl rfl))⟩)
            · have gs := zTen_s (g := M (a + 1)) (i := u23) (by omega)
              have gq : ¬ (u23 : Int) = M a 2 - 1 ∨ zTen (M (a + 1)) (u23 : Int).toNat = zTen (M (a + 1)) (M a 2 - 1).toNat := (Decidable.em ((u23 : Int) = M a 2 - 1)).symm.imp id (fun h => by rw [h])
              refine q_iload_n C dX12_file_59 (n := 60) rfl rfl ?_
              refine q_aload_n C dX12_file_60 (n := 61) rfl rfl ?_
              refine q_getR C dX12_file_61 (n := 64) rfl f_X12_13 (zM0 h0) (hF _ _ _ (zM2 h0)) ?_
              refine q_iload C dX12_file_64 (n := 66) rfl rfl ?_
              have g112 := zI.at hI ((zM4 h0) u23)
              refine q_bald C dX12_file_66 (n := 67) rfl (zM3 h0) (by omega) (v := M (a + 1) u23) (hk7.getA rfl rfl rfl) ?_
              have gt113 : M3 (a + 1) u23 = M (a + 1) u23 := (hk7.getA rfl rfl rfl)
              refine q_bipush C dX12_file_67 (n := 69) rfl (x := 10) (by decide) ?_
              refine q_icmp_eq C 83 dX12_file_69 (n := 72) rfl rfl (by omega) (fun h114 => ?_) (fun h114 => ?_)
              · refine q_iconst C dX12_file_83 (n := 84) rfl ?_
                refine q_goto C 88 dX12_file_84 rfl ?_
                refine q_iadd C dX12_file_88 (n := 89) rfl (v := u22 + 1) rfl ?_
                refine q_istore_n C [.ref (w.2.1 + a), zi v1, .null, zi (u22 + 1), zi u23, .null, .null] dX12_file_89 (n := 90) rfl rfl rfl ?_
                refine q_iinc C [.ref (w.2.1 + a), zi v1, .null, zi (u22 + 1), zi (u23 + 1), .null, .null] dX12_file_90 (n := 93) rfl rfl rfl rfl ?_
                refine q_goto C 50 dX12_file_93 rfl ?_
                exact zK.weak (ih31 (u22 + 1) (u23 + 1) (by omega) (by omega) (by omega) (by omega) (by omega) (by omega)) (zwk_c (zwk_c (zwk_n (zwk_c (zwk_c (zwk_n (zwk_n zwk_e)))))))
              · refine q_iload C dX12_file_72 (n := 74) rfl rfl ?_
                refine q_aload_n C dX12_file_74 (n := 75) rfl rfl ?_
                refine q_getI C dX12_file_75 (n := 78) rfl f_X12_274 (zM0 h0) (v := M3 a 3) rfl ?_
                refine q_iconst C dX12_file_78 (n := 79) rfl ?_
                refine q_isub C dX12_file_79 (n := 80) rfl (v := (M3 a 3) - 1) rfl ?_
                refine q_icmp_ne C 87 dX12_file_80 (n := 83) rfl rfl (by omega) (fun h115 => ?_) (fun h115 => ?_)
                · refine q_iconst C dX12_file_87 (n := 88) rfl ?_
                  refine q_iadd C dX12_file_88 (n := 89) rfl (v := u22 + 0) rfl ?_
                  refine q_istore_n C [.ref (w.2.1 + a), zi v1, .null, zi (u22 + 0), zi u23, .null, .null] dX12_file_89 (n := 90) rfl rfl rfl ?_
                  refine q_iinc C [.ref (w.2.1 + a), zi v1, .null, zi (u22 + 0), zi (u23 + 1), .null, .null] dX12_file_90 (n := 93) rfl rfl rfl rfl ?_
                  refine q_goto C 50 dX12_file_93 rfl ?_
                  exact zK.weak (ih31 (u22 + 0) (u23 + 1) (by omega) (by omega) (by omega) (by omega) (by omega) (by omega)) (zwk_c (zwk_c (zwk_n (zwk_c (zwk_c (zwk_n (zwk_n zwk_e)))))))
                · refine q_iconst C dX12_file_83 (n := 84) rfl ?_
                  refine q_goto C 88 dX12_file_84 rfl ?_
                  refine q_iadd C dX12_file_88 (n := 89) rfl (v := u22 + 1) rfl ?_
                  refine q_istore_n C [.ref (w.2.1 + a), zi v1, .null, zi (u22 + 1), zi u23, .null, .null] dX12_file_89 (n := 90) rfl rfl rfl ?_
                  refine q_iinc C [.ref (w.2.1 + a), zi v1, .null, zi (u22 + 1), zi (u23 + 1), .null, .null] dX12_file_90 (n := 93) rfl rfl rfl rfl ?_
                  refine q_goto C 50 dX12_file_93 rfl ?_
                  exact zK.weak (ih31 (u22 + 1) (u23 + 1) (by omega) (by omega) (by omega) (by omega) (by omega) (by omega)) (zwk_c (zwk_c (zwk_n (zwk_c (zwk_c (zwk_n (zwk_n zwk_e)))))))
        exact zK.weak (L_29 _ 0 0 (by omega) (by omega) (by omega) (by omega) (by omega) (Int.self_le_toNat _)) (zwk_c (zwk_c (zwk_n (zwk_c (zwk_c (zwk_n (zwk_n zwk_e)))))))
      · refine q_sipush C dX12_file_39 (n := 42) rfl (x := (-1000)) (by decide) ?_
        refine q_iload_n C dX12_file_42 (n := 43) rfl rfl ?_
        refine q_isub C dX12_file_43 (n := 44) rfl (v := (-1000) - x19) rfl ?_
        have hp116 : zFi M3 a := p1.cg (fun j => (hk7.getA rfl rfl rfl))
        exact q_iret C dX12_file_44 ⟨rfl, rfl⟩ (by rw [hPo]; exact ⟨(-1000) - x19, M3, J4, rfl, rfl, hI5, hK8, hp116, by omega, (zFA.c (by omega) (by omega) (zWb.cg h18 (fun j => (hk7.getA rfl rfl rfl)) (by omega) (by omega)) ⟨by omega, by omega⟩), (fun h => absurd h (by omega)), (fun _ j => (hk7.getA rfl rfl rfl)), (fun h => absurd h (by omega)), (fun _ j => (hk7.getA rfl rfl rfl))⟩)
    · refine q_bipush C dX12_file_26 (n := 28) rfl (x := (-3)) (by decide) ?_
      have hp117 : zFi M3 a := p1.cg (fun j => (hk7.getA rfl rfl rfl))
      exact q_iret C dX12_file_28 ⟨rfl, rfl⟩ (by rw [hPo]; exact ⟨(-3), M3, J4, rfl, rfl, hI5, hK8, hp117, by omega, (Or.inr ⟨by omega, Or.inl ⟨by omega, rfl⟩⟩), (fun h => absurd h (by omega)), (fun _ j => (hk7.getA rfl rfl rfl)), (fun h => absurd h (by omega)), (fun _ j => (hk7.getA rfl rfl rfl))⟩)
  · refine q_bipush C dX12_file_13 (n := 15) rfl (x := (-2)) (by decide) ?_
    have hp118 : zFi M3 a := p1.cg (fun j => (hk7.getA rfl rfl rfl))
    exact q_iret C dX12_file_15 ⟨rfl, rfl⟩ (by rw [hPo]; exact ⟨(-2), M3, J4, rfl, rfl, hI5, hK8, hp118, by omega, (Or.inl ⟨by omega, rfl⟩), (fun h => absurd h (by omega)), (fun _ j => (hk7.getA rfl rfl rfl)), (fun h => absurd h (by omega)), (fun _ j => (hk7.getA rfl rfl rfl))⟩)
theorem c_X12_edit_w {w : zWp} {T : zTl} {M : zMm} {J : zJm} {R : zRm'} {G : zGt} {F : zRm'} {a : Nat} (hI : zI G M) (hF : zF F R) (h0 : zModel T F G a) (v1 : Int) (v2 : Int) (p1 : zFi M a) (p2 : -2147483648 ≤ v1 ∧ v1 ≤ 2147483647) (p3 : -2147483648 ≤ v2 ∧ v2 ≤ 2147483647) : zCt w 3 0 0 yX12_edit cX12_edit 12 (some .int) [.ref (w.2.1 + a), zi v1, zi v2] (T, M, J, R) (zPi T R G (fun x M2 => (zMd a [2, 4] [0, 2, 3, 9] [] M M2) ∧ (zFi M2 a) ∧ (M2 a 2 = 0) ∧ (zEA (M (a + 1)) (M a 2) (0 ≤ v1 ∧ v1 ≤ 3 ∧ M (a + 2) v1 = 1) v2 (M (a + 2) (4 + v1)) (zSum (M (a + 2)) (8 + 40 * v1) (M (a + 2) (4 + v1)).toNat + M (a + 2) (4 + v1)) (M (a + 2) (8 + 40 * v1 + v2) + 1) x) ∧ (0 ≤ x → zR2 M M2 (a + 2) (8 + 40 * v1 + v2) (M a 2) (4 + v1) x) ∧ (x < 0 → ∀ j, M2 (a + 2) j = M (a + 2) j) ∧ (0 ≤ x → v2 < M (a + 2) (4 + v1) ∧ zEf M M2 a (400 * v1 + zSum (M (a + 2)) (8 + 40 * v1) v2.toNat) (M (a + 2) (8 + 40 * v1 + v2)) (M a 2) (400 * v1 + zSum (M (a + 2)) (8 + 40 * v1) (M (a + 2) (4 + v1)).toNat) (M (a + 1)) ∨ v2 = M (a + 2) (4 + v1) ∧ zEf M M2 a (400 * v1 + zSum (M (a + 2)) (8 + 40 * v1) v2.toNat) 0 (M a 2) (400 * v1 + zSum (M (a + 2)) (8 + 40 * v1) (M (a + 2) (4 + v1)).toNat) (M (a + 1))) ∧ (x < 0 → ∀ j, M2 (a + 4) j = M (a + 4) j))) := by
  refine zCt.of rfl (Nat.le_of_ble_eq_true rfl) ?_
  intro p e s m args below meth c C
  obtain ⟨Po, hPo⟩ : ∃ Po, Po = zPi T R G (fun x M2 => (zMd a [2, 4] [0, 2, 3, 9] [] M M2) ∧ (zFi M2 a) ∧ (M2 a 2 = 0) ∧ (zEA (M (a + 1)) (M a 2) (0 ≤ v1 ∧ v1 ≤ 3 ∧ M (a + 2) v1 = 1) v2 (M (a + 2) (4 + v1)) (zSum (M (a + 2)) (8 + 40 * v1) (M (a + 2) (4 + v1)).toNat + M (a + 2) (4 + v1)) (M (a + 2) (8 + 40 * v1 + v2) + 1) x) ∧ (0 ≤ x → zR2 M M2 (a + 2) (8 + 40 * v1 + v2) (M a 2) (4 + v1) x) ∧ (x < 0 → ∀ j, M2 (a + 2) j = M (a + 2) j) ∧ (0 ≤ x → v2 < M (a + 2) (4 + v1) ∧ zEf M M2 a (400 * v1 + zSum (M (a + 2)) (8 + 40 * v1) v2.toNat) (M (a + 2) (8 + 40 * v1 + v2)) (M a 2) (400 * v1 + zSum (M (a + 2)) (8 + 40 * v1) (M (a + 2) (4 + v1)).toNat) (M (a + 1)) ∨ v2 = M (a + 2) (4 + v1) ∧ zEf M M2 a (400 * v1 + zSum (M (a + 2)) (8 + 40 * v1) v2.toNat) 0 (M a 2) (400 * v1 + zSum (M (a + 2)) (8 + 40 * v1) (M (a + 2) (4 + v1)).toNat) (M (a + 1))) ∧ (x < 0 → ∀ j, M2 (a + 4) j = M (a + 4) j)) := ⟨_, rfl⟩
  rw [← hPo]
  have hK0 : zMd a [2, 4] [0, 2, 3, 9] [] M M := zMd.rf
  have gk_length := zI.at hI (zM5 h0)
  have gk_size := zI.at hI (zM6 h0)
  show zK w p e 3 0 0 s m args below meth c 12 T Po 0 [.ref (w.2.1 + a), zi v1, zi v2, .null, .null, .null, .null, .null, .null, .null, .null, .null] [] (T, M, J, R)
  refine q_aload_n C dX12_edit_0 (n := 1) rfl rfl ?_
  refine q_callVv C dX12_edit_1 (n := 4) rfl m_X12_293 v_yX12_taken (zM0 h0) ⟨by decide, rfl⟩ (c_X12_taken (w := w) (J := J) hI hF h0) (Nat.le_of_ble_eq_true rfl) rfl rfl (Nat.le_of_ble_eq_true rfl) ⟨Nat.le_refl _, Nat.le_refl _⟩ (fun M3 J4  hI5 h6 => ?_)
  obtain ⟨hk7, h1, h2⟩ := h6
  have hK8 := hK0.tr hk7 rfl rfl rfl
  refine q_aload_n C dX12_edit_4 (n := 5) rfl rfl ?_
  refine q_iload_n C dX12_edit_5 (n := 6) rfl rfl ?_
  refine q_callVp C dX12_edit_6 (n := 9) rfl m_X12_281 v_yX12_isFile (zM0 h0) ⟨by decide, rfl⟩ (c_X12_isFile_e (w := w) (J := J4) hI5 hF h0 v1 (by omega)) (Nat.le_of_ble_eq_true rfl) rfl rfl (Nat.le_of_ble_eq_true rfl) ⟨Nat.le_refl _, Nat.le_refl _⟩ (fun x12 h13 => ?_)
  obtain ⟨h9, h10, h11⟩ := h13
  have hz14 : M3 (a + 2) v1 = M (a + 2) v1 := (hk7.getA rfl rfl rfl)
  have hfo := zOp.mk h11
  clear h11
  refine q_if_eq C 25 dX12_edit_9 (n := 12) rfl rfl (by omega) (fun h15 => ?_) (fun h15 => ?_)
  · refine q_bipush C dX12_edit_25 (n := 27) rfl (x := (-2)) (by decide) ?_
    have hp16 : zFi M3 a := p1.cg (fun j => (hk7.getA rfl rfl rfl))
    have hfe := hfo.out
    exact q_iret C dX12_edit_27 ⟨rfl, rfl⟩ (by rw [hPo]; exact ⟨(-2), M3, J4, rfl, rfl, hI5, hK8, hp16, by omega, (Or.inl ⟨by omega, rfl⟩), (fun h => absurd h (by omega)), (fun _ j => (hk7.getA rfl rfl rfl)), (fun h => absurd h (by omega)), (fun _ j => (hk7.getA rfl rfl rfl))⟩)
  · refine q_iload_n C dX12_edit_12 (n := 13) rfl rfl ?_
    refine q_iconst C dX12_edit_13 (n := 14) rfl ?_
    refine q_aload_n C dX12_edit_14 (n := 15) rfl rfl ?_
    refine q_iload_n C dX12_edit_15 (n := 16) rfl rfl ?_
    refine q_callVp C dX12_edit_16 (n := 19) rfl m_X12_285 v_yX12_linesOf (zM0 h0) ⟨by decide, rfl⟩ (c_X12_linesOf (w := w) (J := J4) hI5 hF h0 v1 (by omega)) (Nat.le_of_ble_eq_true rfl) rfl rfl (Nat.le_of_ble_eq_true rfl) ⟨Nat.le_refl _, Nat.le_refl _⟩ (fun x19 h20 => ?_)
    obtain ⟨h17, h18⟩ := h20
    have hz21 : M3 (a + 2) (4 + v1) = M (a + 2) (4 + v1) := (hk7.getA rfl rfl rfl)
    refine q_callSp C dX12_edit_19 (n := 22) rfl m_X12_277 s_yX12_isIn (c_X12_isIn (w := w) (J := J4) hI5 hF v2 0 x19 (by omega) (by omega) (by omega)) (Nat.le_of_ble_eq_true rfl) rfl rfl (Nat.le_of_ble_eq_true rfl) ⟨Nat.le_refl _, Nat.le_refl _⟩ (fun x25 h26 => ?_)
    obtain ⟨h22, h23, h24⟩ := h26
    refine q_if_ne C 28 dX12_edit_22 (n := 25) rfl rfl (by omega) (fun h27 => ?_) (fun h27 => ?_)
    · refine q_aload_n C dX12_edit_28 (n := 29) rfl rfl ?_
      refine q_iconst C dX12_edit_29 (n := 30) rfl ?_
      refine q_callVp C dX12_edit_30 (n := 33) rfl m_X12_296 v_yX12_badByte (zM0 h0) ⟨by decide, rfl⟩ (c_X12_badByte (w := w) (J := J4) hI5 hF h0 0 (by omega)) (Nat.le_of_ble_eq_true rfl) rfl rfl (Nat.le_of_ble_eq_true rfl) ⟨Nat.le_refl _, Nat.le_refl _⟩ (fun x30 h31 => ?_)
      obtain ⟨h28, h29⟩ := h31
      refine q_istore_n C [.ref (w.2.1 + a), zi v1, zi v2, zi x30, .null, .null, .null, .null, .null, .null, .null, .null] dX12_edit_33 (n := 34) rfl rfl rfl ?_
      refine q_iload_n C dX12_edit_34 (n := 35) rfl rfl ?_
      refine q_if_lt C 44 dX12_edit_35 (n := 38) rfl rfl (by omega) (fun h32 => ?_) (fun h32 => ?_)
      · have gz0 := zSum_0 (g := M (a + 2)) (b := 8 + 40 * v1)
        have gc : 39 < v2 ∨ 0 ≤ M (a + 2) (8 + 40 * v1 + v2) ∧ M (a + 2) (8 + 40 * v1 + v2) ≤ 440 := (Decidable.em (39 < v2)).imp id (fun h => zI.at hI ((zM9 h0 (8 + 40 * v1 + v2)).trans (zfG_8 (by omega))))
        refine q_aload_n C dX12_edit_44 (n := 45) rfl rfl ?_
        refine q_iload_n C dX12_edit_45 (n := 46) rfl rfl ?_
        refine q_callVp C dX12_edit_46 (n := 49) rfl m_X12_285 v_yX12_linesOf (zM0 h0) ⟨by decide, rfl⟩ (c_X12_linesOf (w := w) (J := J4) hI5 hF h0 v1 (by omega)) (Nat.le_of_ble_eq_true rfl) rfl rfl (Nat.le_of_ble_eq_true rfl) ⟨Nat.le_refl _, Nat.le_refl _⟩ (fun x35 h36 => ?_)
        obtain ⟨h33, h34⟩ := h36
        have hz37 : M3 (a + 2) (4 + v1) = M (a + 2) (4 + v1) := (hk7.getA rfl rfl rfl)
        refine q_istore C [.ref (w.2.1 + a), zi v1, zi v2, zi x30, zi x35, .null, .null, .null, .null, .null, .null, .null] dX12_edit_49 (n := 51) rfl rfl rfl ?_
        refine q_iload_n C dX12_edit_51 (n := 52) rfl rfl ?_
        refine q_iload C dX12_edit_52 (n := 54) rfl rfl ?_
        have J_41 : ∀ (u38 : Int), (-2147483648 ≤ u38 ∧ u38 ≤ 2147483647) → (v2 = M (a + 2) (4 + v1) ∧ u38 = v2 + 1 ∨ v2 < M (a + 2) (4 + v1) ∧ u38 = M (a + 2) (4 + v1)) → zK w p e 3 0 0 s m args below meth c 12 T Po 66 [.ref (w.2.1 + a), zi v1, zi v2, .null, zi x35, .null, .null, .null, .null, .null, .null, .null] [zi u38] (T, M3, J4, R) := by
          intro u38 h39 h40
          refine q_istore C [.ref (w.2.1 + a), zi v1, zi v2, .null, zi x35, zi u38, .null, .null, .null, .null, .null, .null] dX12_edit_66 (n := 68) rfl rfl rfl ?_
          refine q_aload_n C dX12_edit_68 (n := 69) rfl rfl ?_
          have g42 := zI.at hI5 (zM6 h0)
          refine q_getI C dX12_edit_69 (n := 72) rfl f_X12_274 (zM0 h0) (v := M3 a 3) rfl ?_
          refine q_iconst C dX12_edit_72 (n := 73) rfl ?_
          refine q_iadd C dX12_edit_73 (n := 74) rfl (v := (M3 a 3) + 1) rfl ?_
          refine q_istore C [.ref (w.2.1 + a), zi v1, zi v2, .null, zi x35, zi u38, zi ((M3 a 3) + 1), .null, .null, .null, .null, .null] dX12_edit_74 (n := 76) rfl rfl rfl ?_
          refine q_iconst C dX12_edit_76 (n := 77) rfl ?_
          refine q_istore C [.ref (w.2.1 + a), zi v1, zi v2, .null, zi x35, zi u38, zi ((M3 a 3) + 1), zi 0, .null, .null, .null, .null] dX12_edit_77 (n := 79) rfl rfl rfl ?_
          have L_49 : ∀ n50 : Nat, ∀ (u43 : Int) (u44 : Int), (-2147483648 ≤ u43 ∧ u43 ≤ 2147483647) → (-2147483648 ≤ u44 ∧ u44 ≤ 2147483647) → (0 ≤ u44 ∧ u44 ≤ x35) → (u44 ≤ v2 ∧ u43 = M a 2 + 1 + zSum (M (a + 2)) (8 + 40 * v1) (u44 : Int).toNat + u44 ∨ v2 < u44 ∧ u43 = M a 2 + zSum (M (a + 2)) (8 + 40 * v1) (u44 : Int).toNat + u44 - M (a + 2) (8 + 40 * v1 + v2)) → (41 - u44 ≤ (n50 : Int)) → zK w p e 3 0 0 s m args below meth c 12 T Po 79 [.ref (w.2.1 + a), zi v1, zi v2, .null, zi x35, zi u38, zi u43, zi u44, .null, .null, .null, .null] [] (T, M3, J4, R) := by
            intro n50
            induction n50 with
            | zero =>
              intro u43 u44 h45 h46 h47 h48 hm52
              exfalso
              omega
            | succ n50 ih51 =>
              intro u43 u44 h45 h46 h47 h48 hm52
              refine q_iload C dX12_edit_79 (n := 81) rfl rfl ?_
              refine q_iload C dX12_edit_81 (n := 83) rfl rfl ?_
              refine q_icmp_ge C 112 dX12_edit_83 (n := 86) rfl rfl (by omega) (fun h53 => ?_) (fun h53 => ?_)
              · have gmo := zFi.mo p1 hI h0 (k := v1) (l := v2) (by omega) (by omega)
                have gq : zSum (M (a + 2)) (8 + 40 * v1) (u44 : Int).toNat = zSum (M (a + 2)) (8 + 40 * v1) (M (a + 2) (4 + v1)).toNat := by rw [show (u44 : Int) = M (a + 2) (4 + v1) by omega]
                refine q_iload C dX12_edit_112 (n := 114) rfl rfl ?_
                have hsm := zEA.sm (s := M (a + 2) (4 + v1)) (by omega) (by omega) (by omega) h48 gq
                have hft : 0 ≤ v1 ∧ v1 ≤ 3 ∧ M (a + 2) v1 = 1 := by have hfe := hfo.out; omega
                refine q_sipush C dX12_edit_114 (n := 117) rfl (x := 400) (by decide) ?_
                refine q_icmp_gt C 127 dX12_edit_117 (n := 120) rfl rfl (by omega) (fun h54 => ?_) (fun h54 => ?_)
                · refine q_bipush C dX12_edit_127 (n := 129) rfl (x := (-3)) (by decide) ?_
                  have hp55 : zFi M3 a := p1.cg (fun j => (hk7.getA rfl rfl rfl))
                  exact q_iret C dX12_edit_129 ⟨rfl, rfl⟩ (by rw [hPo]; exact ⟨(-3), M3, J4, rfl, rfl, hI5, hK8, hp55, by omega, (Or.inr ⟨⟨hft, by omega, by omega⟩, _, (zWb.cg h29 (fun j => (hk7.getA rfl rfl rfl)) (by omega) (by omega)), Or.inr ⟨by omega, zEA.noL hsm h40 (by omega) (by omega)⟩⟩), (fun h => absurd h (by omega)), (fun _ j => (hk7.getA rfl rfl rfl)), (fun h => absurd h (by omega)), (fun _ j => (hk7.getA rfl rfl rfl))⟩)
                · refine q_iload C dX12_edit_120 (n := 122) rfl rfl ?_
                  refine q_bipush C dX12_edit_122 (n := 124) rfl (x := 40) (by decide) ?_
                  refine q_icmp_le C 130 dX12_edit_124 (n := 127) rfl rfl (by omega) (fun h56 => ?_) (fun h56 => ?_)
                  · refine q_aload_n C dX12_edit_130 (n := 131) rfl rfl ?_
                    refine q_iload_n C dX12_edit_131 (n := 132) rfl rfl ?_
                    refine q_iload_n C dX12_edit_132 (n := 133) rfl rfl ?_
                    have hp57 : zFi M3 a := p1.cg (fun j => (hk7.getA rfl rfl rfl))
                    refine q_callVp C dX12_edit_133 (n := 136) rfl m_X12_321 v_yX12_beginOf (zM0 h0) ⟨by decide, rfl⟩ (c_X12_beginOf (w := w) (J := J4) hI5 hF h0 v1 v2 hp57 (by omega) (by have hz58 : M3 (a + 2) (4 + v1) = M (a + 2) (4 + v1) := (hk7.getA rfl rfl rfl); omega)) (Nat.le_of_ble_eq_true rfl) rfl rfl (Nat.le_of_ble_eq_true rfl) ⟨Nat.le_refl _, Nat.le_refl _⟩ (fun x62 h63 => ?_)
                    obtain ⟨h59, h60, h61⟩ := h63
                    have hz64 : M3 (a + 2) (4 + v1) = M (a + 2) (4 + v1) := (hk7.getA rfl rfl rfl)
                    have hz65 : M3 (a + 2) (8 + 40 * v1 + v2) = M (a + 2) (8 + 40 * v1 + v2) := (hk7.getA rfl rfl rfl)
                    have gM1 : M3 (a + 2) = M (a + 2) := funext (fun j => (hk7.getA rfl rfl rfl))
                    have gs1 : zSum (M3 (a + 2)) (8 + 40 * v1) v2.toNat = zSum (M (a + 2)) (8 + 40 * v1) v2.toNat := by rw [gM1]
                    refine q_istore C [.ref (w.2.1 + a), zi v1, zi v2, .null, zi x35, zi u38, zi u43, zi x62, .null, .null, .null, .null] dX12_edit_136 (n := 138) rfl rfl rfl ?_
                    refine q_aload_n C dX12_edit_138 (n := 139) rfl rfl ?_
                    refine q_iload_n C dX12_edit_139 (n := 140) rfl rfl ?_
                    refine q_iload C dX12_edit_140 (n := 142) rfl rfl ?_
                    refine q_callVp C dX12_edit_142 (n := 145) rfl m_X12_321 v_yX12_beginOf (zM0 h0) ⟨by decide, rfl⟩ (c_X12_beginOf (w := w) (J := J4) hI5 hF h0 v1 x35 hp57 (by omega) (by have hz66 : M3 (a + 2) (4 + v1) = M (a + 2) (4 + v1) := (hk7.getA rfl rfl rfl); omega)) (Nat.le_of_ble_eq_true rfl) rfl rfl (Nat.le_of_ble_eq_true rfl) ⟨Nat.le_refl _, Nat.le_refl _⟩ (fun x70 h71 => ?_)
                    obtain ⟨h67, h68, h69⟩ := h71
                    have hz72 : M3 (a + 2) (4 + v1) = M (a + 2) (4 + v1) := (hk7.getA rfl rfl rfl)
                    have hz73 : M3 (a + 2) (8 + 40 * v1 + x35) = M (a + 2) (8 + 40 * v1 + x35) := (hk7.getA rfl rfl rfl)
                    have gM2 : M3 (a + 2) = M (a + 2) := funext (fun j => (hk7.getA rfl rfl rfl))
                    have gs2 : zSum (M3 (a + 2)) (8 + 40 * v1) (x35 : Int).toNat = zSum (M (a + 2)) (8 + 40 * v1) (M (a + 2) (4 + v1)).toNat := by rw [gM2, show (x35 : Int) = M (a + 2) (4 + v1) by omega]
                    refine q_istore C [.ref (w.2.1 + a), zi v1, zi v2, .null, zi x35, zi u38, zi u43, zi x62, zi x70, .null, .null, .null] dX12_edit_145 (n := 147) rfl rfl rfl ?_
                    refine q_iload_n C dX12_edit_147 (n := 148) rfl rfl ?_
                    refine q_iload C dX12_edit_148 (n := 150) rfl rfl ?_
                    have J_77 : ∀ (u74 : Int), (-2147483648 ≤ u74 ∧ u74 ≤ 2147483647) → (v2 < M (a + 2) (4 + v1) ∧ u74 = M (a + 2) (8 + 40 * v1 + v2) ∨ v2 = M (a + 2) (4 + v1) ∧ u74 = 0) → zK w p e 3 0 0 s m args below meth c 12 T Po 163 [.ref (w.2.1 + a), zi v1, zi v2, .null, .null, zi u38, .null, zi x62, zi x70, .null, .null, .null] [zi u74] (T, M3, J4, R) := by
                      intro u74 h75 h76
                      refine q_istore C [.ref (w.2.1 + a), zi v1, zi v2, .null, .null, zi u38, .null, zi x62, zi x70, zi u74, .null, .null] dX12_edit_163 (n := 165) rfl rfl rfl ?_
                      refine q_aload_n C dX12_edit_165 (n := 166) rfl rfl ?_
                      refine q_getI C dX12_edit_166 (n := 169) rfl f_X12_274 (zM0 h0) (v := M3 a 3) rfl ?_
                      refine q_iload C dX12_edit_169 (n := 171) rfl rfl ?_
                      refine q_isub C dX12_edit_171 (n := 172) rfl (v := (M3 a 3) - u74) rfl ?_
                      refine q_istore C [.ref (w.2.1 + a), zi v1, zi v2, .null, .null, zi u38, .null, zi x62, zi x70, zi u74, zi ((M3 a 3) - u74), .null] dX12_edit_172 (n := 174) rfl rfl rfl ?_
                      refine q_iload C dX12_edit_174 (n := 176) rfl rfl ?_
                      have J_85 : ∀ (M79 : zMm) (J80 : zJm), zI G M79 → zMd a [2, 4] [0, 2, 3, 9] [] M M79 → zMd a [4] [] [] M3 M79 → (zMv M79 M a (x62 + u74) x70 ((M3 a 3) - u74)) → zK w p e 3 0 0 s m args below meth c 12 T Po 258 [.ref (w.2.1 + a), zi v1, zi v2, .null, .null, zi u38, .null, zi x62, .null, .null, .null, .null] [] (T, M79, J80, R) := by
                        intro M79 J80 hI81 hK82 hK83 h84
                        refine q_iconst C dX12_edit_258 (n := 259) rfl ?_
                        refine q_istore C [.ref (w.2.1 + a), zi v1, zi v2, .null, .null, zi u38, .null, zi x62, .null, .null, .null, zi 0] dX12_edit_259 (n := 261) rfl rfl rfl ?_
                        have L_96 : ∀ n97 : Nat, ∀ (u86 : Int) (M88 : zMm) (J89 : zJm), zI G M88 → zMd a [2, 4] [0, 2, 3, 9] [] M M88 → zMd a [4] [] [] M79 M88 → (-2147483648 ≤ u86 ∧ u86 ≤ 2147483647) → (0 ≤ u86 ∧ u86 ≤ M a 2) → (zWrw M88 M79 a x62 u86 (M (a + 1))) → (441 - u86 ≤ (n97 : Int)) → zK w p e 3 0 0 s m args below meth c 12 T Po 261 [.ref (w.2.1 + a), zi v1, zi v2, .null, .null, zi u38, .null, zi x62, .null, .null, .null, zi u86] [] (T, M88, J89, R) := by
                          intro n97
                          induction n97 with
                          | zero =>
                            intro u86 M88 J89 hI90 hK91 hK92 h93 h94 h95 hm99
                            exfalso
                            omega
                          | succ n97 ih98 =>
                            intro u86 M88 J89 hI90 hK91 hK92 h93 h94 h95 hm99
                            refine q_iload C dX12_edit_261 (n := 263) rfl rfl ?_
                            refine q_aload_n C dX12_edit_263 (n := 264) rfl rfl ?_
                            refine q_getI C dX12_edit_264 (n := 267) rfl f_X12_274 (zM0 h0) (v := M3 a 3) ((hK92.getS rfl rfl).trans (hK83.getS rfl rfl)) ?_
                            refine q_icmp_ge C 293 dX12_edit_267 (n := 270) rfl rfl (by omega) (fun h100 => ?_) (fun h100 => ?_)
                            · refine q_aload_n C dX12_edit_293 (n := 294) rfl rfl ?_
                              refine q_getR C dX12_edit_294 (n := 297) rfl f_X12_17 (zM0 h0) (hF _ _ _ (zM7 h0)) ?_
                              refine q_bipush C dX12_edit_297 (n := 299) rfl (x := 8) (by decide) ?_
                              refine q_bipush C dX12_edit_299 (n := 301) rfl (x := 40) (by decide) ?_
                              refine q_iload_n C dX12_edit_301 (n := 302) rfl rfl ?_
                              refine q_imul C dX12_edit_302 (n := 303) rfl (v := 40 * v1) rfl ?_
                              refine q_iadd C dX12_edit_303 (n := 304) rfl (v := 8 + (40 * v1)) rfl ?_
                              refine q_iload_n C dX12_edit_304 (n := 305) rfl rfl ?_
                              refine q_iadd C dX12_edit_305 (n := 306) rfl (v := (8 + (40 * v1)) + v2) rfl ?_
                              refine q_aload_n C dX12_edit_306 (n := 307) rfl rfl ?_
                              refine q_getI C dX12_edit_307 (n := 310) rfl f_X12_274 (zM0 h0) (v := M3 a 3) ((hK92.getS rfl rfl).trans (hK83.getS rfl rfl)) ?_
                              refine q_iast C dX12_edit_310 (n := 311) rfl (zM8 h0) (by omega)  (fun M101 e102 => ?_)
                              have hp103 : zFi M88 a := hp57.cg (fun j => ((hK92.getA rfl rfl rfl).trans (hK83.getA rfl rfl rfl)))
                              have hI104 : zI G M101 := hI90.put e102 (((zM9 h0) ((8 + (40 * v1)) + v2)).trans (zfG_8 (by omega))) rfl (by omega)
                              have hK105 := hK91.upA e102 rfl
                              refine q_aload_n C dX12_edit_311 (n := 312) rfl rfl ?_
                              refine q_getR C dX12_edit_312 (n := 315) rfl f_X12_17 (zM0 h0) (hF _ _ _ (zM7 h0)) ?_
                              refine q_iconst C dX12_edit_315 (n := 316) rfl ?_
                              refine q_iload_n C dX12_edit_316 (n := 317) rfl rfl ?_
                              refine q_iadd C dX12_edit_317 (n := 318) rfl (v := 4 + v1) rfl ?_
                              refine q_iload C dX12_edit_318 (n := 320) rfl rfl ?_
                              refine q_iast C dX12_edit_320 (n := 321) rfl (zM8 h0) (by omega)  (fun M107 e108 => ?_)
                              have hI109 : zI G M107 := hI104.put e108 (((zM9 h0) (4 + v1)).trans (zfG_4 (by omega))) rfl (by omega)
                              have hK110 := hK105.upA e108 rfl
                              have hp111 : zFi M107 a := zEd_fi (M := M) (k := v1) (l := v2) (fun j => ((hK92.getA rfl rfl rfl).trans ((hK83.getA rfl rfl rfl).trans (hk7.getA rfl rfl rfl)))) e102 e108 p1 hI h0 (by omega) (by omega) (by omega)
                              refine q_aload_n C dX12_edit_321 (n := 322) rfl rfl ?_
                              refine q_iconst C dX12_edit_322 (n := 323) rfl ?_
                              refine q_putZ C dX12_edit_323 (n := 326) rfl f_X12_300 (zM0 h0) ⟨rfl, rfl⟩ (by omega) (fun M112 (e113 : M112 = zup M107 a 9 0) => ?_)
                              have hI114 : zI G M112 := hI109.put e113 (zM22 h0) rfl (by omega)
                              have hK115 := hK110.upS e113 rfl
                              refine q_iload C dX12_edit_326 (n := 328) rfl rfl ?_
                              have hp116 : zFi M112 a := hp111.cg (fun j => (zup_p e113 (by omega) _))
                              exact q_iret C dX12_edit_328 ⟨rfl, rfl⟩ (by rw [hPo]; exact ⟨u38, M112, J89, rfl, rfl, hI114, hK115, hp116, by have hz117 : M112 a 2 = M3 a 2 := ((zup_n e113 (by omega)).trans ((zup_p e108 (by omega) _).trans ((zup_p e102 (by omega) _).trans ((hK92.getS rfl rfl).trans (hK83.getS rfl rfl))))); omega, (Or.inr ⟨⟨hft, by omega, by omega⟩, _, (zWb.cg h29 (fun j => (hk7.getA rfl rfl rfl)) (by omega) (by omega)), Or.inr ⟨by omega, zEA.okL hsm h40 (by omega) (by omega)⟩⟩), (fun _ => zR2.of (fun j => ((hK92.getA rfl rfl rfl).trans ((hK83.getA rfl rfl rfl).trans (hk7.getA rfl rfl rfl)))) e102 e108 (fun j => (zup_p e113 (by omega) _)) (by omega) (by omega)), (fun h => absurd h (by omega)), (fun _ => by have t := zEf.mk (n := M a 2) h84 h95 (fun j => ((zup_p e113 (by omega) _).trans ((zup_p e108 (by omega) _).trans (zup_p e102 (by omega) _)))) (by omega) (by omega) (by omega); rw [show (x62 : Int) = 400 * v1 + zSum (M (a + 2)) (8 + 40 * v1) v2.toNat by omega, show (x70 : Int) = 400 * v1 + zSum (M (a + 2)) (8 + 40 * v1) (M (a + 2) (4 + v1)).toNat by omega] at t; rcases h76 with ⟨q1, q2⟩ | ⟨q1, q2⟩; (rw [q2] at t; exact Or.inl ⟨q1, t⟩); (rw [q2] at t; exact Or.inr ⟨q1, t⟩)), (fun h => absurd h (by omega))⟩)
                            · refine q_aload_n C dX12_edit_270 (n := 271) rfl rfl ?_
                              refine q_getR C dX12_edit_271 (n := 274) rfl f_X12_24 (zM0 h0) (hF _ _ _ (zM13 h0)) ?_
                              refine q_iload C dX12_edit_274 (n := 276) rfl rfl ?_
                              refine q_iload C dX12_edit_276 (n := 278) rfl rfl ?_
                              refine q_iadd C dX12_edit_278 (n := 279) rfl (v := x62 + u86) rfl ?_
                              refine q_aload_n C dX12_edit_279 (n := 280) rfl rfl ?_
                              refine q_getR C dX12_edit_280 (n := 283) rfl f_X12_13 (zM0 h0) (hF _ _ _ (zM2 h0)) ?_
                              refine q_iload C dX12_edit_283 (n := 285) rfl rfl ?_
                              have g118 := zI.at hI ((zM4 h0) u86)
                              refine q_bald C dX12_edit_285 (n := 286) rfl (zM3 h0) (by omega) (v := M (a + 1) u86) ((hK92.getA rfl rfl rfl).trans ((hK83.getA rfl rfl rfl).trans (hk7.getA rfl rfl rfl))) ?_
                              refine q_bast C dX12_edit_286 (n := 287) rfl (zM14 h0) (by omega) (by omega) (fun M119 e120 => ?_)
                              have hI121 : zI G M119 := hI90.put e120 ((zM15 h0) (x62 + u86)) rfl (by omega)
                              have hK122 := hK91.upA e120 rfl
                              have hK123 := hK92.upA e120 rfl
                              refine q_iinc C [.ref (w.2.1 + a), zi v1, zi v2, .null, .null, zi u38, .null, zi x62, .null, .null, .null, zi (u86 + 1)] dX12_edit_287 (n := 290) rfl rfl rfl rfl ?_
                              refine q_goto C 261 dX12_edit_290 rfl ?_
                              exact zK.weak (ih98 (u86 + 1) M119 J89 hI121 hK122 hK123 (by omega) (by omega) (zWrw.step h95 e120 (by omega) (by omega) (by omega)) (by omega)) (zwk_c (zwk_c (zwk_c (zwk_n (zwk_n (zwk_c (zwk_n (zwk_c (zwk_n (zwk_n (zwk_n (zwk_c zwk_e))))))))))))
                        exact zK.weak (L_96 _ 0 M79 J80 hI81 hK82 (zMd.rf : zMd a [4] [] [] M79 M79) (by omega) (by omega) (zWrw.init (fun j => rfl) rfl) (Int.self_le_toNat _)) (zwk_c (zwk_c (zwk_c (zwk_n (zwk_n (zwk_c (zwk_n (zwk_c (zwk_n (zwk_n (zwk_n (zwk_c zwk_e))))))))))))
                      refine q_if_le C 221 dX12_edit_176 (n := 179) rfl rfl (by omega) (fun h124 => ?_) (fun h124 => ?_)
                      · refine q_iload C dX12_edit_221 (n := 223) rfl rfl ?_
                        refine q_iload C dX12_edit_223 (n := 225) rfl rfl ?_
                        refine q_iadd C dX12_edit_225 (n := 226) rfl (v := x62 + u74) rfl ?_
                        refine q_istore C [.ref (w.2.1 + a), zi v1, zi v2, .null, .null, zi u38, .null, zi x62, zi x70, zi u74, zi ((M3 a 3) - u74), zi (x62 + u74)] dX12_edit_226 (n := 228) rfl rfl rfl ?_
                        have L_136 : ∀ n137 : Nat, ∀ (u125 : Int) (M127 : zMm) (J128 : zJm), zI G M127 → zMd a [2, 4] [0, 2, 3, 9] [] M M127 → zMd a [4] [] [] M3 M127 → zMd a [4] [] [] M3 M127 → (-2147483648 ≤ u125 ∧ u125 ≤ 2147483647) → (x62 + u74 ≤ u125 ∧ u125 ≤ x70) → (zMd2 M127 M a (x62 + u74) u125 ((M3 a 3) - u74)) → (1701 - u125 ≤ (n137 : Int)) → zK w p e 3 0 0 s m args below meth c 12 T Po 228 [.ref (w.2.1 + a), zi v1, zi v2, .null, .null, zi u38, .null, zi x62, zi x70, .null, zi ((M3 a 3) - u74), zi u125] [] (T, M127, J128, R) := by
                          intro n137
                          induction n137 with
                          | zero =>
                            intro u125 M127 J128 hI129 hK130 hK131 hK132 h133 h134 h135 hm139
                            exfalso
                            omega
                          | succ n137 ih138 =>
                            intro u125 M127 J128 hI129 hK130 hK131 hK132 h133 h134 h135 hm139
                            refine q_iload C dX12_edit_228 (n := 230) rfl rfl ?_
                            refine q_iload C dX12_edit_230 (n := 232) rfl rfl ?_
                            refine q_icmp_ge C 258 dX12_edit_232 (n := 235) rfl rfl (by omega) (fun h140 => ?_) (fun h140 => ?_)
                            · exact zK.weak (J_85 M127 J128 hI129 hK130 hK131 (zMd2.mv h135 (fun j => rfl) (by omega) (by omega))) (zwk_c (zwk_c (zwk_c (zwk_n (zwk_n (zwk_c (zwk_n (zwk_c (zwk_n (zwk_n (zwk_n (zwk_n zwk_e))))))))))))
                            · refine q_aload_n C dX12_edit_235 (n := 236) rfl rfl ?_
                              refine q_getR C dX12_edit_236 (n := 239) rfl f_X12_24 (zM0 h0) (hF _ _ _ (zM13 h0)) ?_
                              refine q_iload C dX12_edit_239 (n := 241) rfl rfl ?_
                              refine q_iload C dX12_edit_241 (n := 243) rfl rfl ?_
                              refine q_iadd C dX12_edit_243 (n := 244) rfl (v := u125 + ((M3 a 3) - u74)) rfl ?_
                              refine q_aload_n C dX12_edit_244 (n := 245) rfl rfl ?_
                              refine q_getR C dX12_edit_245 (n := 248) rfl f_X12_24 (zM0 h0) (hF _ _ _ (zM13 h0)) ?_
                              refine q_iload C dX12_edit_248 (n := 250) rfl rfl ?_
                              have g141 := zI.at hI129 ((zM15 h0) u125)
                              refine q_bald C dX12_edit_250 (n := 251) rfl (zM14 h0) (by omega) (v := M127 (a + 4) u125) rfl ?_
                              refine q_bast C dX12_edit_251 (n := 252) rfl (zM14 h0) (by omega) (by omega) (fun M142 e143 => ?_)
                              have hI144 : zI G M142 := hI129.put e143 ((zM15 h0) (u125 + ((M3 a 3) - u74))) rfl (by omega)
                              have hK145 := hK130.upA e143 rfl
                              have hK146 := hK131.upA e143 rfl
                              have hK147 := hK132.upA e143 rfl
                              refine q_iinc C [.ref (w.2.1 + a), zi v1, zi v2, .null, .null, zi u38, .null, zi x62, zi x70, .null, zi ((M3 a 3) - u74), zi (u125 + 1)] dX12_edit_252 (n := 255) rfl rfl rfl rfl ?_
                              refine q_goto C 228 dX12_edit_255 rfl ?_
                              exact zK.weak (ih138 (u125 + 1) M142 J128 hI144 hK145 hK146 hK147 (by omega) (by omega) (zMd2.step h135 e143 (by omega) rfl (by omega) (by omega) (by omega)) (by omega)) (zwk_c (zwk_c (zwk_c (zwk_n (zwk_n (zwk_c (zwk_n (zwk_c (zwk_c (zwk_n (zwk_c (zwk_c zwk_e))))))))))))
                        exact zK.weak (L_136 _ (x62 + u74) M3 J4 hI5 hK8 (zMd.rf : zMd a [4] [] [] M3 M3) (zMd.rf : zMd a [4] [] [] M3 M3) (by omega) (by omega) (zMd2.init (fun j => (hk7.getA rfl rfl rfl)) (by omega)) (Int.self_le_toNat _)) (zwk_c (zwk_c (zwk_c (zwk_n (zwk_n (zwk_c (zwk_n (zwk_c (zwk_c (zwk_n (zwk_c (zwk_c zwk_e))))))))))))
                      · refine q_iload C dX12_edit_179 (n := 181) rfl rfl ?_
                        refine q_iconst C dX12_edit_181 (n := 182) rfl ?_
                        refine q_isub C dX12_edit_182 (n := 183) rfl (v := x70 - 1) rfl ?_
                        refine q_istore C [.ref (w.2.1 + a), zi v1, zi v2, .null, .null, zi u38, .null, zi x62, zi x70, zi u74, zi ((M3 a 3) - u74), zi (x70 - 1)] dX12_edit_183 (n := 185) rfl rfl rfl ?_
                        have L_159 : ∀ n160 : Nat, ∀ (u148 : Int) (M150 : zMm) (J151 : zJm), zI G M150 → zMd a [2, 4] [0, 2, 3, 9] [] M M150 → zMd a [4] [] [] M3 M150 → zMd a [4] [] [] M3 M150 → (-2147483648 ≤ u148 ∧ u148 ≤ 2147483647) → (x62 + u74 - 1 ≤ u148 ∧ u148 ≤ x70 - 1) → (zMd1 M150 M a u148 x70 ((M3 a 3) - u74)) → (u148 + 2 ≤ (n160 : Int)) → zK w p e 3 0 0 s m args below meth c 12 T Po 185 [.ref (w.2.1 + a), zi v1, zi v2, .null, .null, zi u38, .null, zi x62, .null, zi u74, zi ((M3 a 3) - u74), zi u148] [] (T, M150, J151, R) := by
                          intro n160
                          induction n160 with
                          | zero =>
                            intro u148 M150 J151 hI152 hK153 hK154 hK155 h156 h157 h158 hm162
                            exfalso
                            omega
                          | succ n160 ih161 =>
                            intro u148 M150 J151 hI152 hK153 hK154 hK155 h156 h157 h158 hm162
                            refine q_iload C dX12_edit_185 (n := 187) rfl rfl ?_
                            refine q_iload C dX12_edit_187 (n := 189) rfl rfl ?_
                            refine q_iload C dX12_edit_189 (n := 191) rfl rfl ?_
                            refine q_iadd C dX12_edit_191 (n := 192) rfl (v := x62 + u74) rfl ?_
                            refine q_icmp_lt C 218 dX12_edit_192 (n := 195) rfl rfl (by omega) (fun h163 => ?_) (fun h163 => ?_)
                            · refine q_goto C 258 dX12_edit_218 rfl ?_
                              exact zK.weak (J_85 M150 J151 hI152 hK153 hK154 (zMd1.mv h158 (fun j => rfl) (by omega) (by omega))) (zwk_c (zwk_c (zwk_c (zwk_n (zwk_n (zwk_c (zwk_n (zwk_c (zwk_n (zwk_n (zwk_n (zwk_n zwk_e))))))))))))
                            · refine q_aload_n C dX12_edit_195 (n := 196) rfl rfl ?_
                              refine q_getR C dX12_edit_196 (n := 199) rfl f_X12_24 (zM0 h0) (hF _ _ _ (zM13 h0)) ?_
                              refine q_iload C dX12_edit_199 (n := 201) rfl rfl ?_
                              refine q_iload C dX12_edit_201 (n := 203) rfl rfl ?_
                              refine q_iadd C dX12_edit_203 (n := 204) rfl (v := u148 + ((M3 a 3) - u74)) rfl ?_
                              refine q_aload_n C dX12_edit_204 (n := 205) rfl rfl ?_
                              refine q_getR C dX12_edit_205 (n := 208) rfl f_X12_24 (zM0 h0) (hF _ _ _ (zM13 h0)) ?_
                              refine q_iload C dX12_edit_208 (n := 210) rfl rfl ?_
                              have g164 := zI.at hI152 ((zM15 h0) u148)
                              refine q_bald C dX12_edit_210 (n := 211) rfl (zM14 h0) (by omega) (v := M150 (a + 4) u148) rfl ?_
                              refine q_bast C dX12_edit_211 (n := 212) rfl (zM14 h0) (by omega) (by omega) (fun M165 e166 => ?_)
                              have hI167 : zI G M165 := hI152.put e166 ((zM15 h0) (u148 + ((M3 a 3) - u74))) rfl (by omega)
                              have hK168 := hK153.upA e166 rfl
                              have hK169 := hK154.upA e166 rfl
                              have hK170 := hK155.upA e166 rfl
                              refine q_iinc C [.ref (w.2.1 + a), zi v1, zi v2, .null, .null, zi u38, .null, zi x62, .null, zi u74, zi ((M3 a 3) - u74), zi (u148 + (-1))] dX12_edit_212 (n := 215) rfl rfl rfl rfl ?_
                              refine q_goto C 185 dX12_edit_215 rfl ?_
                              exact zK.weak (ih161 (u148 + (-1)) M165 J151 hI167 hK168 hK169 hK170 (by omega) (by omega) (zMd1.step h158 e166 (by omega) rfl (by omega) (by omega) (by omega)) (by omega)) (zwk_c (zwk_c (zwk_c (zwk_n (zwk_n (zwk_c (zwk_n (zwk_c (zwk_n (zwk_c (zwk_c (zwk_c zwk_e))))))))))))
                        exact zK.weak (L_159 _ (x70 - 1) M3 J4 hI5 hK8 (zMd.rf : zMd a [4] [] [] M3 M3) (zMd.rf : zMd a [4] [] [] M3 M3) (by omega) (by omega) (zMd1.init (fun j => (hk7.getA rfl rfl rfl)) (by omega)) (Int.self_le_toNat _)) (zwk_c (zwk_c (zwk_c (zwk_n (zwk_n (zwk_c (zwk_n (zwk_c (zwk_n (zwk_c (zwk_c (zwk_c zwk_e))))))))))))
                    refine q_icmp_ge C 162 dX12_edit_150 (n := 153) rfl rfl (by omega) (fun h171 => ?_) (fun h171 => ?_)
                    · refine q_iconst C dX12_edit_162 (n := 163) rfl ?_
                      exact zK.weak (J_77 0 (by omega) (by omega)) (zwk_c (zwk_c (zwk_c (zwk_n (zwk_n (zwk_c (zwk_n (zwk_c (zwk_c (zwk_n (zwk_n (zwk_n zwk_e))))))))))))
                    · refine q_aload_n C dX12_edit_153 (n := 154) rfl rfl ?_
                      refine q_iload_n C dX12_edit_154 (n := 155) rfl rfl ?_
                      refine q_iload_n C dX12_edit_155 (n := 156) rfl rfl ?_
                      refine q_callVp C dX12_edit_156 (n := 159) rfl m_X12_289 v_yX12_lengthOf (zM0 h0) ⟨by decide, rfl⟩ (c_X12_lengthOf (w := w) (J := J4) hI5 hF h0 v1 v2 (by omega) (by omega)) (Nat.le_of_ble_eq_true rfl) rfl rfl (Nat.le_of_ble_eq_true rfl) ⟨Nat.le_refl _, Nat.le_refl _⟩ (fun x174 h175 => ?_)
                      obtain ⟨h172, h173⟩ := h175
                      have hz176 : M3 (a + 2) (8 + 40 * v1 + v2) = M (a + 2) (8 + 40 * v1 + v2) := (hk7.getA rfl rfl rfl)
                      refine q_goto C 163 dX12_edit_159 rfl ?_
                      exact zK.weak (J_77 x174 (by omega) (by omega)) (zwk_c (zwk_c (zwk_c (zwk_n (zwk_n (zwk_c (zwk_n (zwk_c (zwk_c (zwk_n (zwk_n (zwk_n zwk_e))))))))))))
                  · refine q_bipush C dX12_edit_127 (n := 129) rfl (x := (-3)) (by decide) ?_
                    have hp177 : zFi M3 a := p1.cg (fun j => (hk7.getA rfl rfl rfl))
                    exact q_iret C dX12_edit_129 ⟨rfl, rfl⟩ (by rw [hPo]; exact ⟨(-3), M3, J4, rfl, rfl, hI5, hK8, hp177, by omega, (Or.inr ⟨⟨hft, by omega, by omega⟩, _, (zWb.cg h29 (fun j => (hk7.getA rfl rfl rfl)) (by omega) (by omega)), Or.inr ⟨by omega, zEA.noL hsm h40 (by omega) (by omega)⟩⟩), (fun h => absurd h (by omega)), (fun _ j => (hk7.getA rfl rfl rfl)), (fun h => absurd h (by omega)), (fun _ j => (hk7.getA rfl rfl rfl))⟩)
              · have gz1 := zSum_s (g := M (a + 2)) (b := 8 + 40 * v1) (i := u44) (by omega)
                have gle := zFi.le p1 hI h0 (k := v1) (l := u44) (by omega) (by omega)
                have gl : ¬ (u44 : Int) = v2 ∨ M (a + 2) (8 + 40 * v1 + u44) = M (a + 2) (8 + 40 * v1 + v2) := (Decidable.em ((u44 : Int) = v2)).symm.imp id (fun h => by rw [h])
                refine q_iload C dX12_edit_86 (n := 88) rfl rfl ?_
                refine q_iload_n C dX12_edit_88 (n := 89) rfl rfl ?_
                have J_181 : ∀ (u178 : Int), (-2147483648 ≤ u178 ∧ u178 ≤ 2147483647) → ((u44 + 1) ≤ v2 ∧ u178 = M a 2 + 1 + zSum (M (a + 2)) (8 + 40 * v1) ((u44 + 1) : Int).toNat + (u44 + 1) ∨ v2 < (u44 + 1) ∧ u178 = M a 2 + zSum (M (a + 2)) (8 + 40 * v1) ((u44 + 1) : Int).toNat + (u44 + 1) - M (a + 2) (8 + 40 * v1 + v2)) → zK w p e 3 0 0 s m args below meth c 12 T Po 106 [.ref (w.2.1 + a), zi v1, zi v2, .null, zi x35, zi u38, zi u178, zi u44, .null, .null, .null, .null] [] (T, M3, J4, R) := by
                  intro u178 h179 h180
                  refine q_iinc C [.ref (w.2.1 + a), zi v1, zi v2, .null, zi x35, zi u38, zi u178, zi (u44 + 1), .null, .null, .null, .null] dX12_edit_106 (n := 109) rfl rfl rfl rfl ?_
                  refine q_goto C 79 dX12_edit_109 rfl ?_
                  exact zK.weak (ih51 u178 (u44 + 1) (by omega) (by omega) (by omega) (by omega) (by omega)) (zwk_c (zwk_c (zwk_c (zwk_n (zwk_c (zwk_c (zwk_c (zwk_c (zwk_n (zwk_n (zwk_n (zwk_n zwk_e))))))))))))
                refine q_icmp_eq C 106 dX12_edit_89 (n := 92) rfl rfl (by omega) (fun h182 => ?_) (fun h182 => ?_)
                · exact zK.weak (J_181 u43 (by omega) (by omega)) (zwk_c (zwk_c (zwk_c (zwk_n (zwk_c (zwk_c (zwk_c (zwk_c (zwk_n (zwk_n (zwk_n (zwk_n zwk_e))))))))))))
                · refine q_iload C dX12_edit_92 (n := 94) rfl rfl ?_
                  refine q_aload_n C dX12_edit_94 (n := 95) rfl rfl ?_
                  refine q_iload_n C dX12_edit_95 (n := 96) rfl rfl ?_
                  refine q_iload C dX12_edit_96 (n := 98) rfl rfl ?_
                  refine q_callVp C dX12_edit_98 (n := 101) rfl m_X12_289 v_yX12_lengthOf (zM0 h0) ⟨by decide, rfl⟩ (c_X12_lengthOf (w := w) (J := J4) hI5 hF h0 v1 u44 (by omega) (by omega)) (Nat.le_of_ble_eq_true rfl) rfl rfl (Nat.le_of_ble_eq_true rfl) ⟨Nat.le_refl _, Nat.le_refl _⟩ (fun x185 h186 => ?_)
                  obtain ⟨h183, h184⟩ := h186
                  have hz187 : M3 (a + 2) (8 + 40 * v1 + u44) = M (a + 2) (8 + 40 * v1 + u44) := (hk7.getA rfl rfl rfl)
                  refine q_iconst C dX12_edit_101 (n := 102) rfl ?_
                  refine q_iadd C dX12_edit_102 (n := 103) rfl (v := x185 + 1) rfl ?_
                  refine q_iadd C dX12_edit_103 (n := 104) rfl (v := u43 + (x185 + 1)) rfl ?_
                  refine q_istore C [.ref (w.2.1 + a), zi v1, zi v2, .null, zi x35, zi u38, zi (u43 + (x185 + 1)), zi u44, .null, .null, .null, .null] dX12_edit_104 (n := 106) rfl rfl rfl ?_
                  exact zK.weak (J_181 (u43 + (x185 + 1)) (by omega) (by omega)) (zwk_c (zwk_c (zwk_c (zwk_n (zwk_c (zwk_c (zwk_c (zwk_c (zwk_n (zwk_n (zwk_n (zwk_n zwk_e))))))))))))
          exact zK.weak (L_49 _ ((M3 a 3) + 1) 0 (by omega) (by omega) (by omega) (by omega) (Int.self_le_toNat _)) (zwk_c (zwk_c (zwk_c (zwk_n (zwk_c (zwk_c (zwk_c (zwk_c (zwk_n (zwk_n (zwk_n (zwk_n zwk_e))))))))))))
        refine q_icmp_ne C 64 dX12_edit_54 (n := 57) rfl rfl (by omega) (fun h188 => ?_) (fun h188 => ?_)
        · refine q_iload C dX12_edit_64 (n := 66) rfl rfl ?_
          exact zK.weak (J_41 x35 (by omega) (by omega)) (zwk_c (zwk_c (zwk_c (zwk_n (zwk_c (zwk_n (zwk_n (zwk_n (zwk_n (zwk_n (zwk_n (zwk_n zwk_e))))))))))))
        · refine q_iload C dX12_edit_57 (n := 59) rfl rfl ?_
          refine q_iconst C dX12_edit_59 (n := 60) rfl ?_
          refine q_iadd C dX12_edit_60 (n := 61) rfl (v := x35 + 1) rfl ?_
          refine q_goto C 66 dX12_edit_61 rfl ?_
          exact zK.weak (J_41 (x35 + 1) (by omega) (by omega)) (zwk_c (zwk_c (zwk_c (zwk_n (zwk_c (zwk_n (zwk_n (zwk_n (zwk_n (zwk_n (zwk_n (zwk_n zwk_e))))))))))))
      · refine q_sipush C dX12_edit_38 (n := 41) rfl (x := (-1000)) (by decide) ?_
        refine q_iload_n C dX12_edit_41 (n := 42) rfl rfl ?_
        refine q_isub C dX12_edit_42 (n := 43) rfl (v := (-1000) - x30) rfl ?_
        have hp189 : zFi M3 a := p1.cg (fun j => (hk7.getA rfl rfl rfl))
        have hfe := hfo.out
        exact q_iret C dX12_edit_43 ⟨rfl, rfl⟩ (by rw [hPo]; exact ⟨(-1000) - x30, M3, J4, rfl, rfl, hI5, hK8, hp189, by omega, (Or.inr ⟨⟨by omega, by omega, by omega⟩, _, (zWb.cg h29 (fun j => (hk7.getA rfl rfl rfl)) (by omega) (by omega)), Or.inl ⟨by omega, rfl⟩⟩), (fun h => absurd h (by omega)), (fun _ j => (hk7.getA rfl rfl rfl)), (fun h => absurd h (by omega)), (fun _ j => (hk7.getA rfl rfl rfl))⟩)
    · refine q_bipush C dX12_edit_25 (n := 27) rfl (x := (-2)) (by decide) ?_
      have hp190 : zFi M3 a := p1.cg (fun j => (hk7.getA rfl rfl rfl))
      have hfe := hfo.out
      exact q_iret C dX12_edit_27 ⟨rfl, rfl⟩ (by rw [hPo]; exact ⟨(-2), M3, J4, rfl, rfl, hI5, hK8, hp190, by omega, (Or.inl ⟨by omega, rfl⟩), (fun h => absurd h (by omega)), (fun _ j => (hk7.getA rfl rfl rfl)), (fun h => absurd h (by omega)), (fun _ j => (hk7.getA rfl rfl rfl))⟩)
theorem c_X12_drop_w {w : zWp} {T : zTl} {M : zMm} {J : zJm} {R : zRm'} {G : zGt} {F : zRm'} {a : Nat} (hI : zI G M) (hF : zF F R) (h0 : zModel T F G a) (v1 : Int) (v2 : Int) (p1 : zFi M a) (p2 : -2147483648 ≤ v1 ∧ v1 ≤ 2147483647) (p3 : -2147483648 ≤ v2 ∧ v2 ≤ 2147483647) : zCt w 4 0 0 yX12_drop cX12_drop 7 (some .int) [.ref (w.2.1 + a), zi v1, zi v2] (T, M, J, R) (zPi T R G (fun x M2 => (zMd a [2, 4] [0, 9] [] M M2) ∧ (zFi M2 a) ∧ (¬ ((0 ≤ v1 ∧ v1 ≤ 3 ∧ M (a + 2) v1 = 1) ∧ 0 ≤ v2 ∧ v2 < M (a + 2) (4 + v1)) ∧ x = -1 ∧ (∀ j, M2 (a + 2) j = M (a + 2) j) ∨ ((0 ≤ v1 ∧ v1 ≤ 3 ∧ M (a + 2) v1 = 1) ∧ 0 ≤ v2 ∧ v2 < M (a + 2) (4 + v1)) ∧ x = M (a + 2) (4 + v1) - 1 ∧ zDp M M2 a v1 v2 (M (a + 2) (4 + v1))) ∧ (((0 ≤ v1 ∧ v1 ≤ 3 ∧ M (a + 2) v1 = 1) ∧ 0 ≤ v2 ∧ v2 < M (a + 2) (4 + v1)) → zMv M2 M a ((400 * v1 + zSum (M (a + 2)) (8 + 40 * v1) v2.toNat) + M (a + 2) (8 + 40 * v1 + v2)) (400 * v1 + zSum (M (a + 2)) (8 + 40 * v1) (M (a + 2) (4 + v1)).toNat) (0 - M (a + 2) (8 + 40 * v1 + v2))) ∧ (x = -1 → ∀ j, M2 (a + 4) j = M (a + 4) j))) := by
  refine zCt.of rfl (Nat.le_of_ble_eq_true rfl) ?_
  intro p e s m args below meth c C
  obtain ⟨Po, hPo⟩ : ∃ Po, Po = zPi T R G (fun x M2 => (zMd a [2, 4] [0, 9] [] M M2) ∧ (zFi M2 a) ∧ (¬ ((0 ≤ v1 ∧ v1 ≤ 3 ∧ M (a + 2) v1 = 1) ∧ 0 ≤ v2 ∧ v2 < M (a + 2) (4 + v1)) ∧ x = -1 ∧ (∀ j, M2 (a + 2) j = M (a + 2) j) ∨ ((0 ≤ v1 ∧ v1 ≤ 3 ∧ M (a + 2) v1 = 1) ∧ 0 ≤ v2 ∧ v2 < M (a + 2) (4 + v1)) ∧ x = M (a + 2) (4 + v1) - 1 ∧ zDp M M2 a v1 v2 (M (a + 2) (4 + v1))) ∧ (((0 ≤ v1 ∧ v1 ≤ 3 ∧ M (a + 2) v1 = 1) ∧ 0 ≤ v2 ∧ v2 < M (a + 2) (4 + v1)) → zMv M2 M a ((400 * v1 + zSum (M (a + 2)) (8 + 40 * v1) v2.toNat) + M (a + 2) (8 + 40 * v1 + v2)) (400 * v1 + zSum (M (a + 2)) (8 + 40 * v1) (M (a + 2) (4 + v1)).toNat) (0 - M (a + 2) (8 + 40 * v1 + v2))) ∧ (x = -1 → ∀ j, M2 (a + 4) j = M (a + 4) j)) := ⟨_, rfl⟩
  rw [← hPo]
  have hK0 : zMd a [2, 4] [0, 9] [] M M := zMd.rf
  show zK w p e 4 0 0 s m args below meth c 7 T Po 0 [.ref (w.2.1 + a), zi v1, zi v2, .null, .null, .null, .null] [] (T, M, J, R)
  refine q_aload_n C dX12_drop_0 (n := 1) rfl rfl ?_
  refine q_iconst C dX12_drop_1 (n := 2) rfl ?_
  refine q_putI C dX12_drop_2 (n := 5) rfl f_X12_1 (zM0 h0) ⟨rfl, rfl⟩ (fun M1 (e2 : M1 = zup M a 0 0) => ?_)
  have hI3 : zI G M1 := hI.put e2 (zM1 h0) rfl (by omega)
  have hK4 := hK0.upS e2 rfl
  refine q_aload_n C dX12_drop_5 (n := 6) rfl rfl ?_
  refine q_iload_n C dX12_drop_6 (n := 7) rfl rfl ?_
  refine q_iload_n C dX12_drop_7 (n := 8) rfl rfl ?_
  refine q_callVp C dX12_drop_8 (n := 11) rfl m_X12_324 v_yX12_isLine (zM0 h0) ⟨by decide, rfl⟩ (c_X12_isLine_e (w := w) (J := J) hI3 hF h0 v1 v2 (by omega) (by omega)) (Nat.le_of_ble_eq_true rfl) rfl rfl (Nat.le_of_ble_eq_true rfl) ⟨Nat.le_refl _, Nat.le_refl _⟩ (fun x8 h9 => ?_)
  obtain ⟨h5, h6, h7⟩ := h9
  have hz10 : M1 (a + 2) (4 + v1) = M (a + 2) (4 + v1) := (zup_p e2 (by omega) _)
  have hz11 : M1 (a + 2) v1 = M (a + 2) v1 := (zup_p e2 (by omega) _)
  refine q_if_ne C 16 dX12_drop_11 (n := 14) rfl rfl (by omega) (fun h12 => ?_) (fun h12 => ?_)
  · refine q_aload_n C dX12_drop_16 (n := 17) rfl rfl ?_
    refine q_iload_n C dX12_drop_17 (n := 18) rfl rfl ?_
    refine q_iload_n C dX12_drop_18 (n := 19) rfl rfl ?_
    have hp13 : zFi M1 a := p1.cg (fun j => (zup_p e2 (by omega) _))
    refine q_callVp C dX12_drop_19 (n := 22) rfl m_X12_321 v_yX12_beginOf (zM0 h0) ⟨by decide, rfl⟩ (c_X12_beginOf (w := w) (J := J) hI3 hF h0 v1 v2 hp13 (by omega) (by have hz14 : M1 (a + 2) (4 + v1) = M (a + 2) (4 + v1) := (zup_p e2 (by omega) _); omega)) (Nat.le_of_ble_eq_true rfl) rfl rfl (Nat.le_of_ble_eq_true rfl) ⟨Nat.le_refl _, Nat.le_refl _⟩ (fun x18 h19 => ?_)
    obtain ⟨h15, h16, h17⟩ := h19
    have hz20 : M1 (a + 2) (4 + v1) = M (a + 2) (4 + v1) := (zup_p e2 (by omega) _)
    have hz21 : M1 (a + 2) (8 + 40 * v1 + v2) = M (a + 2) (8 + 40 * v1 + v2) := (zup_p e2 (by omega) _)
    have gM1 : M1 (a + 2) = M (a + 2) := funext (fun j => (zup_p e2 (by omega) _))
    have gs1 : zSum (M1 (a + 2)) (8 + 40 * v1) (v2 : Int).toNat = zSum (M (a + 2)) (8 + 40 * v1) (v2 : Int).toNat := by rw [gM1]
    refine q_istore_n C [.ref (w.2.1 + a), zi v1, zi v2, zi x18, .null, .null, .null] dX12_drop_22 (n := 23) rfl rfl rfl ?_
    refine q_aload_n C dX12_drop_23 (n := 24) rfl rfl ?_
    refine q_iload_n C dX12_drop_24 (n := 25) rfl rfl ?_
    refine q_iload_n C dX12_drop_25 (n := 26) rfl rfl ?_
    refine q_callVp C dX12_drop_26 (n := 29) rfl m_X12_289 v_yX12_lengthOf (zM0 h0) ⟨by decide, rfl⟩ (c_X12_lengthOf (w := w) (J := J) hI3 hF h0 v1 v2 (by omega) (by omega)) (Nat.le_of_ble_eq_true rfl) rfl rfl (Nat.le_of_ble_eq_true rfl) ⟨Nat.le_refl _, Nat.le_refl _⟩ (fun x24 h25 => ?_)
    obtain ⟨h22, h23⟩ := h25
    have hz26 : M1 (a + 2) (8 + 40 * v1 + v2) = M (a + 2) (8 + 40 * v1 + v2) := (zup_p e2 (by omega) _)
    refine q_istore C [.ref (w.2.1 + a), zi v1, zi v2, zi x18, zi x24, .null, .null] dX12_drop_29 (n := 31) rfl rfl rfl ?_
    refine q_aload_n C dX12_drop_31 (n := 32) rfl rfl ?_
    refine q_iload_n C dX12_drop_32 (n := 33) rfl rfl ?_
    refine q_aload_n C dX12_drop_33 (n := 34) rfl rfl ?_
    refine q_iload_n C dX12_drop_34 (n := 35) rfl rfl ?_
    refine q_callVp C dX12_drop_35 (n := 38) rfl m_X12_285 v_yX12_linesOf (zM0 h0) ⟨by decide, rfl⟩ (c_X12_linesOf (w := w) (J := J) hI3 hF h0 v1 (by omega)) (Nat.le_of_ble_eq_true rfl) rfl rfl (Nat.le_of_ble_eq_true rfl) ⟨Nat.le_refl _, Nat.le_refl _⟩ (fun x29 h30 => ?_)
    obtain ⟨h27, h28⟩ := h30
    have hz31 : M1 (a + 2) (4 + v1) = M (a + 2) (4 + v1) := (zup_p e2 (by omega) _)
    refine q_callVp C dX12_drop_38 (n := 41) rfl m_X12_321 v_yX12_beginOf (zM0 h0) ⟨by decide, rfl⟩ (c_X12_beginOf (w := w) (J := J) hI3 hF h0 v1 x29 hp13 (by omega) (by have hz32 : M1 (a + 2) (4 + v1) = M (a + 2) (4 + v1) := (zup_p e2 (by omega) _); omega)) (Nat.le_of_ble_eq_true rfl) rfl rfl (Nat.le_of_ble_eq_true rfl) ⟨Nat.le_refl _, Nat.le_refl _⟩ (fun x36 h37 => ?_)
    obtain ⟨h33, h34, h35⟩ := h37
    have hz38 : M1 (a + 2) (4 + v1) = M (a + 2) (4 + v1) := (zup_p e2 (by omega) _)
    have hz39 : M1 (a + 2) (8 + 40 * v1 + x29) = M (a + 2) (8 + 40 * v1 + x29) := (zup_p e2 (by omega) _)
    have gM2 : M1 (a + 2) = M (a + 2) := funext (fun j => (zup_p e2 (by omega) _))
    have gs2 : zSum (M1 (a + 2)) (8 + 40 * v1) (x29 : Int).toNat = zSum (M (a + 2)) (8 + 40 * v1) (x29 : Int).toNat := by rw [gM2]
    have gs3 : zSum (M (a + 2)) (8 + 40 * v1) (x29 : Int).toNat = zSum (M (a + 2)) (8 + 40 * v1) (M (a + 2) (4 + v1)).toNat := by rw [show (x29 : Int) = M (a + 2) (4 + v1) by omega]
    refine q_istore C [.ref (w.2.1 + a), zi v1, zi v2, zi x18, zi x24, zi x36, .null] dX12_drop_41 (n := 43) rfl rfl rfl ?_
    have gmo := zFi.mo p1 hI h0 (k := v1) (l := v2) (by omega) (by omega)
    refine q_iload_n C dX12_drop_43 (n := 44) rfl rfl ?_
    refine q_iload C dX12_drop_44 (n := 46) rfl rfl ?_
    refine q_iadd C dX12_drop_46 (n := 47) rfl (v := x18 + x24) rfl ?_
    refine q_istore C [.ref (w.2.1 + a), zi v1, zi v2, zi x18, zi x24, zi x36, zi (x18 + x24)] dX12_drop_47 (n := 49) rfl rfl rfl ?_
    have L_51 : ∀ n52 : Nat, ∀ (u40 : Int) (M42 : zMm) (J43 : zJm), zI G M42 → zMd a [2, 4] [0, 9] [] M M42 → zMd a [4] [] [] M1 M42 → (-2147483648 ≤ u40 ∧ u40 ≤ 2147483647) → (x18 + x24 ≤ u40 ∧ u40 ≤ 1700) → (u40 ≤ x36) → (zMd2 M42 M a (x18 + x24) u40 (0 - x24)) → (1701 - u40 ≤ (n52 : Int)) → zK w p e 4 0 0 s m args below meth c 7 T Po 49 [.ref (w.2.1 + a), zi v1, zi v2, .null, zi x24, zi x36, zi u40] [] (T, M42, J43, R) := by
      intro n52
      induction n52 with
      | zero =>
        intro u40 M42 J43 hI44 hK45 hK46 h47 h48 h49 h50 hm54
        exfalso
        omega
      | succ n52 ih53 =>
        intro u40 M42 J43 hI44 hK45 hK46 h47 h48 h49 h50 hm54
        refine q_iload C dX12_drop_49 (n := 51) rfl rfl ?_
        refine q_iload C dX12_drop_51 (n := 53) rfl rfl ?_
        refine q_icmp_ge C 79 dX12_drop_53 (n := 56) rfl rfl (by omega) (fun h55 => ?_) (fun h55 => ?_)
        · refine q_iload_n C dX12_drop_79 (n := 80) rfl rfl ?_
          refine q_istore C [.ref (w.2.1 + a), zi v1, zi v2, .null, zi x24, zi x36, zi v2] dX12_drop_80 (n := 82) rfl rfl rfl ?_
          have L_67 : ∀ n68 : Nat, ∀ (u56 : Int) (M58 : zMm) (J59 : zJm), zI G M58 → zMd a [2, 4] [0, 9] [] M M58 → zMd a [2] [] [] M42 M58 → (-2147483648 ≤ u56 ∧ u56 ≤ 2147483647) → (v2 ≤ u56 ∧ u56 ≤ M (a + 2) (4 + v1) - 1) → (zDr M58 M a v1 v2 u56) → (M58 (a + 2) (4 + v1) = M (a + 2) (4 + v1)) → (41 - u56 ≤ (n68 : Int)) → zK w p e 4 0 0 s m args below meth c 7 T Po 82 [.ref (w.2.1 + a), zi v1, .null, .null, .null, .null, zi u56] [] (T, M58, J59, R) := by
            intro n68
            induction n68 with
            | zero =>
              intro u56 M58 J59 hI60 hK61 hK62 h63 h64 h65 h66 hm70
              exfalso
              omega
            | succ n68 ih69 =>
              intro u56 M58 J59 hI60 hK61 hK62 h63 h64 h65 h66 hm70
              refine q_iload C dX12_drop_82 (n := 84) rfl rfl ?_
              refine q_aload_n C dX12_drop_84 (n := 85) rfl rfl ?_
              refine q_iload_n C dX12_drop_85 (n := 86) rfl rfl ?_
              refine q_callVp C dX12_drop_86 (n := 89) rfl m_X12_285 v_yX12_linesOf (zM0 h0) ⟨by decide, rfl⟩ (c_X12_linesOf (w := w) (J := J59) hI60 hF h0 v1 (by omega)) (Nat.le_of_ble_eq_true rfl) rfl rfl (Nat.le_of_ble_eq_true rfl) ⟨Nat.le_refl _, Nat.le_refl _⟩ (fun x73 h74 => ?_)
              obtain ⟨h71, h72⟩ := h74
              refine q_iconst C dX12_drop_89 (n := 90) rfl ?_
              refine q_isub C dX12_drop_90 (n := 91) rfl (v := x73 - 1) rfl ?_
              refine q_icmp_ge C 132 dX12_drop_91 (n := 94) rfl rfl (by omega) (fun h75 => ?_) (fun h75 => ?_)
              · refine q_aload_n C dX12_drop_132 (n := 133) rfl rfl ?_
                refine q_getR C dX12_drop_133 (n := 136) rfl f_X12_17 (zM0 h0) (hF _ _ _ (zM7 h0)) ?_
                refine q_iconst C dX12_drop_136 (n := 137) rfl ?_
                refine q_iload_n C dX12_drop_137 (n := 138) rfl rfl ?_
                refine q_iadd C dX12_drop_138 (n := 139) rfl (v := 4 + v1) rfl ?_
                refine q_dup2 C dX12_drop_139 (n := 140) rfl ⟨rfl, rfl⟩ ?_
                have g76 := zI.at hI60 (((zM9 h0) (4 + v1)).trans (zfG_4 (by omega)))
                refine q_iald C dX12_drop_140 (n := 141) rfl (zM8 h0) (by omega) (v := M58 (a + 2) (4 + v1)) rfl ?_
                refine q_iconst C dX12_drop_141 (n := 142) rfl ?_
                refine q_isub C dX12_drop_142 (n := 143) rfl (v := (M58 (a + 2) (4 + v1)) - 1) rfl ?_
                refine q_iast C dX12_drop_143 (n := 144) rfl (zM8 h0) (by omega)  (fun M77 e78 => ?_)
                have hI79 : zI G M77 := hI60.put e78 (((zM9 h0) (4 + v1)).trans (zfG_4 (by omega))) rfl (by omega)
                have hK80 := hK61.upA e78 rfl
                have hK81 := hK62.upA e78 rfl
                refine q_aload_n C dX12_drop_144 (n := 145) rfl rfl ?_
                refine q_iconst C dX12_drop_145 (n := 146) rfl ?_
                refine q_putZ C dX12_drop_146 (n := 149) rfl f_X12_300 (zM0 h0) ⟨rfl, rfl⟩ (by omega) (fun M82 (e83 : M82 = zup M77 a 9 0) => ?_)
                have hI84 : zI G M82 := hI79.put e83 (zM22 h0) rfl (by omega)
                have hK85 := hK80.upS e83 rfl
                refine q_aload_n C dX12_drop_149 (n := 150) rfl rfl ?_
                refine q_iload_n C dX12_drop_150 (n := 151) rfl rfl ?_
                refine q_callVp C dX12_drop_151 (n := 154) rfl m_X12_285 v_yX12_linesOf (zM0 h0) ⟨by decide, rfl⟩ (c_X12_linesOf (w := w) (J := J59) hI84 hF h0 v1 (by omega)) (Nat.le_of_ble_eq_true rfl) rfl rfl (Nat.le_of_ble_eq_true rfl) ⟨Nat.le_refl _, Nat.le_refl _⟩ (fun x89 h90 => ?_)
                obtain ⟨h87, h88⟩ := h90
                have hz91 : M82 (a + 2) (4 + v1) = (M58 (a + 2) (4 + v1)) - 1 := ((zup_p e83 (by omega) _).trans (zup_s e78))
                have gei : u56 = M (a + 2) (4 + v1) - 1 := by omega
                have hp92 : zFi M77 a := zDr.fi (n := M (a + 2) (4 + v1)) (by rw [← gei]; exact h65) p1 hI h0 (by omega) rfl (by omega) e78 (by omega)
                have hp93 : zFi M82 a := hp92.cg (fun j => (zup_p e83 (by omega) _))
                exact q_iret C dX12_drop_154 ⟨rfl, rfl⟩ (by rw [hPo]; exact ⟨x89, M82, J59, rfl, rfl, hI84, hK85, hp93, (Or.inr ⟨by omega, by omega, zDp.of h65 e78 (fun j => (zup_p e83 (by omega) _)) (by omega) (by omega)⟩), (fun _ => by have t := zMd2.mv (hi := x36) h50 (fun j => ((zup_p e83 (by omega) _).trans ((zup_p e78 (by omega) _).trans (hK62.getA rfl rfl rfl)))) (by omega) (by omega); rw [show (x18 : Int) = 400 * v1 + zSum (M (a + 2)) (8 + 40 * v1) v2.toNat by omega, show (x24 : Int) = M (a + 2) (8 + 40 * v1 + v2) by omega, show (x36 : Int) = 400 * v1 + zSum (M (a + 2)) (8 + 40 * v1) (M (a + 2) (4 + v1)).toNat by omega] at t; exact t), (fun h => absurd h (by omega))⟩)
              · refine q_aload_n C dX12_drop_94 (n := 95) rfl rfl ?_
                refine q_getR C dX12_drop_95 (n := 98) rfl f_X12_17 (zM0 h0) (hF _ _ _ (zM7 h0)) ?_
                refine q_bipush C dX12_drop_98 (n := 100) rfl (x := 8) (by decide) ?_
                refine q_bipush C dX12_drop_100 (n := 102) rfl (x := 40) (by decide) ?_
                refine q_iload_n C dX12_drop_102 (n := 103) rfl rfl ?_
                refine q_imul C dX12_drop_103 (n := 104) rfl (v := 40 * v1) rfl ?_
                refine q_iadd C dX12_drop_104 (n := 105) rfl (v := 8 + (40 * v1)) rfl ?_
                refine q_iload C dX12_drop_105 (n := 107) rfl rfl ?_
                refine q_iadd C dX12_drop_107 (n := 108) rfl (v := (8 + (40 * v1)) + u56) rfl ?_
                refine q_aload_n C dX12_drop_108 (n := 109) rfl rfl ?_
                refine q_getR C dX12_drop_109 (n := 112) rfl f_X12_17 (zM0 h0) (hF _ _ _ (zM7 h0)) ?_
                refine q_bipush C dX12_drop_112 (n := 114) rfl (x := 8) (by decide) ?_
                refine q_bipush C dX12_drop_114 (n := 116) rfl (x := 40) (by decide) ?_
                refine q_iload_n C dX12_drop_116 (n := 117) rfl rfl ?_
                refine q_imul C dX12_drop_117 (n := 118) rfl (v := 40 * v1) rfl ?_
                refine q_iadd C dX12_drop_118 (n := 119) rfl (v := 8 + (40 * v1)) rfl ?_
                refine q_iload C dX12_drop_119 (n := 121) rfl rfl ?_
                refine q_iadd C dX12_drop_121 (n := 122) rfl (v := (8 + (40 * v1)) + u56) rfl ?_
                refine q_iconst C dX12_drop_122 (n := 123) rfl ?_
                refine q_iadd C dX12_drop_123 (n := 124) rfl (v := ((8 + (40 * v1)) + u56) + 1) rfl ?_
                have g94 := zI.at hI60 (((zM9 h0) (((8 + (40 * v1)) + u56) + 1)).trans (zfG_8 (by omega)))
                refine q_iald C dX12_drop_124 (n := 125) rfl (zM8 h0) (by omega) (v := M58 (a + 2) (((8 + (40 * v1)) + u56) + 1)) rfl ?_
                refine q_iast C dX12_drop_125 (n := 126) rfl (zM8 h0) (by omega)  (fun M95 e96 => ?_)
                have hI97 : zI G M95 := hI60.put e96 (((zM9 h0) ((8 + (40 * v1)) + u56)).trans (zfG_8 (by omega))) rfl (by omega)
                have hK98 := hK61.upA e96 rfl
                have hK99 := hK62.upA e96 rfl
                refine q_iinc C [.ref (w.2.1 + a), zi v1, .null, .null, .null, .null, zi (u56 + 1)] dX12_drop_126 (n := 129) rfl rfl rfl rfl ?_
                refine q_goto C 82 dX12_drop_129 rfl ?_
                exact zK.weak (ih69 (u56 + 1) M95 J59 hI97 hK98 hK99 (by omega) (by omega) (h65.step e96 (by have hw : M58 (a + 2) (8 + 40 * v1 + u56 + 1) = M58 (a + 2) (8 + 40 * v1 + u56 + 1) := rfl; omega) (by omega)) (by have hw : M95 (a + 2) (4 + v1) = M58 (a + 2) (4 + v1) := (zup_n e96 (by omega)); omega) (by omega)) (zwk_c (zwk_c (zwk_n (zwk_n (zwk_n (zwk_n (zwk_c zwk_e)))))))
          exact zK.weak (L_67 _ v2 M42 J43 hI44 hK45 (zMd.rf : zMd a [2] [] [] M42 M42) (by omega) (by omega) (zDr.zero (fun j => ((hK46.getA rfl rfl rfl).trans (zup_p e2 (by omega) _)))) (by have hw : M42 (a + 2) (4 + v1) = M (a + 2) (4 + v1) := ((hK46.getA rfl rfl rfl).trans (zup_p e2 (by omega) _)); omega) (Int.self_le_toNat _)) (zwk_c (zwk_c (zwk_n (zwk_n (zwk_n (zwk_n (zwk_c zwk_e)))))))
        · refine q_aload_n C dX12_drop_56 (n := 57) rfl rfl ?_
          refine q_getR C dX12_drop_57 (n := 60) rfl f_X12_24 (zM0 h0) (hF _ _ _ (zM13 h0)) ?_
          refine q_iload C dX12_drop_60 (n := 62) rfl rfl ?_
          refine q_iload C dX12_drop_62 (n := 64) rfl rfl ?_
          refine q_isub C dX12_drop_64 (n := 65) rfl (v := u40 - x24) rfl ?_
          refine q_aload_n C dX12_drop_65 (n := 66) rfl rfl ?_
          refine q_getR C dX12_drop_66 (n := 69) rfl f_X12_24 (zM0 h0) (hF _ _ _ (zM13 h0)) ?_
          refine q_iload C dX12_drop_69 (n := 71) rfl rfl ?_
          have g100 := zI.at hI44 ((zM15 h0) u40)
          refine q_bald C dX12_drop_71 (n := 72) rfl (zM14 h0) (by omega) (v := M42 (a + 4) u40) rfl ?_
          refine q_bast C dX12_drop_72 (n := 73) rfl (zM14 h0) (by omega) (by omega) (fun M101 e102 => ?_)
          have hI103 : zI G M101 := hI44.put e102 ((zM15 h0) (u40 - x24)) rfl (by omega)
          have hK104 := hK45.upA e102 rfl
          have hK105 := hK46.upA e102 rfl
          refine q_iinc C [.ref (w.2.1 + a), zi v1, zi v2, .null, zi x24, zi x36, zi (u40 + 1)] dX12_drop_73 (n := 76) rfl rfl rfl rfl ?_
          refine q_goto C 49 dX12_drop_76 rfl ?_
          exact zK.weak (ih53 (u40 + 1) M101 J43 hI103 hK104 hK105 (by omega) (by omega) (by omega) (zMd2.step h50 e102 (by omega) rfl (by omega) (by omega) rfl) (by omega)) (zwk_c (zwk_c (zwk_c (zwk_n (zwk_c (zwk_c (zwk_c zwk_e)))))))
    exact zK.weak (L_51 _ (x18 + x24) M1 J hI3 hK4 (zMd.rf : zMd a [4] [] [] M1 M1) (by omega) (by omega) (by omega) (zMd2.init (fun j => (zup_p e2 (by omega) _)) rfl) (Int.self_le_toNat _)) (zwk_c (zwk_c (zwk_c (zwk_n (zwk_c (zwk_c (zwk_c zwk_e)))))))
  · refine q_iconst C dX12_drop_14 (n := 15) rfl ?_
    have hp106 : zFi M1 a := p1.cg (fun j => (zup_p e2 (by omega) _))
    exact q_iret C dX12_drop_15 ⟨rfl, rfl⟩ (by rw [hPo]; exact ⟨(-1), M1, J, rfl, rfl, hI3, hK4, hp106, (Or.inl ⟨by omega, rfl, (fun j => (zup_p e2 (by omega) _))⟩), (fun h => absurd h.1.1 (by omega)), (fun _ j => (zup_p e2 (by omega) _))⟩)
theorem c_X12_image_w {w : zWp} {T : zTl} {M : zMm} {J : zJm} {R : zRm'} {G : zGt} {F : zRm'} {a : Nat} (hI : zI G M) (hF : zF F R) (h0 : zModel T F G a) (v1 : Int) (p1 : zFi M a) (p2 : zFk M a) (p3 : -2147483648 ≤ v1 ∧ v1 ≤ 2147483647) : zCt w 2 0 0 yX12_image cX12_image 3 (some .boolean) [.ref (w.2.1 + a), zi v1] (T, M, J, R) (zPi T R G (fun x M2 => (zMd a [3, 5, 6] [0] [] M M2) ∧ (x = 0 ∨ x = 1) ∧ (zFk M2 a) ∧ (x = 0 ∨ 0 ≤ v1 ∧ v1 ≤ 1) ∧ (x = 1 ∨ v1 < 0 ∨ 1 < v1) ∧ (∀ j : Int, M2 (a + 6) j = M (a + 6) j ∨ j = v1 ∧ x = 1 ∧ M2 (a + 6) j = 1) ∧ (x = 1 → M2 (a + 6) v1 = 1) ∧ ((v1 < 0 ∨ 2 ≤ v1) ∧ (∀ j, M2 (a + 3) j = M (a + 3) j) ∨ (0 ≤ v1 ∧ v1 < 2) ∧ zImg M2 M a v1 173) ∧ ((v1 < 0 ∨ 2 ≤ v1) ∧ (∀ j, M2 (a + 5) j = M (a + 5) j) ∨ (0 ≤ v1 ∧ v1 < 2) ∧ zIb M2 M a v1 1690))) := by
  refine zCt.of rfl (Nat.le_of_ble_eq_true rfl) ?_
  intro p e s m args below meth c C
  obtain ⟨Po, hPo⟩ : ∃ Po, Po = zPi T R G (fun x M2 => (zMd a [3, 5, 6] [0] [] M M2) ∧ (x = 0 ∨ x = 1) ∧ (zFk M2 a) ∧ (x = 0 ∨ 0 ≤ v1 ∧ v1 ≤ 1) ∧ (x = 1 ∨ v1 < 0 ∨ 1 < v1) ∧ (∀ j : Int, M2 (a + 6) j = M (a + 6) j ∨ j = v1 ∧ x = 1 ∧ M2 (a + 6) j = 1) ∧ (x = 1 → M2 (a + 6) v1 = 1) ∧ ((v1 < 0 ∨ 2 ≤ v1) ∧ (∀ j, M2 (a + 3) j = M (a + 3) j) ∨ (0 ≤ v1 ∧ v1 < 2) ∧ zImg M2 M a v1 173) ∧ ((v1 < 0 ∨ 2 ≤ v1) ∧ (∀ j, M2 (a + 5) j = M (a + 5) j) ∨ (0 ≤ v1 ∧ v1 < 2) ∧ zIb M2 M a v1 1690)) := ⟨_, rfl⟩
  rw [← hPo]
  have hK0 : zMd a [3, 5, 6] [0] [] M M := zMd.rf
  show zK w p e 2 0 0 s m args below meth c 3 T Po 0 [.ref (w.2.1 + a), zi v1, .null] [] (T, M, J, R)
  refine q_aload_n C dX12_image_0 (n := 1) rfl rfl ?_
  refine q_iconst C dX12_image_1 (n := 2) rfl ?_
  refine q_putI C dX12_image_2 (n := 5) rfl f_X12_1 (zM0 h0) ⟨rfl, rfl⟩ (fun M1 (e2 : M1 = zup M a 0 0) => ?_)
  have hI3 : zI G M1 := hI.put e2 (zM1 h0) rfl (by omega)
  have hK4 := hK0.upS e2 rfl
  refine q_iload_n C dX12_image_5 (n := 6) rfl rfl ?_
  refine q_iconst C dX12_image_6 (n := 7) rfl ?_
  refine q_iconst C dX12_image_7 (n := 8) rfl ?_
  refine q_callSp C dX12_image_8 (n := 11) rfl m_X12_277 s_yX12_isIn (c_X12_isIn (w := w) (J := J) hI3 hF v1 0 1 (by omega) (by omega) (by omega)) (Nat.le_of_ble_eq_true rfl) rfl rfl (Nat.le_of_ble_eq_true rfl) ⟨Nat.le_refl _, Nat.le_refl _⟩ (fun x8 h9 => ?_)
  obtain ⟨h5, h6, h7⟩ := h9
  refine q_if_ne C 16 dX12_image_11 (n := 14) rfl rfl (by omega) (fun h10 => ?_) (fun h10 => ?_)
  · refine q_iconst C dX12_image_16 (n := 17) rfl ?_
    refine q_istore_n C [.ref (w.2.1 + a), zi v1, zi 0] dX12_image_17 (n := 18) rfl rfl rfl ?_
    have L_21 : ∀ n22 : Nat, ∀ (u11 : Int) (M13 : zMm) (J14 : zJm), zI G M13 → zMd a [3, 5, 6] [0] [] M M13 → zMd a [3] [] [] M1 M13 → (-2147483648 ≤ u11 ∧ u11 ≤ 2147483647) → (0 ≤ u11 ∧ u11 ≤ 173) → (zImg M13 M a v1 u11) → (173 - u11 + 1 ≤ (n22 : Int)) → zK w p e 2 0 0 s m args below meth c 3 T Po 18 [.ref (w.2.1 + a), zi v1, zi u11] [] (T, M13, J14, R) := by
      intro n22
      induction n22 with
      | zero =>
        intro u11 M13 J14 hI15 hK16 hK17 h18 h19 h20 hm24
        exfalso
        omega
      | succ n22 ih23 =>
        intro u11 M13 J14 hI15 hK16 hK17 h18 h19 h20 hm24
        refine q_iload_n C dX12_image_18 (n := 19) rfl rfl ?_
        refine q_sipush C dX12_image_19 (n := 22) rfl (x := 173) (by decide) ?_
        refine q_icmp_ge C 49 dX12_image_22 (n := 25) rfl rfl (by omega) (fun h25 => ?_) (fun h25 => ?_)
        · refine q_iconst C dX12_image_49 (n := 50) rfl ?_
          refine q_istore_n C [.ref (w.2.1 + a), zi v1, zi 0] dX12_image_50 (n := 51) rfl rfl rfl ?_
          have L_36 : ∀ n37 : Nat, ∀ (u26 : Int) (M28 : zMm) (J29 : zJm), zI G M28 → zMd a [3, 5, 6] [0] [] M M28 → zMd a [5] [] [] M13 M28 → (-2147483648 ≤ u26 ∧ u26 ≤ 2147483647) → (0 ≤ u26 ∧ u26 ≤ 1690) → (zIb M28 M a v1 u26) → (1690 - u26 + 1 ≤ (n37 : Int)) → zK w p e 2 0 0 s m args below meth c 3 T Po 51 [.ref (w.2.1 + a), zi v1, zi u26] [] (T, M28, J29, R) := by
            intro n37
            induction n37 with
            | zero =>
              intro u26 M28 J29 hI30 hK31 hK32 h33 h34 h35 hm39
              exfalso
              omega
            | succ n37 ih38 =>
              intro u26 M28 J29 hI30 hK31 hK32 h33 h34 h35 hm39
              refine q_iload_n C dX12_image_51 (n := 52) rfl rfl ?_
              refine q_sipush C dX12_image_52 (n := 55) rfl (x := 1690) (by decide) ?_
              refine q_icmp_ge C 82 dX12_image_55 (n := 58) rfl rfl (by omega) (fun h40 => ?_) (fun h40 => ?_)
              · refine q_aload_n C dX12_image_82 (n := 83) rfl rfl ?_
                refine q_getR C dX12_image_83 (n := 86) rfl f_X12_30 (zM0 h0) (hF _ _ _ (zM19 h0)) ?_
                refine q_iload_n C dX12_image_86 (n := 87) rfl rfl ?_
                refine q_iconst C dX12_image_87 (n := 88) rfl ?_
                refine q_zast C dX12_image_88 (n := 89) rfl (zM20 h0) (by omega) (by omega) (fun M41 e42 => ?_)
                have hI43 : zI G M41 := hI30.put e42 ((zM21 h0) v1) rfl (by omega)
                have hK44 := hK31.upA e42 rfl
                refine q_iconst C dX12_image_89 (n := 90) rfl ?_
                have hp46 : zImg M41 M a v1 u11 := h20.cg (fun j => ((zup_p e42 (by omega) _).trans (hK32.getA rfl rfl rfl)))
                have ge : u11 = 173 := by omega
                exact q_zret C dX12_image_90 ⟨rfl, rfl⟩ (by omega) (by rw [hPo]; exact ⟨1, M41, J29, rfl, rfl, hI43, hK44, by omega, (zImg.fk (by rw [← ge]; exact hp46) hI h0 (by omega) p1 p2), by omega, by omega, (fun j => (Decidable.em (j = v1)).elim (fun hj => Or.inr ⟨hj, by omega, by rw [hj]; exact zup_s e42⟩) (fun hj => Or.inl ((zup_n e42 (fun z => hj z.2)).trans ((hK32.getA rfl rfl rfl).trans ((hK17.getA rfl rfl rfl).trans (zup_p e2 (by omega) _)))))), (fun _ => zup_s e42), (Or.inr ⟨by omega, (show zImg M41 M a v1 173 from by rw [← (show u11 = 173 by omega)]; exact hp46)⟩), (Or.inr ⟨by omega, zIb.cg h35 (fun j => (zup_p e42 (by omega) _)) (by omega)⟩)⟩)
              · refine q_aload_n C dX12_image_58 (n := 59) rfl rfl ?_
                refine q_getR C dX12_image_59 (n := 62) rfl f_X12_27 (zM0 h0) (hF _ _ _ (zM16 h0)) ?_
                refine q_sipush C dX12_image_62 (n := 65) rfl (x := 1690) (by decide) ?_
                refine q_iload_n C dX12_image_65 (n := 66) rfl rfl ?_
                refine q_imul C dX12_image_66 (n := 67) rfl (v := 1690 * v1) rfl ?_
                refine q_iload_n C dX12_image_67 (n := 68) rfl rfl ?_
                refine q_iadd C dX12_image_68 (n := 69) rfl (v := (1690 * v1) + u26) rfl ?_
                refine q_aload_n C dX12_image_69 (n := 70) rfl rfl ?_
                refine q_getR C dX12_image_70 (n := 73) rfl f_X12_24 (zM0 h0) (hF _ _ _ (zM13 h0)) ?_
                refine q_iload_n C dX12_image_73 (n := 74) rfl rfl ?_
                have g47 := zI.at hI ((zM15 h0) u26)
                refine q_bald C dX12_image_74 (n := 75) rfl (zM14 h0) (by omega) (v := M (a + 4) u26) ((hK32.getA rfl rfl rfl).trans ((hK17.getA rfl rfl rfl).trans (zup_p e2 (by omega) _))) ?_
                refine q_bast C dX12_image_75 (n := 76) rfl (zM17 h0) (by omega) (by omega) (fun M48 e49 => ?_)
                have hI50 : zI G M48 := hI30.put e49 ((zM18 h0) ((1690 * v1) + u26)) rfl (by omega)
                have hK51 := hK31.upA e49 rfl
                have hK52 := hK32.upA e49 rfl
                refine q_iinc C [.ref (w.2.1 + a), zi v1, zi (u26 + 1)] dX12_image_76 (n := 79) rfl rfl rfl rfl ?_
                refine q_goto C 51 dX12_image_79 rfl ?_
                exact zK.weak (ih38 (u26 + 1) M48 J29 hI50 hK51 hK52 (by omega) (by omega) (zIb.step h35 e49 (by omega) rfl (by omega)) (by omega)) (zwk_c (zwk_c (zwk_c zwk_e)))
          exact zK.weak (L_36 _ 0 M13 J14 hI15 hK16 (zMd.rf : zMd a [5] [] [] M13 M13) (by omega) (by omega) (zIb.zero (fun j => ((hK17.getA rfl rfl rfl).trans (zup_p e2 (by omega) _))) rfl) (Int.self_le_toNat _)) (zwk_c (zwk_c (zwk_c zwk_e)))
        · refine q_aload_n C dX12_image_25 (n := 26) rfl rfl ?_
          refine q_getR C dX12_image_26 (n := 29) rfl f_X12_21 (zM0 h0) (hF _ _ _ (zM10 h0)) ?_
          refine q_sipush C dX12_image_29 (n := 32) rfl (x := 173) (by decide) ?_
          refine q_iload_n C dX12_image_32 (n := 33) rfl rfl ?_
          refine q_imul C dX12_image_33 (n := 34) rfl (v := 173 * v1) rfl ?_
          refine q_iload_n C dX12_image_34 (n := 35) rfl rfl ?_
          refine q_iadd C dX12_image_35 (n := 36) rfl (v := (173 * v1) + u11) rfl ?_
          refine q_aload_n C dX12_image_36 (n := 37) rfl rfl ?_
          refine q_getR C dX12_image_37 (n := 40) rfl f_X12_17 (zM0 h0) (hF _ _ _ (zM7 h0)) ?_
          refine q_iload_n C dX12_image_40 (n := 41) rfl rfl ?_
          have g53 := zI.at hI (((zM9 h0) u11).trans (zfG_e u11))
          refine q_iald C dX12_image_41 (n := 42) rfl (zM8 h0) (by omega) (v := M (a + 2) u11) ((hK17.getA rfl rfl rfl).trans (zup_p e2 (by omega) _)) ?_
          refine q_iast C dX12_image_42 (n := 43) rfl (zM11 h0) (by omega)  (fun M54 e55 => ?_)
          have hI56 : zI G M54 := hI15.put e55 (((zM12 h0) ((173 * v1) + u11)).trans (zkG_e (by omega) (by omega))) rfl (by omega)
          have hK57 := hK16.upA e55 rfl
          have hK58 := hK17.upA e55 rfl
          refine q_iinc C [.ref (w.2.1 + a), zi v1, zi (u11 + 1)] dX12_image_43 (n := 46) rfl rfl rfl rfl ?_
          refine q_goto C 18 dX12_image_46 rfl ?_
          exact zK.weak (ih23 (u11 + 1) M54 J14 hI56 hK57 hK58 (by omega) (by omega) (h20.step e55 (by omega)) (by omega)) (zwk_c (zwk_c (zwk_c zwk_e)))
    exact zK.weak (L_21 _ 0 M1 J hI3 hK4 (zMd.rf : zMd a [3] [] [] M1 M1) (by omega) (by omega) (zImg.zero (fun j => (zup_p e2 (by omega) _))) (Int.self_le_toNat _)) (zwk_c (zwk_c (zwk_c zwk_e)))
  · refine q_iconst C dX12_image_14 (n := 15) rfl ?_
    have hp59 : zFk M1 a := p2.cg (fun j => (zup_p e2 (by omega) _))
    exact q_zret C dX12_image_15 ⟨rfl, rfl⟩ (by omega) (by rw [hPo]; exact ⟨0, M1, J, rfl, rfl, hI3, hK4, by omega, hp59, by omega, by omega, (fun j => Or.inl (zup_p e2 (by omega) _)), (fun h => absurd h (by omega)), (Or.inl ⟨by omega, (fun j => (zup_p e2 (by omega) _))⟩), (Or.inl ⟨by omega, (fun j => (zup_p e2 (by omega) _))⟩)⟩)
theorem c_X12_restore_w {w : zWp} {T : zTl} {M : zMm} {J : zJm} {R : zRm'} {G : zGt} {F : zRm'} {a : Nat} (hI : zI G M) (hF : zF F R) (h0 : zModel T F G a) (v1 : Int) (p1 : zFi M a) (p2 : zFk M a) (p3 : -2147483648 ≤ v1 ∧ v1 ≤ 2147483647) : zCt w 2 0 0 yX12_restore cX12_restore 3 (some .boolean) [.ref (w.2.1 + a), zi v1] (T, M, J, R) (zPi T R G (fun x M2 => (zMd a [2, 4] [0, 9] [] M M2) ∧ (x = 0 ∨ x = 1) ∧ (zFi M2 a) ∧ (x = 1 ∧ 0 ≤ v1 ∧ v1 < 2 ∧ M (a + 6) v1 = 1 ∨ x = 0 ∧ (v1 < 0 ∨ 2 ≤ v1 ∨ M (a + 6) v1 = 0)) ∧ (x = 0 ∧ (∀ j, M2 (a + 2) j = M (a + 2) j) ∨ (x = 1 ∧ 0 ≤ v1 ∧ v1 < 2) ∧ zRst M2 M a v1 173) ∧ (x = 0 ∧ (∀ j, M2 (a + 4) j = M (a + 4) j) ∨ (x = 1 ∧ 0 ≤ v1 ∧ v1 < 2) ∧ zRb M2 M a v1 1690))) := by
  refine zCt.of rfl (Nat.le_of_ble_eq_true rfl) ?_
  intro p e s m args below meth c C
  obtain ⟨Po, hPo⟩ : ∃ Po, Po = zPi T R G (fun x M2 => (zMd a [2, 4] [0, 9] [] M M2) ∧ (x = 0 ∨ x = 1) ∧ (zFi M2 a) ∧ (x = 1 ∧ 0 ≤ v1 ∧ v1 < 2 ∧ M (a + 6) v1 = 1 ∨ x = 0 ∧ (v1 < 0 ∨ 2 ≤ v1 ∨ M (a + 6) v1 = 0)) ∧ (x = 0 ∧ (∀ j, M2 (a + 2) j = M (a + 2) j) ∨ (x = 1 ∧ 0 ≤ v1 ∧ v1 < 2) ∧ zRst M2 M a v1 173) ∧ (x = 0 ∧ (∀ j, M2 (a + 4) j = M (a + 4) j) ∨ (x = 1 ∧ 0 ≤ v1 ∧ v1 < 2) ∧ zRb M2 M a v1 1690)) := ⟨_, rfl⟩
  rw [← hPo]
  have hK0 : zMd a [2, 4] [0, 9] [] M M := zMd.rf
  show zK w p e 2 0 0 s m args below meth c 3 T Po 0 [.ref (w.2.1 + a), zi v1, .null] [] (T, M, J, R)
  refine q_aload_n C dX12_restore_0 (n := 1) rfl rfl ?_
  refine q_iconst C dX12_restore_1 (n := 2) rfl ?_
  refine q_putI C dX12_restore_2 (n := 5) rfl f_X12_1 (zM0 h0) ⟨rfl, rfl⟩ (fun M1 (e2 : M1 = zup M a 0 0) => ?_)
  have hI3 : zI G M1 := hI.put e2 (zM1 h0) rfl (by omega)
  have hK4 := hK0.upS e2 rfl
  refine q_iload_n C dX12_restore_5 (n := 6) rfl rfl ?_
  refine q_iconst C dX12_restore_6 (n := 7) rfl ?_
  refine q_iconst C dX12_restore_7 (n := 8) rfl ?_
  refine q_callSp C dX12_restore_8 (n := 11) rfl m_X12_277 s_yX12_isIn (c_X12_isIn (w := w) (J := J) hI3 hF v1 0 1 (by omega) (by omega) (by omega)) (Nat.le_of_ble_eq_true rfl) rfl rfl (Nat.le_of_ble_eq_true rfl) ⟨Nat.le_refl _, Nat.le_refl _⟩ (fun x8 h9 => ?_)
  obtain ⟨h5, h6, h7⟩ := h9
  have J_11 : (v1 < 0 ∨ 1 < v1 ∨ M (a + 6) v1 = 0) → zK w p e 2 0 0 s m args below meth c 3 T Po 23 [.null, .null, .null] [] (T, M1, J, R) := by
    intro h10
    refine q_iconst C dX12_restore_23 (n := 24) rfl ?_
    have hp12 : zFi M1 a := p1.cg (fun j => (zup_p e2 (by omega) _))
    exact q_zret C dX12_restore_24 ⟨rfl, rfl⟩ (by omega) (by rw [hPo]; exact ⟨0, M1, J, rfl, rfl, hI3, hK4, by omega, hp12, by omega, (Or.inl ⟨by omega, (fun j => (zup_p e2 (by omega) _))⟩), (Or.inl ⟨by omega, (fun j => (zup_p e2 (by omega) _))⟩)⟩)
  refine q_if_eq C 23 dX12_restore_11 (n := 14) rfl rfl (by omega) (fun h13 => ?_) (fun h13 => ?_)
  · exact zK.weak (J_11 (by omega)) (zwk_n (zwk_n (zwk_n zwk_e)))
  · refine q_aload_n C dX12_restore_14 (n := 15) rfl rfl ?_
    refine q_getR C dX12_restore_15 (n := 18) rfl f_X12_30 (zM0 h0) (hF _ _ _ (zM19 h0)) ?_
    refine q_iload_n C dX12_restore_18 (n := 19) rfl rfl ?_
    have g14 := zI.at hI ((zM21 h0) v1)
    refine q_zald C dX12_restore_19 (n := 20) rfl (zM20 h0) (by omega) (v := M (a + 6) v1) (zup_p e2 (by omega) _) ?_
    refine q_if_ne C 25 dX12_restore_20 (n := 23) rfl rfl (by omega) (fun h15 => ?_) (fun h15 => ?_)
    · refine q_iconst C dX12_restore_25 (n := 26) rfl ?_
      refine q_istore_n C [.ref (w.2.1 + a), zi v1, zi 0] dX12_restore_26 (n := 27) rfl rfl rfl ?_
      have L_26 : ∀ n27 : Nat, ∀ (u16 : Int) (M18 : zMm) (J19 : zJm), zI G M18 → zMd a [2, 4] [0, 9] [] M M18 → zMd a [2] [] [] M1 M18 → (-2147483648 ≤ u16 ∧ u16 ≤ 2147483647) → (0 ≤ u16 ∧ u16 ≤ 173) → (zRst M18 M a v1 u16) → (173 - u16 + 1 ≤ (n27 : Int)) → zK w p e 2 0 0 s m args below meth c 3 T Po 27 [.ref (w.2.1 + a), zi v1, zi u16] [] (T, M18, J19, R) := by
        intro n27
        induction n27 with
        | zero =>
          intro u16 M18 J19 hI20 hK21 hK22 h23 h24 h25 hm29
          exfalso
          omega
        | succ n27 ih28 =>
          intro u16 M18 J19 hI20 hK21 hK22 h23 h24 h25 hm29
          refine q_iload_n C dX12_restore_27 (n := 28) rfl rfl ?_
          refine q_sipush C dX12_restore_28 (n := 31) rfl (x := 173) (by decide) ?_
          refine q_icmp_ge C 58 dX12_restore_31 (n := 34) rfl rfl (by omega) (fun h30 => ?_) (fun h30 => ?_)
          · refine q_iconst C dX12_restore_58 (n := 59) rfl ?_
            refine q_istore_n C [.ref (w.2.1 + a), zi v1, zi 0] dX12_restore_59 (n := 60) rfl rfl rfl ?_
            have L_41 : ∀ n42 : Nat, ∀ (u31 : Int) (M33 : zMm) (J34 : zJm), zI G M33 → zMd a [2, 4] [0, 9] [] M M33 → zMd a [4] [] [] M18 M33 → (-2147483648 ≤ u31 ∧ u31 ≤ 2147483647) → (0 ≤ u31 ∧ u31 ≤ 1690) → (zRb M33 M a v1 u31) → (1690 - u31 + 1 ≤ (n42 : Int)) → zK w p e 2 0 0 s m args below meth c 3 T Po 60 [.ref (w.2.1 + a), zi v1, zi u31] [] (T, M33, J34, R) := by
              intro n42
              induction n42 with
              | zero =>
                intro u31 M33 J34 hI35 hK36 hK37 h38 h39 h40 hm44
                exfalso
                omega
              | succ n42 ih43 =>
                intro u31 M33 J34 hI35 hK36 hK37 h38 h39 h40 hm44
                refine q_iload_n C dX12_restore_60 (n := 61) rfl rfl ?_
                refine q_sipush C dX12_restore_61 (n := 64) rfl (x := 1690) (by decide) ?_
                refine q_icmp_ge C 91 dX12_restore_64 (n := 67) rfl rfl (by omega) (fun h45 => ?_) (fun h45 => ?_)
                · refine q_aload_n C dX12_restore_91 (n := 92) rfl rfl ?_
                  refine q_iconst C dX12_restore_92 (n := 93) rfl ?_
                  refine q_putZ C dX12_restore_93 (n := 96) rfl f_X12_300 (zM0 h0) ⟨rfl, rfl⟩ (by omega) (fun M46 (e47 : M46 = zup M33 a 9 0) => ?_)
                  have hI48 : zI G M46 := hI35.put e47 (zM22 h0) rfl (by omega)
                  have hK49 := hK36.upS e47 rfl
                  refine q_iconst C dX12_restore_96 (n := 97) rfl ?_
                  have hp51 : zRst M46 M a v1 u16 := h25.cg (fun j => ((zup_p e47 (by omega) _).trans (hK37.getA rfl rfl rfl)))
                  have ge : u16 = 173 := by omega
                  exact q_zret C dX12_restore_97 ⟨rfl, rfl⟩ (by omega) (by rw [hPo]; exact ⟨1, M46, J34, rfl, rfl, hI48, hK49, by omega, (zRst.fi (by rw [← ge]; exact hp51) hI h0 (by omega) p2), by omega, (Or.inr ⟨by omega, (show zRst M46 M a v1 173 from by rw [← (show u16 = 173 by omega)]; exact hp51)⟩), (Or.inr ⟨by omega, zRb.cg h40 (fun j => (zup_p e47 (by omega) _)) (by omega)⟩)⟩)
                · refine q_aload_n C dX12_restore_67 (n := 68) rfl rfl ?_
                  refine q_getR C dX12_restore_68 (n := 71) rfl f_X12_24 (zM0 h0) (hF _ _ _ (zM13 h0)) ?_
                  refine q_iload_n C dX12_restore_71 (n := 72) rfl rfl ?_
                  refine q_aload_n C dX12_restore_72 (n := 73) rfl rfl ?_
                  refine q_getR C dX12_restore_73 (n := 76) rfl f_X12_27 (zM0 h0) (hF _ _ _ (zM16 h0)) ?_
                  refine q_sipush C dX12_restore_76 (n := 79) rfl (x := 1690) (by decide) ?_
                  refine q_iload_n C dX12_restore_79 (n := 80) rfl rfl ?_
                  refine q_imul C dX12_restore_80 (n := 81) rfl (v := 1690 * v1) rfl ?_
                  refine q_iload_n C dX12_restore_81 (n := 82) rfl rfl ?_
                  refine q_iadd C dX12_restore_82 (n := 83) rfl (v := (1690 * v1) + u31) rfl ?_
                  have g52 := zI.at hI ((zM18 h0) ((1690 * v1) + u31))
                  refine q_bald C dX12_restore_83 (n := 84) rfl (zM17 h0) (by omega) (v := M (a + 5) ((1690 * v1) + u31)) ((hK37.getA rfl rfl rfl).trans ((hK22.getA rfl rfl rfl).trans (zup_p e2 (by omega) _))) ?_
                  refine q_bast C dX12_restore_84 (n := 85) rfl (zM14 h0) (by omega) (by omega) (fun M53 e54 => ?_)
                  have hI55 : zI G M53 := hI35.put e54 ((zM15 h0) u31) rfl (by omega)
                  have hK56 := hK36.upA e54 rfl
                  have hK57 := hK37.upA e54 rfl
                  refine q_iinc C [.ref (w.2.1 + a), zi v1, zi (u31 + 1)] dX12_restore_85 (n := 88) rfl rfl rfl rfl ?_
                  refine q_goto C 60 dX12_restore_88 rfl ?_
                  exact zK.weak (ih43 (u31 + 1) M53 J34 hI55 hK56 hK57 (by omega) (by omega) (zRb.step h40 e54 (by omega) rfl (by omega)) (by omega)) (zwk_c (zwk_c (zwk_c zwk_e)))
            exact zK.weak (L_41 _ 0 M18 J19 hI20 hK21 (zMd.rf : zMd a [4] [] [] M18 M18) (by omega) (by omega) (zRb.zero (fun j => ((hK22.getA rfl rfl rfl).trans (zup_p e2 (by omega) _))) rfl) (Int.self_le_toNat _)) (zwk_c (zwk_c (zwk_c zwk_e)))
          · refine q_aload_n C dX12_restore_34 (n := 35) rfl rfl ?_
            refine q_getR C dX12_restore_35 (n := 38) rfl f_X12_17 (zM0 h0) (hF _ _ _ (zM7 h0)) ?_
            refine q_iload_n C dX12_restore_38 (n := 39) rfl rfl ?_
            refine q_aload_n C dX12_restore_39 (n := 40) rfl rfl ?_
            refine q_getR C dX12_restore_40 (n := 43) rfl f_X12_21 (zM0 h0) (hF _ _ _ (zM10 h0)) ?_
            refine q_sipush C dX12_restore_43 (n := 46) rfl (x := 173) (by decide) ?_
            refine q_iload_n C dX12_restore_46 (n := 47) rfl rfl ?_
            refine q_imul C dX12_restore_47 (n := 48) rfl (v := 173 * v1) rfl ?_
            refine q_iload_n C dX12_restore_48 (n := 49) rfl rfl ?_
            refine q_iadd C dX12_restore_49 (n := 50) rfl (v := (173 * v1) + u16) rfl ?_
            have g58 := zI.at hI (((zM12 h0) ((173 * v1) + u16)).trans (zkG_e (by omega) (by omega)))
            refine q_iald C dX12_restore_50 (n := 51) rfl (zM11 h0) (by omega) (v := M (a + 3) ((173 * v1) + u16)) ((hK22.getA rfl rfl rfl).trans (zup_p e2 (by omega) _)) ?_
            refine q_iast C dX12_restore_51 (n := 52) rfl (zM8 h0) (by omega)  (fun M59 e60 => ?_)
            have hI61 : zI G M59 := hI20.put e60 (((zM9 h0) u16).trans (zfG_e u16)) rfl (by omega)
            have hK62 := hK21.upA e60 rfl
            have hK63 := hK22.upA e60 rfl
            refine q_iinc C [.ref (w.2.1 + a), zi v1, zi (u16 + 1)] dX12_restore_52 (n := 55) rfl rfl rfl rfl ?_
            refine q_goto C 27 dX12_restore_55 rfl ?_
            exact zK.weak (ih28 (u16 + 1) M59 J19 hI61 hK62 hK63 (by omega) (by omega) (h25.step e60 (by omega)) (by omega)) (zwk_c (zwk_c (zwk_c zwk_e)))
      exact zK.weak (L_26 _ 0 M1 J hI3 hK4 (zMd.rf : zMd a [2] [] [] M1 M1) (by omega) (by omega) (zRst.zero (fun j => (zup_p e2 (by omega) _))) (Int.self_le_toNat _)) (zwk_c (zwk_c (zwk_c zwk_e)))
    · exact zK.weak (J_11 (by omega)) (zwk_n (zwk_n (zwk_n zwk_e)))
theorem c_X12_hashOf_e {w : zWp} {T : zTl} {M : zMm} {J : zJm} {R : zRm'} {G : zGt} {F : zRm'} {a : Nat} (hI : zI G M) (hF : zF F R) (h0 : zModel T F G a) (v1 : Int) (v2 : Int) (p1 : zFi M a) (p2 : 0 ≤ v1 ∧ v1 ≤ 3) (p3 : 0 ≤ v2 ∧ v2 < M (a + 2) (4 + v1) ∧ v2 ≤ 39) : zCt w 3 0 0 yX12_hashOf cX12_hashOf 6 (some .int) [.ref (w.2.1 + a), zi v1, zi v2] (T, M, J, R) (zPp T M J R (fun x => (-1 ≤ x ∧ x ≤ 439) ∧ (x < M (a + 2) (8 + 40 * v1 + v2) ∨ x = -1) ∧ (zHsw (zLb (M (a + 4)) (400 * v1 + zSum (M (a + 2)) (8 + 40 * v1) (v2).toNat) (M (a + 2) (8 + 40 * v1 + v2))) (M (a + 2) (8 + 40 * v1 + v2)) x))) := by
  refine zCt.of rfl (Nat.le_of_ble_eq_true rfl) ?_
  intro p e s m args below meth c C
  obtain ⟨Po, hPo⟩ : ∃ Po, Po = zPp T M J R (fun x => (-1 ≤ x ∧ x ≤ 439) ∧ (x < M (a + 2) (8 + 40 * v1 + v2) ∨ x = -1) ∧ (zHsw (zLb (M (a + 4)) (400 * v1 + zSum (M (a + 2)) (8 + 40 * v1) (v2).toNat) (M (a + 2) (8 + 40 * v1 + v2))) (M (a + 2) (8 + 40 * v1 + v2)) x)) := ⟨_, rfl⟩
  rw [← hPo]
  show zK w p e 3 0 0 s m args below meth c 6 T Po 0 [.ref (w.2.1 + a), zi v1, zi v2, .null, .null, .null] [] (T, M, J, R)
  refine q_aload_n C dX12_hashOf_0 (n := 1) rfl rfl ?_
  refine q_iload_n C dX12_hashOf_1 (n := 2) rfl rfl ?_
  refine q_iload_n C dX12_hashOf_2 (n := 3) rfl rfl ?_
  refine q_callVp C dX12_hashOf_3 (n := 6) rfl m_X12_321 v_yX12_beginOf (zM0 h0) ⟨by decide, rfl⟩ (c_X12_beginOf (w := w) (J := J) hI hF h0 v1 v2 p1 (by omega) (by omega)) (Nat.le_of_ble_eq_true rfl) rfl rfl (Nat.le_of_ble_eq_true rfl) ⟨Nat.le_refl _, Nat.le_refl _⟩ (fun x4 h5 => ?_)
  obtain ⟨h1, h2, h3⟩ := h5
  refine q_istore_n C [.ref (w.2.1 + a), zi v1, zi v2, zi x4, .null, .null] dX12_hashOf_6 (n := 7) rfl rfl rfl ?_
  refine q_aload_n C dX12_hashOf_7 (n := 8) rfl rfl ?_
  refine q_iload_n C dX12_hashOf_8 (n := 9) rfl rfl ?_
  refine q_iload_n C dX12_hashOf_9 (n := 10) rfl rfl ?_
  refine q_callVp C dX12_hashOf_10 (n := 13) rfl m_X12_289 v_yX12_lengthOf (zM0 h0) ⟨by decide, rfl⟩ (c_X12_lengthOf (w := w) (J := J) hI hF h0 v1 v2 (by omega) (by omega)) (Nat.le_of_ble_eq_true rfl) rfl rfl (Nat.le_of_ble_eq_true rfl) ⟨Nat.le_refl _, Nat.le_refl _⟩ (fun x8 h9 => ?_)
  obtain ⟨h6, h7⟩ := h9
  refine q_istore C [.ref (w.2.1 + a), zi v1, zi v2, zi x4, zi x8, .null] dX12_hashOf_13 (n := 15) rfl rfl rfl ?_
  refine q_iconst C dX12_hashOf_15 (n := 16) rfl ?_
  refine q_istore C [.ref (w.2.1 + a), zi v1, zi v2, zi x4, zi x8, zi 0] dX12_hashOf_16 (n := 18) rfl rfl rfl ?_
  have L_14 : ∀ n15 : Nat, ∀ (u10 : Int), (-2147483648 ≤ u10 ∧ u10 ≤ 2147483647) → (0 ≤ u10 ∧ u10 ≤ x8) → (∀ q, 0 ≤ q → q < u10 → M (a + 4) (x4 + q) = 32) → (x8 - u10 + 1 ≤ (n15 : Int)) → zK w p e 3 0 0 s m args below meth c 6 T Po 18 [.ref (w.2.1 + a), .null, .null, zi x4, zi x8, zi u10] [] (T, M, J, R) := by
    intro n15
    induction n15 with
    | zero =>
      intro u10 h11 h12 h13 hm17
      exfalso
      omega
    | succ n15 ih16 =>
      intro u10 h11 h12 h13 hm17
      refine q_iload C dX12_hashOf_18 (n := 20) rfl rfl ?_
      refine q_iload C dX12_hashOf_20 (n := 22) rfl rfl ?_
      have J_19 : (u10 = x8 ∨ M (a + 4) (x4 + u10) ≠ 32) → zK w p e 3 0 0 s m args below meth c 6 T Po 45 [.ref (w.2.1 + a), .null, .null, zi x4, zi x8, zi u10] [] (T, M, J, R) := by
        intro h18
        refine q_iload C dX12_hashOf_45 (n := 47) rfl rfl ?_
        refine q_iload C dX12_hashOf_47 (n := 49) rfl rfl ?_
        refine q_icmp_ge C 96 dX12_hashOf_49 (n := 52) rfl rfl (by omega) (fun h20 => ?_) (fun h20 => ?_)
        · refine q_iconst C dX12_hashOf_96 (n := 97) rfl ?_
          exact q_iret C dX12_hashOf_97 ⟨rfl, rfl⟩ (by rw [hPo]; exact ⟨(-1), rfl, rfl, by omega, by omega, (by have t := zHsw.of (g := M (a + 4)) (s := x4) (n := x8) (i := u10) (x := (-1)) (by omega) (fun q q0 q1 => h13 q q0 (by omega)) (by omega) (by omega); rw [show (x4 : Int) = 400 * v1 + zSum (M (a + 2)) (8 + 40 * v1) (v2).toNat by omega, show (x8 : Int) = M (a + 2) (8 + 40 * v1 + v2) by omega] at t; exact t)⟩)
        · refine q_aload_n C dX12_hashOf_52 (n := 53) rfl rfl ?_
          refine q_getR C dX12_hashOf_53 (n := 56) rfl f_X12_24 (zM0 h0) (hF _ _ _ (zM13 h0)) ?_
          refine q_iload_n C dX12_hashOf_56 (n := 57) rfl rfl ?_
          refine q_iload C dX12_hashOf_57 (n := 59) rfl rfl ?_
          refine q_iadd C dX12_hashOf_59 (n := 60) rfl (v := x4 + u10) rfl ?_
          have g21 := zI.at hI ((zM15 h0) (x4 + u10))
          refine q_bald C dX12_hashOf_60 (n := 61) rfl (zM14 h0) (by omega) (v := M (a + 4) (x4 + u10)) rfl ?_
          refine q_bipush C dX12_hashOf_61 (n := 63) rfl (x := 35) (by decide) ?_
          refine q_icmp_ne C 96 dX12_hashOf_63 (n := 66) rfl rfl (by omega) (fun h22 => ?_) (fun h22 => ?_)
          · refine q_iconst C dX12_hashOf_96 (n := 97) rfl ?_
            exact q_iret C dX12_hashOf_97 ⟨rfl, rfl⟩ (by rw [hPo]; exact ⟨(-1), rfl, rfl, by omega, by omega, (by have t := zHsw.of (g := M (a + 4)) (s := x4) (n := x8) (i := u10) (x := (-1)) (by omega) (fun q q0 q1 => h13 q q0 (by omega)) (by omega) (by omega); rw [show (x4 : Int) = 400 * v1 + zSum (M (a + 2)) (8 + 40 * v1) (v2).toNat by omega, show (x8 : Int) = M (a + 2) (8 + 40 * v1 + v2) by omega] at t; exact t)⟩)
          · refine q_iload C dX12_hashOf_66 (n := 68) rfl rfl ?_
            refine q_iconst C dX12_hashOf_68 (n := 69) rfl ?_
            refine q_iadd C dX12_hashOf_69 (n := 70) rfl (v := u10 + 1) rfl ?_
            refine q_iload C dX12_hashOf_70 (n := 72) rfl rfl ?_
            have J_24 : (u10 + 1 = x8 ∨ M (a + 4) (x4 + u10 + 1) ≠ 35) → zK w p e 3 0 0 s m args below meth c 6 T Po 91 [.null, .null, .null, .null, .null, zi u10] [] (T, M, J, R) := by
              intro h23
              refine q_iload C dX12_hashOf_91 (n := 93) rfl rfl ?_
              refine q_goto C 97 dX12_hashOf_93 rfl ?_
              exact q_iret C dX12_hashOf_97 ⟨rfl, rfl⟩ (by rw [hPo]; exact ⟨u10, rfl, rfl, by omega, by omega, (by have t := zHsw.of (g := M (a + 4)) (s := x4) (n := x8) (i := u10) (x := u10) (by omega) (fun q q0 q1 => h13 q q0 (by omega)) (by omega) (by omega); rw [show (x4 : Int) = 400 * v1 + zSum (M (a + 2)) (8 + 40 * v1) (v2).toNat by omega, show (x8 : Int) = M (a + 2) (8 + 40 * v1 + v2) by omega] at t; exact t)⟩)
            refine q_icmp_eq C 91 dX12_hashOf_72 (n := 75) rfl rfl (by omega) (fun h25 => ?_) (fun h25 => ?_)
            · exact zK.weak (J_24 (by omega)) (zwk_n (zwk_n (zwk_n (zwk_n (zwk_n (zwk_c zwk_e))))))
            · refine q_aload_n C dX12_hashOf_75 (n := 76) rfl rfl ?_
              refine q_getR C dX12_hashOf_76 (n := 79) rfl f_X12_24 (zM0 h0) (hF _ _ _ (zM13 h0)) ?_
              refine q_iload_n C dX12_hashOf_79 (n := 80) rfl rfl ?_
              refine q_iload C dX12_hashOf_80 (n := 82) rfl rfl ?_
              refine q_iadd C dX12_hashOf_82 (n := 83) rfl (v := x4 + u10) rfl ?_
              refine q_iconst C dX12_hashOf_83 (n := 84) rfl ?_
              refine q_iadd C dX12_hashOf_84 (n := 85) rfl (v := (x4 + u10) + 1) rfl ?_
              have g26 := zI.at hI ((zM15 h0) ((x4 + u10) + 1))
              refine q_bald C dX12_hashOf_85 (n := 86) rfl (zM14 h0) (by omega) (v := M (a + 4) ((x4 + u10) + 1)) rfl ?_
              refine q_bipush C dX12_hashOf_86 (n := 88) rfl (x := 35) (by decide) ?_
              refine q_icmp_eq C 96 dX12_hashOf_88 (n := 91) rfl rfl (by omega) (fun h27 => ?_) (fun h27 => ?_)
              · refine q_iconst C dX12_hashOf_96 (n := 97) rfl ?_
                exact q_iret C dX12_hashOf_97 ⟨rfl, rfl⟩ (by rw [hPo]; exact ⟨(-1), rfl, rfl, by omega, by omega, (by have t := zHsw.of (g := M (a + 4)) (s := x4) (n := x8) (i := u10) (x := (-1)) (by omega) (fun q q0 q1 => h13 q q0 (by omega)) (by omega) (by omega); rw [show (x4 : Int) = 400 * v1 + zSum (M (a + 2)) (8 + 40 * v1) (v2).toNat by omega, show (x8 : Int) = M (a + 2) (8 + 40 * v1 + v2) by omega] at t; exact t)⟩)
              · exact zK.weak (J_24 (by omega)) (zwk_n (zwk_n (zwk_n (zwk_n (zwk_n (zwk_c zwk_e))))))
      refine q_icmp_ge C 45 dX12_hashOf_22 (n := 25) rfl rfl (by omega) (fun h28 => ?_) (fun h28 => ?_)
      · exact zK.weak (J_19 (by omega)) (zwk_c (zwk_n (zwk_n (zwk_c (zwk_c (zwk_c zwk_e))))))
      · refine q_aload_n C dX12_hashOf_25 (n := 26) rfl rfl ?_
        refine q_getR C dX12_hashOf_26 (n := 29) rfl f_X12_24 (zM0 h0) (hF _ _ _ (zM13 h0)) ?_
        refine q_iload_n C dX12_hashOf_29 (n := 30) rfl rfl ?_
        refine q_iload C dX12_hashOf_30 (n := 32) rfl rfl ?_
        refine q_iadd C dX12_hashOf_32 (n := 33) rfl (v := x4 + u10) rfl ?_
        have g29 := zI.at hI ((zM15 h0) (x4 + u10))
        refine q_bald C dX12_hashOf_33 (n := 34) rfl (zM14 h0) (by omega) (v := M (a + 4) (x4 + u10)) rfl ?_
        refine q_bipush C dX12_hashOf_34 (n := 36) rfl (x := 32) (by decide) ?_
        refine q_icmp_ne C 45 dX12_hashOf_36 (n := 39) rfl rfl (by omega) (fun h30 => ?_) (fun h30 => ?_)
        · exact zK.weak (J_19 (by omega)) (zwk_c (zwk_n (zwk_n (zwk_c (zwk_c (zwk_c zwk_e))))))
        · refine q_iinc C [.ref (w.2.1 + a), .null, .null, zi x4, zi x8, zi (u10 + 1)] dX12_hashOf_39 (n := 42) rfl rfl rfl rfl ?_
          refine q_goto C 18 dX12_hashOf_42 rfl ?_
          exact zK.weak (ih16 (u10 + 1) (by omega) (by omega) (fun q q0 q1 => (Decidable.em (q = u10)).elim (fun z => by rw [z]; omega) (fun z => h13 q q0 (by omega))) (by omega)) (zwk_c (zwk_n (zwk_n (zwk_c (zwk_c (zwk_c zwk_e))))))
  exact zK.weak (L_14 _ 0 (by omega) (by omega) (fun q q0 q1 => by omega) (Int.self_le_toNat _)) (zwk_c (zwk_n (zwk_n (zwk_c (zwk_c (zwk_c zwk_e))))))
theorem c_X12_wordIn_e {w : zWp} {T : zTl} {M : zMm} {J : zJm} {R : zRm'} {G : zGt} {F : zRm'} {a q N tb : Nat} (hI : zI G M) (hF : zF F R) (h0 : zModel T F G a) (t_row : T[q]? = some (51, N)) (g_row : ∀ k, G q k = (tb, (-128), 127)) (v2 : Int) (v3 : Int) (p1 : N ≤ 1000000) (p2 : 0 ≤ v2 ∧ 0 ≤ v3 ∧ v2 + v3 ≤ N) : zCt w 1 0 0 yX12_wordIn cX12_wordIn 8 (some .int) [.ref (w.2.1 + a), .ref (w.2.1 + q), zi v2, zi v3] (T, M, J, R) (zPp T M J R (fun x => (-1 ≤ x ∧ x ≤ 60) ∧ (zWi (M q) v2 v3 x))) := by
  refine zCt.of rfl (Nat.le_of_ble_eq_true rfl) ?_
  intro p e s m args below meth c C
  obtain ⟨Po, hPo⟩ : ∃ Po, Po = zPp T M J R (fun x => (-1 ≤ x ∧ x ≤ 60) ∧ (zWi (M q) v2 v3 x)) := ⟨_, rfl⟩
  rw [← hPo]
  show zK w p e 1 0 0 s m args below meth c 8 T Po 0 [.ref (w.2.1 + a), .ref (w.2.1 + q), zi v2, zi v3, .null, .null, .null, .null] [] (T, M, J, R)
  refine q_iconst C dX12_wordIn_0 (n := 1) rfl ?_
  refine q_istore C [.ref (w.2.1 + a), .ref (w.2.1 + q), zi v2, zi v3, zi 0, .null, .null, .null] dX12_wordIn_1 (n := 3) rfl rfl rfl ?_
  refine q_iconst C dX12_wordIn_3 (n := 4) rfl ?_
  refine q_istore C [.ref (w.2.1 + a), .ref (w.2.1 + q), zi v2, zi v3, zi 0, zi 0, .null, .null] dX12_wordIn_4 (n := 6) rfl rfl rfl ?_
  refine q_iconst C dX12_wordIn_6 (n := 7) rfl ?_
  refine q_istore C [.ref (w.2.1 + a), .ref (w.2.1 + q), zi v2, zi v3, zi 0, zi 0, zi 1, .null] dX12_wordIn_7 (n := 9) rfl rfl rfl ?_
  refine q_iconst C dX12_wordIn_9 (n := 10) rfl ?_
  refine q_istore C [.ref (w.2.1 + a), .ref (w.2.1 + q), zi v2, zi v3, zi 0, zi 0, zi 1, zi 0] dX12_wordIn_10 (n := 12) rfl rfl rfl ?_
  have L_14 : ∀ n15 : Nat, ∀ (u1 : Int) (u2 : Int) (u3 : Int) (u4 : Int), (-2147483648 ≤ u1 ∧ u1 ≤ 2147483647) → (-2147483648 ≤ u2 ∧ u2 ≤ 2147483647) → (-2147483648 ≤ u3 ∧ u3 ≤ 2147483647) → (-2147483648 ≤ u4 ∧ u4 ≤ 2147483647) → (0 ≤ u4 ∧ u4 ≤ 53) → (0 ≤ u1 ∧ u1 ≤ u4) → (0 ≤ u2 ∧ u2 ≤ u4) → (u3 = 0 ∨ u3 = 1) → (zWq (M q) v2 v3 u4 u1 u2 u3) → (53 - u4 + 1 ≤ (n15 : Int)) → zK w p e 1 0 0 s m args below meth c 8 T Po 12 [.null, .ref (w.2.1 + q), zi v2, zi v3, zi u1, zi u2, zi u3, zi u4] [] (T, M, J, R) := by
    intro n15
    induction n15 with
    | zero =>
      intro u1 u2 u3 u4 h5 h6 h7 h8 h9 h10 h11 h12 h13 hm17
      exfalso
      omega
    | succ n15 ih16 =>
      intro u1 u2 u3 u4 h5 h6 h7 h8 h9 h10 h11 h12 h13 hm17
      refine q_iload C dX12_wordIn_12 (n := 14) rfl rfl ?_
      refine q_gst C dX12_wordIn_14 (n := 17) rfl (k := 201) (by decide) ?_
      refine q_alenT C dX12_wordIn_17 (n := 18) rfl (k := 201) (N := 53) (by decide) ?_
      show zK w p e 1 0 0 s m args below meth c 8 T Po 18 [.null, .ref (w.2.1 + q), zi v2, zi v3, zi u1, zi u2, zi u3, zi u4] [zi 53, zi u4] (T, M, J, R)
      refine q_icmp_ge C 100 dX12_wordIn_18 (n := 21) rfl rfl (by omega) (fun h18 => ?_) (fun h18 => ?_)
      · refine q_iconst C dX12_wordIn_100 (n := 101) rfl ?_
        exact q_iret C dX12_wordIn_101 ⟨rfl, rfl⟩ (by rw [hPo]; exact ⟨(-1), rfl, rfl, by omega, (zWq.fin h13 (by omega))⟩)
      · refine q_gst C dX12_wordIn_21 (n := 24) rfl (k := 201) (by decide) ?_
        refine q_iload C dX12_wordIn_24 (n := 26) rfl rfl ?_
        refine q_baldTx C dX12_wordIn_26 (n := 27) rfl (k := 201) (N := 53) (by decide) (by omega) ?_
        have g19 := zStt_r 201 u4
        refine q_bipush C dX12_wordIn_27 (n := 29) rfl (x := 32) (by decide) ?_
        have J_30 : ∀ (u20 : Int) (u21 : Int) (u22 : Int), (-2147483648 ≤ u20 ∧ u20 ≤ 2147483647) → (-2147483648 ≤ u21 ∧ u21 ≤ 2147483647) → (-2147483648 ≤ u22 ∧ u22 ≤ 2147483647) → (0 ≤ u20 ∧ u20 ≤ u4 + 1) → (0 ≤ u21 ∧ u21 ≤ u4 + 1) → (u22 = 0 ∨ u22 = 1) → (zWq (M q) v2 v3 (u4 + 1) u20 u21 u22) → zK w p e 1 0 0 s m args below meth c 8 T Po 94 [.null, .ref (w.2.1 + q), zi v2, zi v3, zi u20, zi u21, zi u22, zi u4] [] (T, M, J, R) := by
          intro u20 u21 u22 h23 h24 h25 h26 h27 h28 h29
          refine q_iinc C [.null, .ref (w.2.1 + q), zi v2, zi v3, zi u20, zi u21, zi u22, zi (u4 + 1)] dX12_wordIn_94 (n := 97) rfl rfl rfl rfl ?_
          refine q_goto C 12 dX12_wordIn_97 rfl ?_
          exact zK.weak (ih16 u20 u21 u22 (u4 + 1) (by omega) (by omega) (by omega) (by omega) (by omega) (by omega) (by omega) (by omega) h29 (by omega)) (zwk_n (zwk_c (zwk_c (zwk_c (zwk_c (zwk_c (zwk_c (zwk_c zwk_e))))))))
        refine q_icmp_ne C 58 dX12_wordIn_29 (n := 32) rfl rfl (by omega) (fun h31 => ?_) (fun h31 => ?_)
        · refine q_iload C dX12_wordIn_58 (n := 60) rfl rfl ?_
          have J_36 : ∀ (u32 : Int), (-2147483648 ≤ u32 ∧ u32 ≤ 2147483647) → (u32 = 0 ∨ u32 = 1) → ((u3 = 1 ∧ u2 < v3 ∧ M q (v2 + u2) = zStt 201 u4) ∧ u32 = 1 ∨ ¬ (u3 = 1 ∧ u2 < v3 ∧ M q (v2 + u2) = zStt 201 u4) ∧ u32 = 0) → zK w p e 1 0 0 s m args below meth c 8 T Po 89 [.null, .ref (w.2.1 + q), zi v2, zi v3, zi u1, zi u2, .null, zi u4] [zi u32] (T, M, J, R) := by
            intro u32 h33 h34 h35
            refine q_istore C [.null, .ref (w.2.1 + q), zi v2, zi v3, zi u1, zi u2, zi u32, zi u4] dX12_wordIn_89 (n := 91) rfl rfl rfl ?_
            refine q_iinc C [.null, .ref (w.2.1 + q), zi v2, zi v3, zi u1, zi (u2 + 1), zi u32, zi u4] dX12_wordIn_91 (n := 94) rfl rfl rfl rfl ?_
            exact zK.weak (J_30 u1 (u2 + 1) u32 (by omega) (by omega) (by omega) (by omega) (by omega) (by omega) (zWq.byte h13 (by omega) (by omega) ⟨rfl, rfl⟩ h35)) (zwk_n (zwk_c (zwk_c (zwk_c (zwk_c (zwk_c (zwk_c (zwk_c zwk_e))))))))
          have J_38 : (¬ (u3 = 1 ∧ u2 < v3 ∧ M q (v2 + u2) = zStt 201 u4)) → zK w p e 1 0 0 s m args below meth c 8 T Po 88 [.null, .ref (w.2.1 + q), zi v2, zi v3, zi u1, zi u2, .null, zi u4] [] (T, M, J, R) := by
            intro h37
            refine q_iconst C dX12_wordIn_88 (n := 89) rfl ?_
            exact zK.weak (J_36 0 (by omega) (by omega) (by omega)) (zwk_n (zwk_c (zwk_c (zwk_c (zwk_c (zwk_c (zwk_n (zwk_c zwk_e))))))))
          refine q_if_eq C 88 dX12_wordIn_60 (n := 63) rfl rfl (by omega) (fun h39 => ?_) (fun h39 => ?_)
          · exact zK.weak (J_38 (by omega)) (zwk_n (zwk_c (zwk_c (zwk_c (zwk_c (zwk_c (zwk_n (zwk_c zwk_e))))))))
          · refine q_iload C dX12_wordIn_63 (n := 65) rfl rfl ?_
            refine q_iload_n C dX12_wordIn_65 (n := 66) rfl rfl ?_
            refine q_icmp_ge C 88 dX12_wordIn_66 (n := 69) rfl rfl (by omega) (fun h40 => ?_) (fun h40 => ?_)
            · exact zK.weak (J_38 (by omega)) (zwk_n (zwk_c (zwk_c (zwk_c (zwk_c (zwk_c (zwk_n (zwk_c zwk_e))))))))
            · refine q_aload_n C dX12_wordIn_69 (n := 70) rfl rfl ?_
              refine q_iload_n C dX12_wordIn_70 (n := 71) rfl rfl ?_
              refine q_iload C dX12_wordIn_71 (n := 73) rfl rfl ?_
              refine q_iadd C dX12_wordIn_73 (n := 74) rfl (v := v2 + u2) rfl ?_
              have g41 := zI.at hI (g_row (v2 + u2))
              refine q_bald C dX12_wordIn_74 (n := 75) rfl t_row (by omega) (v := M q (v2 + u2)) rfl ?_
              refine q_gst C dX12_wordIn_75 (n := 78) rfl (k := 201) (by decide) ?_
              refine q_iload C dX12_wordIn_78 (n := 80) rfl rfl ?_
              refine q_baldTx C dX12_wordIn_80 (n := 81) rfl (k := 201) (N := 53) (by decide) (by omega) ?_
              have g42 := zStt_r 201 u4
              refine q_icmp_ne C 88 dX12_wordIn_81 (n := 84) rfl rfl (by omega) (fun h43 => ?_) (fun h43 => ?_)
              · exact zK.weak (J_38 (by omega)) (zwk_n (zwk_c (zwk_c (zwk_c (zwk_c (zwk_c (zwk_n (zwk_c zwk_e))))))))
              · refine q_iconst C dX12_wordIn_84 (n := 85) rfl ?_
                refine q_goto C 89 dX12_wordIn_85 rfl ?_
                exact zK.weak (J_36 1 (by omega) (by omega) (by omega)) (zwk_n (zwk_c (zwk_c (zwk_c (zwk_c (zwk_c (zwk_n (zwk_c zwk_e))))))))
        · refine q_iload C dX12_wordIn_32 (n := 34) rfl rfl ?_
          have J_45 : (u3 = 0 ∨ u2 ≠ v3) → zK w p e 1 0 0 s m args below meth c 8 T Po 46 [.null, .ref (w.2.1 + q), zi v2, zi v3, zi u1, .null, .null, zi u4] [] (T, M, J, R) := by
            intro h44
            refine q_iinc C [.null, .ref (w.2.1 + q), zi v2, zi v3, zi (u1 + 1), .null, .null, zi u4] dX12_wordIn_46 (n := 49) rfl rfl rfl rfl ?_
            refine q_iconst C dX12_wordIn_49 (n := 50) rfl ?_
            refine q_istore C [.null, .ref (w.2.1 + q), zi v2, zi v3, zi (u1 + 1), zi 0, .null, zi u4] dX12_wordIn_50 (n := 52) rfl rfl rfl ?_
            refine q_iconst C dX12_wordIn_52 (n := 53) rfl ?_
            refine q_istore C [.null, .ref (w.2.1 + q), zi v2, zi v3, zi (u1 + 1), zi 0, zi 1, zi u4] dX12_wordIn_53 (n := 55) rfl rfl rfl ?_
            refine q_goto C 94 dX12_wordIn_55 rfl ?_
            exact zK.weak (J_30 (u1 + 1) 0 1 (by omega) (by omega) (by omega) (by omega) (by omega) (by omega) (zWq.next h13 (by omega) (by omega) (by omega) ⟨rfl, rfl, rfl, rfl⟩ (by omega))) (zwk_n (zwk_c (zwk_c (zwk_c (zwk_c (zwk_c (zwk_c (zwk_c zwk_e))))))))
          refine q_if_eq C 46 dX12_wordIn_34 (n := 37) rfl rfl (by omega) (fun h46 => ?_) (fun h46 => ?_)
          · exact zK.weak (J_45 (by omega)) (zwk_n (zwk_c (zwk_c (zwk_c (zwk_c (zwk_n (zwk_n (zwk_c zwk_e))))))))
          · refine q_iload C dX12_wordIn_37 (n := 39) rfl rfl ?_
            refine q_iload_n C dX12_wordIn_39 (n := 40) rfl rfl ?_
            refine q_icmp_ne C 46 dX12_wordIn_40 (n := 43) rfl rfl (by omega) (fun h47 => ?_) (fun h47 => ?_)
            · exact zK.weak (J_45 (by omega)) (zwk_n (zwk_c (zwk_c (zwk_c (zwk_c (zwk_n (zwk_n (zwk_c zwk_e))))))))
            · refine q_iload C dX12_wordIn_43 (n := 45) rfl rfl ?_
              exact q_iret C dX12_wordIn_45 ⟨rfl, rfl⟩ (by rw [hPo]; exact ⟨u1, rfl, rfl, by omega, (zWq.hit h13 (by omega) (by omega) (by omega) (by omega))⟩)
  exact zK.weak (L_14 _ 0 0 1 0 (by omega) (by omega) (by omega) (by omega) (by omega) (by omega) (by omega) (by omega) (zWq.nil (by omega) ⟨rfl, rfl, rfl, rfl⟩) (Int.self_le_toNat _)) (zwk_n (zwk_c (zwk_c (zwk_c (zwk_c (zwk_c (zwk_c (zwk_c zwk_e))))))))
theorem c_X12_roleOf_e {w : zWp} {T : zTl} {M : zMm} {J : zJm} {R : zRm'} {G : zGt} {F : zRm'} {a : Nat} (hI : zI G M) (hF : zF F R) (h0 : zModel T F G a) (v1 : Int) (v2 : Int) (p1 : zFi M a) (p2 : 0 ≤ v1 ∧ v1 ≤ 3) (p3 : 0 ≤ v2 ∧ v2 < M (a + 2) (4 + v1) ∧ v2 ≤ 39) : zCt w 4 0 0 yX12_roleOf cX12_roleOf 9 (some .int) [.ref (w.2.1 + a), zi v1, zi v2] (T, M, J, R) (zPp T M J R (fun x => (0 ≤ x ∧ x ≤ 4) ∧ (zRole (zLb (M (a + 4)) (400 * v1 + zSum (M (a + 2)) (8 + 40 * v1) (v2).toNat) (M (a + 2) (8 + 40 * v1 + v2))) (M (a + 2) (8 + 40 * v1 + v2)) x))) := by
  refine zCt.of rfl (Nat.le_of_ble_eq_true rfl) ?_
  intro p e s m args below meth c C
  obtain ⟨Po, hPo⟩ : ∃ Po, Po = zPp T M J R (fun x => (0 ≤ x ∧ x ≤ 4) ∧ (zRole (zLb (M (a + 4)) (400 * v1 + zSum (M (a + 2)) (8 + 40 * v1) (v2).toNat) (M (a + 2) (8 + 40 * v1 + v2))) (M (a + 2) (8 + 40 * v1 + v2)) x)) := ⟨_, rfl⟩
  rw [← hPo]
  show zK w p e 4 0 0 s m args below meth c 9 T Po 0 [.ref (w.2.1 + a), zi v1, zi v2, .null, .null, .null, .null, .null, .null] [] (T, M, J, R)
  refine q_aload_n C dX12_roleOf_0 (n := 1) rfl rfl ?_
  refine q_iload_n C dX12_roleOf_1 (n := 2) rfl rfl ?_
  refine q_iload_n C dX12_roleOf_2 (n := 3) rfl rfl ?_
  refine q_callVp C dX12_roleOf_3 (n := 6) rfl m_X12_330 v_yX12_hashOf (zM0 h0) ⟨by decide, rfl⟩ (c_X12_hashOf_e (w := w) (J := J) hI hF h0 v1 v2 p1 (by omega) (by omega)) (Nat.le_of_ble_eq_true rfl) rfl rfl (Nat.le_of_ble_eq_true rfl) ⟨Nat.le_refl _, Nat.le_refl _⟩ (fun x4 h5 => ?_)
  obtain ⟨h1, h2, h3⟩ := h5
  refine q_istore_n C [.ref (w.2.1 + a), zi v1, zi v2, zi x4, .null, .null, .null, .null, .null] dX12_roleOf_6 (n := 7) rfl rfl rfl ?_
  refine q_iload_n C dX12_roleOf_7 (n := 8) rfl rfl ?_
  refine q_if_ge C 13 dX12_roleOf_8 (n := 11) rfl rfl (by omega) (fun h6 => ?_) (fun h6 => ?_)
  · refine q_aload_n C dX12_roleOf_13 (n := 14) rfl rfl ?_
    refine q_iload_n C dX12_roleOf_14 (n := 15) rfl rfl ?_
    refine q_iload_n C dX12_roleOf_15 (n := 16) rfl rfl ?_
    refine q_callVp C dX12_roleOf_16 (n := 19) rfl m_X12_321 v_yX12_beginOf (zM0 h0) ⟨by decide, rfl⟩ (c_X12_beginOf (w := w) (J := J) hI hF h0 v1 v2 p1 (by omega) (by omega)) (Nat.le_of_ble_eq_true rfl) rfl rfl (Nat.le_of_ble_eq_true rfl) ⟨Nat.le_refl _, Nat.le_refl _⟩ (fun x10 h11 => ?_)
    obtain ⟨h7, h8, h9⟩ := h11
    refine q_istore C [.ref (w.2.1 + a), zi v1, zi v2, zi x4, zi x10, .null, .null, .null, .null] dX12_roleOf_19 (n := 21) rfl rfl rfl ?_
    refine q_aload_n C dX12_roleOf_21 (n := 22) rfl rfl ?_
    refine q_iload_n C dX12_roleOf_22 (n := 23) rfl rfl ?_
    refine q_iload_n C dX12_roleOf_23 (n := 24) rfl rfl ?_
    refine q_callVp C dX12_roleOf_24 (n := 27) rfl m_X12_289 v_yX12_lengthOf (zM0 h0) ⟨by decide, rfl⟩ (c_X12_lengthOf (w := w) (J := J) hI hF h0 v1 v2 (by omega) (by omega)) (Nat.le_of_ble_eq_true rfl) rfl rfl (Nat.le_of_ble_eq_true rfl) ⟨Nat.le_refl _, Nat.le_refl _⟩ (fun x14 h15 => ?_)
    obtain ⟨h12, h13⟩ := h15
    refine q_istore C [.ref (w.2.1 + a), zi v1, zi v2, zi x4, zi x10, zi x14, .null, .null, .null] dX12_roleOf_27 (n := 29) rfl rfl rfl ?_
    refine q_iload_n C dX12_roleOf_29 (n := 30) rfl rfl ?_
    refine q_iconst C dX12_roleOf_30 (n := 31) rfl ?_
    refine q_iadd C dX12_roleOf_31 (n := 32) rfl (v := x4 + 1) rfl ?_
    refine q_istore C [.ref (w.2.1 + a), zi v1, zi v2, zi x4, zi x10, zi x14, zi (x4 + 1), .null, .null] dX12_roleOf_32 (n := 34) rfl rfl rfl ?_
    have L_21 : ∀ n22 : Nat, ∀ (u16 : Int), (-2147483648 ≤ u16 ∧ u16 ≤ 2147483647) → (0 ≤ u16 ∧ u16 ≤ x14) → (x4 + 1 ≤ u16) → (∀ q, x4 + 1 ≤ q → q < u16 → M (a + 4) (x10 + q) = 32) → (x14 - u16 + 1 ≤ (n22 : Int)) → zK w p e 4 0 0 s m args below meth c 9 T Po 34 [.ref (w.2.1 + a), .null, .null, .null, zi x10, zi x14, zi u16, .null, .null] [] (T, M, J, R) := by
      intro n22
      induction n22 with
      | zero =>
        intro u16 h17 h18 h19 h20 hm24
        exfalso
        omega
      | succ n22 ih23 =>
        intro u16 h17 h18 h19 h20 hm24
        refine q_iload C dX12_roleOf_34 (n := 36) rfl rfl ?_
        refine q_iload C dX12_roleOf_36 (n := 38) rfl rfl ?_
        have J_26 : (u16 = x14 ∨ M (a + 4) (x10 + u16) ≠ 32) → zK w p e 4 0 0 s m args below meth c 9 T Po 62 [.ref (w.2.1 + a), .null, .null, .null, zi x10, zi x14, zi u16, .null, .null] [] (T, M, J, R) := by
          intro h25
          refine q_iload C dX12_roleOf_62 (n := 64) rfl rfl ?_
          refine q_istore C [.ref (w.2.1 + a), .null, .null, .null, zi x10, zi x14, zi u16, zi u16, .null] dX12_roleOf_64 (n := 66) rfl rfl rfl ?_
          have L_31 : ∀ n32 : Nat, ∀ (u27 : Int), (-2147483648 ≤ u27 ∧ u27 ≤ 2147483647) → (u16 ≤ u27 ∧ u27 ≤ x14) → (∀ q, u16 ≤ q → q < u27 → zWd (M (a + 4) (x10 + q)) = 1) → (x14 - u27 + 1 ≤ (n32 : Int)) → zK w p e 4 0 0 s m args below meth c 9 T Po 66 [.ref (w.2.1 + a), .null, .null, .null, zi x10, zi x14, zi u16, zi u27, .null] [] (T, M, J, R) := by
            intro n32
            induction n32 with
            | zero =>
              intro u27 h28 h29 h30 hm34
              exfalso
              omega
            | succ n32 ih33 =>
              intro u27 h28 h29 h30 hm34
              refine q_iload C dX12_roleOf_66 (n := 68) rfl rfl ?_
              refine q_iload C dX12_roleOf_68 (n := 70) rfl rfl ?_
              have J_36 : (u27 = x14 ∨ zWd (M (a + 4) (x10 + u27)) = 0) → zK w p e 4 0 0 s m args below meth c 9 T Po 111 [.ref (w.2.1 + a), .null, .null, .null, zi x10, .null, zi u16, zi u27, .null] [] (T, M, J, R) := by
                intro h35
                refine q_aload_n C dX12_roleOf_111 (n := 112) rfl rfl ?_
                refine q_aload_n C dX12_roleOf_112 (n := 113) rfl rfl ?_
                refine q_getR C dX12_roleOf_113 (n := 116) rfl f_X12_24 (zM0 h0) (hF _ _ _ (zM13 h0)) ?_
                refine q_iload C dX12_roleOf_116 (n := 118) rfl rfl ?_
                refine q_iload C dX12_roleOf_118 (n := 120) rfl rfl ?_
                refine q_iadd C dX12_roleOf_120 (n := 121) rfl (v := x10 + u16) rfl ?_
                refine q_iload C dX12_roleOf_121 (n := 123) rfl rfl ?_
                refine q_iload C dX12_roleOf_123 (n := 125) rfl rfl ?_
                refine q_isub C dX12_roleOf_125 (n := 126) rfl (v := u27 - u16) rfl ?_
                refine q_callVp C dX12_roleOf_126 (n := 129) rfl m_X12_333 v_yX12_wordIn (zM0 h0) ⟨by decide, rfl⟩ (c_X12_wordIn_e (w := w) (J := J) hI hF h0 (zM14 h0) (zM15 h0) (x10 + u16) (u27 - u16) (by omega) (by omega)) (Nat.le_of_ble_eq_true rfl) rfl rfl (Nat.le_of_ble_eq_true rfl) ⟨Nat.le_refl _, Nat.le_refl _⟩ (fun x39 h40 => ?_)
                obtain ⟨h37, h38⟩ := h40
                refine q_istore C [.ref (w.2.1 + a), .null, .null, .null, zi x10, .null, zi u16, zi u27, zi x39] dX12_roleOf_129 (n := 131) rfl rfl rfl ?_
                refine q_iload C dX12_roleOf_131 (n := 133) rfl rfl ?_
                refine q_iconst C dX12_roleOf_133 (n := 134) rfl ?_
                refine q_icmp_eq C 149 dX12_roleOf_134 (n := 137) rfl rfl (by omega) (fun h41 => ?_) (fun h41 => ?_)
                · refine q_iconst C dX12_roleOf_149 (n := 150) rfl ?_
                  refine q_goto C 187 dX12_roleOf_150 rfl ?_
                  exact q_iret C dX12_roleOf_187 ⟨rfl, rfl⟩ (by rw [hPo]; exact ⟨1, rfl, rfl, by omega, (by have hq9 := h3; rw [← (show (x10 : Int) = 400 * v1 + zSum (M (a + 2)) (8 + 40 * v1) (v2).toNat by omega), ← (show (x14 : Int) = M (a + 2) (8 + 40 * v1 + v2) by omega)] at hq9 ⊢; exact zRole.w hq9 (by omega) (fun q q0 q1 => h20 q q0 (by omega)) (by omega) (fun q q0 q1 => h30 q q0 (by omega)) (by omega) (by omega) h38 (by omega))⟩)
                · refine q_iload C dX12_roleOf_137 (n := 139) rfl rfl ?_
                  refine q_iconst C dX12_roleOf_139 (n := 140) rfl ?_
                  refine q_icmp_eq C 149 dX12_roleOf_140 (n := 143) rfl rfl (by omega) (fun h42 => ?_) (fun h42 => ?_)
                  · refine q_iconst C dX12_roleOf_149 (n := 150) rfl ?_
                    refine q_goto C 187 dX12_roleOf_150 rfl ?_
                    exact q_iret C dX12_roleOf_187 ⟨rfl, rfl⟩ (by rw [hPo]; exact ⟨1, rfl, rfl, by omega, (by have hq9 := h3; rw [← (show (x10 : Int) = 400 * v1 + zSum (M (a + 2)) (8 + 40 * v1) (v2).toNat by omega), ← (show (x14 : Int) = M (a + 2) (8 + 40 * v1 + v2) by omega)] at hq9 ⊢; exact zRole.w hq9 (by omega) (fun q q0 q1 => h20 q q0 (by omega)) (by omega) (fun q q0 q1 => h30 q q0 (by omega)) (by omega) (by omega) h38 (by omega))⟩)
                  · refine q_iload C dX12_roleOf_143 (n := 145) rfl rfl ?_
                    refine q_iconst C dX12_roleOf_145 (n := 146) rfl ?_
                    refine q_icmp_ne C 153 dX12_roleOf_146 (n := 149) rfl rfl (by omega) (fun h43 => ?_) (fun h43 => ?_)
                    · refine q_iload C dX12_roleOf_153 (n := 155) rfl rfl ?_
                      refine q_bipush C dX12_roleOf_155 (n := 157) rfl (x := 6) (by decide) ?_
                      refine q_icmp_ne C 164 dX12_roleOf_157 (n := 160) rfl rfl (by omega) (fun h44 => ?_) (fun h44 => ?_)
                      · refine q_iload C dX12_roleOf_164 (n := 166) rfl rfl ?_
                        refine q_bipush C dX12_roleOf_166 (n := 168) rfl (x := 7) (by decide) ?_
                        refine q_icmp_ne C 175 dX12_roleOf_168 (n := 171) rfl rfl (by omega) (fun h45 => ?_) (fun h45 => ?_)
                        · refine q_iload C dX12_roleOf_175 (n := 177) rfl rfl ?_
                          refine q_bipush C dX12_roleOf_177 (n := 179) rfl (x := 8) (by decide) ?_
                          refine q_icmp_ne C 186 dX12_roleOf_179 (n := 182) rfl rfl (by omega) (fun h46 => ?_) (fun h46 => ?_)
                          · refine q_iconst C dX12_roleOf_186 (n := 187) rfl ?_
                            exact q_iret C dX12_roleOf_187 ⟨rfl, rfl⟩ (by rw [hPo]; exact ⟨0, rfl, rfl, by omega, (by have hq9 := h3; rw [← (show (x10 : Int) = 400 * v1 + zSum (M (a + 2)) (8 + 40 * v1) (v2).toNat by omega), ← (show (x14 : Int) = M (a + 2) (8 + 40 * v1 + v2) by omega)] at hq9 ⊢; exact zRole.w hq9 (by omega) (fun q q0 q1 => h20 q q0 (by omega)) (by omega) (fun q q0 q1 => h30 q q0 (by omega)) (by omega) (by omega) h38 (by omega))⟩)
                          · refine q_iconst C dX12_roleOf_182 (n := 183) rfl ?_
                            refine q_goto C 187 dX12_roleOf_183 rfl ?_
                            exact q_iret C dX12_roleOf_187 ⟨rfl, rfl⟩ (by rw [hPo]; exact ⟨4, rfl, rfl, by omega, (by have hq9 := h3; rw [← (show (x10 : Int) = 400 * v1 + zSum (M (a + 2)) (8 + 40 * v1) (v2).toNat by omega), ← (show (x14 : Int) = M (a + 2) (8 + 40 * v1 + v2) by omega)] at hq9 ⊢; exact zRole.w hq9 (by omega) (fun q q0 q1 => h20 q q0 (by omega)) (by omega) (fun q q0 q1 => h30 q q0 (by omega)) (by omega) (by omega) h38 (by omega))⟩)
                        · refine q_iconst C dX12_roleOf_171 (n := 172) rfl ?_
                          refine q_goto C 187 dX12_roleOf_172 rfl ?_
                          exact q_iret C dX12_roleOf_187 ⟨rfl, rfl⟩ (by rw [hPo]; exact ⟨3, rfl, rfl, by omega, (by have hq9 := h3; rw [← (show (x10 : Int) = 400 * v1 + zSum (M (a + 2)) (8 + 40 * v1) (v2).toNat by omega), ← (show (x14 : Int) = M (a + 2) (8 + 40 * v1 + v2) by omega)] at hq9 ⊢; exact zRole.w hq9 (by omega) (fun q q0 q1 => h20 q q0 (by omega)) (by omega) (fun q q0 q1 => h30 q q0 (by omega)) (by omega) (by omega) h38 (by omega))⟩)
                      · refine q_iconst C dX12_roleOf_160 (n := 161) rfl ?_
                        refine q_goto C 187 dX12_roleOf_161 rfl ?_
                        exact q_iret C dX12_roleOf_187 ⟨rfl, rfl⟩ (by rw [hPo]; exact ⟨2, rfl, rfl, by omega, (by have hq9 := h3; rw [← (show (x10 : Int) = 400 * v1 + zSum (M (a + 2)) (8 + 40 * v1) (v2).toNat by omega), ← (show (x14 : Int) = M (a + 2) (8 + 40 * v1 + v2) by omega)] at hq9 ⊢; exact zRole.w hq9 (by omega) (fun q q0 q1 => h20 q q0 (by omega)) (by omega) (fun q q0 q1 => h30 q q0 (by omega)) (by omega) (by omega) h38 (by omega))⟩)
                    · refine q_iconst C dX12_roleOf_149 (n := 150) rfl ?_
                      refine q_goto C 187 dX12_roleOf_150 rfl ?_
                      exact q_iret C dX12_roleOf_187 ⟨rfl, rfl⟩ (by rw [hPo]; exact ⟨1, rfl, rfl, by omega, (by have hq9 := h3; rw [← (show (x10 : Int) = 400 * v1 + zSum (M (a + 2)) (8 + 40 * v1) (v2).toNat by omega), ← (show (x14 : Int) = M (a + 2) (8 + 40 * v1 + v2) by omega)] at hq9 ⊢; exact zRole.w hq9 (by omega) (fun q q0 q1 => h20 q q0 (by omega)) (by omega) (fun q q0 q1 => h30 q q0 (by omega)) (by omega) (by omega) h38 (by omega))⟩)
              refine q_icmp_ge C 111 dX12_roleOf_70 (n := 73) rfl rfl (by omega) (fun h47 => ?_) (fun h47 => ?_)
              · exact zK.weak (J_36 (by have := zWd_i (M (a + 4) (x10 + u27)); omega)) (zwk_c (zwk_n (zwk_n (zwk_n (zwk_c (zwk_n (zwk_c (zwk_c (zwk_n zwk_e)))))))))
              · refine q_aload_n C dX12_roleOf_73 (n := 74) rfl rfl ?_
                refine q_getR C dX12_roleOf_74 (n := 77) rfl f_X12_24 (zM0 h0) (hF _ _ _ (zM13 h0)) ?_
                refine q_iload C dX12_roleOf_77 (n := 79) rfl rfl ?_
                refine q_iload C dX12_roleOf_79 (n := 81) rfl rfl ?_
                refine q_iadd C dX12_roleOf_81 (n := 82) rfl (v := x10 + u27) rfl ?_
                have g48 := zI.at hI ((zM15 h0) (x10 + u27))
                refine q_bald C dX12_roleOf_82 (n := 83) rfl (zM14 h0) (by omega) (v := M (a + 4) (x10 + u27)) rfl ?_
                refine q_callSp C dX12_roleOf_83 (n := 86) rfl m_X12_304 s_yX12_isStart (c_X12_isStart_e (w := w) (J := J) hI hF (M (a + 4) (x10 + u27)) (by omega)) (Nat.le_of_ble_eq_true rfl) rfl rfl (Nat.le_of_ble_eq_true rfl) ⟨Nat.le_refl _, Nat.le_refl _⟩ (fun x51 h52 => ?_)
                obtain ⟨h49, h50⟩ := h52
                have J_54 : (zWd (M (a + 4) (x10 + u27)) = 1) → zK w p e 4 0 0 s m args below meth c 9 T Po 105 [.ref (w.2.1 + a), .null, .null, .null, zi x10, zi x14, zi u16, zi u27, .null] [] (T, M, J, R) := by
                  intro h53
                  refine q_iinc C [.ref (w.2.1 + a), .null, .null, .null, zi x10, zi x14, zi u16, zi (u27 + 1), .null] dX12_roleOf_105 (n := 108) rfl rfl rfl rfl ?_
                  refine q_goto C 66 dX12_roleOf_108 rfl ?_
                  exact zK.weak (ih33 (u27 + 1) (by omega) (by omega) (fun q q0 q1 => (Decidable.em (q = u27)).elim (fun z => by rw [z]; exact h53) (fun z => h30 q q0 (by omega))) (by omega)) (zwk_c (zwk_n (zwk_n (zwk_n (zwk_c (zwk_c (zwk_c (zwk_c (zwk_n zwk_e)))))))))
                refine q_if_ne C 105 dX12_roleOf_86 (n := 89) rfl rfl (by omega) (fun h55 => ?_) (fun h55 => ?_)
                · exact zK.weak (J_54 (by have := zWd_i (M (a + 4) (x10 + u27)); omega)) (zwk_c (zwk_n (zwk_n (zwk_n (zwk_c (zwk_c (zwk_c (zwk_c (zwk_n zwk_e)))))))))
                · refine q_aload_n C dX12_roleOf_89 (n := 90) rfl rfl ?_
                  refine q_getR C dX12_roleOf_90 (n := 93) rfl f_X12_24 (zM0 h0) (hF _ _ _ (zM13 h0)) ?_
                  refine q_iload C dX12_roleOf_93 (n := 95) rfl rfl ?_
                  refine q_iload C dX12_roleOf_95 (n := 97) rfl rfl ?_
                  refine q_iadd C dX12_roleOf_97 (n := 98) rfl (v := x10 + u27) rfl ?_
                  refine q_bald C dX12_roleOf_98 (n := 99) rfl (zM14 h0) (by omega) (v := M (a + 4) (x10 + u27)) rfl ?_
                  refine q_callSp C dX12_roleOf_99 (n := 102) rfl m_X12_307 s_yX12_isDigit (c_X12_isDigit_e (w := w) (J := J) hI hF (M (a + 4) (x10 + u27)) (by omega)) (Nat.le_of_ble_eq_true rfl) rfl rfl (Nat.le_of_ble_eq_true rfl) ⟨Nat.le_refl _, Nat.le_refl _⟩ (fun x59 h60 => ?_)
                  obtain ⟨h56, h57, h58⟩ := h60
                  refine q_if_eq C 111 dX12_roleOf_102 (n := 105) rfl rfl (by omega) (fun h61 => ?_) (fun h61 => ?_)
                  · exact zK.weak (J_36 (by have := zWd_i (M (a + 4) (x10 + u27)); omega)) (zwk_c (zwk_n (zwk_n (zwk_n (zwk_c (zwk_n (zwk_c (zwk_c (zwk_n zwk_e)))))))))
                  · exact zK.weak (J_54 (by have := zWd_i (M (a + 4) (x10 + u27)); omega)) (zwk_c (zwk_n (zwk_n (zwk_n (zwk_c (zwk_c (zwk_c (zwk_c (zwk_n zwk_e)))))))))
          exact zK.weak (L_31 _ u16 (by omega) (by omega) (fun q q0 q1 => by omega) (Int.self_le_toNat _)) (zwk_c (zwk_n (zwk_n (zwk_n (zwk_c (zwk_c (zwk_c (zwk_c (zwk_n zwk_e)))))))))
        refine q_icmp_ge C 62 dX12_roleOf_38 (n := 41) rfl rfl (by omega) (fun h62 => ?_) (fun h62 => ?_)
        · exact zK.weak (J_26 (by omega)) (zwk_c (zwk_n (zwk_n (zwk_n (zwk_c (zwk_c (zwk_c (zwk_n (zwk_n zwk_e)))))))))
        · refine q_aload_n C dX12_roleOf_41 (n := 42) rfl rfl ?_
          refine q_getR C dX12_roleOf_42 (n := 45) rfl f_X12_24 (zM0 h0) (hF _ _ _ (zM13 h0)) ?_
          refine q_iload C dX12_roleOf_45 (n := 47) rfl rfl ?_
          refine q_iload C dX12_roleOf_47 (n := 49) rfl rfl ?_
          refine q_iadd C dX12_roleOf_49 (n := 50) rfl (v := x10 + u16) rfl ?_
          have g63 := zI.at hI ((zM15 h0) (x10 + u16))
          refine q_bald C dX12_roleOf_50 (n := 51) rfl (zM14 h0) (by omega) (v := M (a + 4) (x10 + u16)) rfl ?_
          refine q_bipush C dX12_roleOf_51 (n := 53) rfl (x := 32) (by decide) ?_
          refine q_icmp_ne C 62 dX12_roleOf_53 (n := 56) rfl rfl (by omega) (fun h64 => ?_) (fun h64 => ?_)
          · exact zK.weak (J_26 (by omega)) (zwk_c (zwk_n (zwk_n (zwk_n (zwk_c (zwk_c (zwk_c (zwk_n (zwk_n zwk_e)))))))))
          · refine q_iinc C [.ref (w.2.1 + a), .null, .null, .null, zi x10, zi x14, zi (u16 + 1), .null, .null] dX12_roleOf_56 (n := 59) rfl rfl rfl rfl ?_
            refine q_goto C 34 dX12_roleOf_59 rfl ?_
            exact zK.weak (ih23 (u16 + 1) (by omega) (by omega) (by omega) (fun q q0 q1 => (Decidable.em (q = u16)).elim (fun z => by rw [z]; omega) (fun z => h20 q q0 (by omega))) (by omega)) (zwk_c (zwk_n (zwk_n (zwk_n (zwk_c (zwk_c (zwk_c (zwk_n (zwk_n zwk_e)))))))))
    exact zK.weak (L_21 _ (x4 + 1) (by omega) (by omega) (by omega) (fun q q0 q1 => by omega) (Int.self_le_toNat _)) (zwk_c (zwk_n (zwk_n (zwk_n (zwk_c (zwk_c (zwk_c (zwk_n (zwk_n zwk_e)))))))))
  · refine q_iconst C dX12_roleOf_11 (n := 12) rfl ?_
    exact q_iret C dX12_roleOf_12 ⟨rfl, rfl⟩ (by rw [hPo]; exact ⟨0, rfl, rfl, by omega, (zRole.hn h3 (by omega))⟩)
theorem c_X12_behindOf_e {w : zWp} {T : zTl} {M : zMm} {J : zJm} {R : zRm'} {G : zGt} {F : zRm'} {a : Nat} {W : Int → Int} (hI : zI G M) (hF : zF F R) (h0 : zModel T F G a) (v1 : Int) (v2 : Int) (p1 : zFi M a) (p2 : 0 ≤ v1 ∧ v1 ≤ 3) (p3 : 0 ≤ v2 ∧ v2 < M (a + 2) (4 + v1) ∧ v2 ≤ 39) (p4 : ∀ j, 0 ≤ j → j < M (a + 2) (4 + v1) → zRole (zLb (M (a + 4)) (400 * v1 + zSum (M (a + 2)) (8 + 40 * v1) (j).toNat) (M (a + 2) (8 + 40 * v1 + j))) (M (a + 2) (8 + 40 * v1 + j)) (W j)) : zCt w 5 0 0 yX12_behindOf cX12_behindOf 6 (some .int) [.ref (w.2.1 + a), zi v1, zi v2] (T, M, J, R) (zPp T M J R (fun x => (-1 ≤ x ∧ x ≤ 39 ∧ x < M (a + 2) (4 + v1)) ∧ (W v2 = 4 ∧ x = -1 ∨ W v2 ≠ 4 ∧ zBh W (M (a + 2) (4 + v1)) v2 x))) := by
  refine zCt.of rfl (Nat.le_of_ble_eq_true rfl) ?_
  intro p e s m args below meth c C
  obtain ⟨Po, hPo⟩ : ∃ Po, Po = zPp T M J R (fun x => (-1 ≤ x ∧ x ≤ 39 ∧ x < M (a + 2) (4 + v1)) ∧ (W v2 = 4 ∧ x = -1 ∨ W v2 ≠ 4 ∧ zBh W (M (a + 2) (4 + v1)) v2 x)) := ⟨_, rfl⟩
  rw [← hPo]
  show zK w p e 5 0 0 s m args below meth c 6 T Po 0 [.ref (w.2.1 + a), zi v1, zi v2, .null, .null, .null] [] (T, M, J, R)
  refine q_aload_n C dX12_behindOf_0 (n := 1) rfl rfl ?_
  refine q_iload_n C dX12_behindOf_1 (n := 2) rfl rfl ?_
  refine q_iload_n C dX12_behindOf_2 (n := 3) rfl rfl ?_
  refine q_callVp C dX12_behindOf_3 (n := 6) rfl m_X12_337 v_yX12_roleOf (zM0 h0) ⟨by decide, rfl⟩ (c_X12_roleOf_e (w := w) (J := J) hI hF h0 v1 v2 p1 (by omega) (by omega)) (Nat.le_of_ble_eq_true rfl) rfl rfl (Nat.le_of_ble_eq_true rfl) ⟨Nat.le_refl _, Nat.le_refl _⟩ (fun x3 h4 => ?_)
  obtain ⟨h1, h2⟩ := h4
  have hw5 := zRole.eq h2 (p4 v2 (by omega) (by omega))
  refine q_iconst C dX12_behindOf_6 (n := 7) rfl ?_
  refine q_icmp_ne C 12 dX12_behindOf_7 (n := 10) rfl rfl (by omega) (fun h6 => ?_) (fun h6 => ?_)
  · refine q_iconst C dX12_behindOf_12 (n := 13) rfl ?_
    refine q_istore_n C [.ref (w.2.1 + a), zi v1, zi v2, zi 0, .null, .null] dX12_behindOf_13 (n := 14) rfl rfl rfl ?_
    have gz : zDe W v2 (v2 + 1 - (v2 + 1)).toNat = 0 := by rw [show v2 + 1 - (v2 + 1) = (0 : Int) by omega]; rfl
    refine q_iload_n C dX12_behindOf_14 (n := 15) rfl rfl ?_
    refine q_iconst C dX12_behindOf_15 (n := 16) rfl ?_
    refine q_iadd C dX12_behindOf_16 (n := 17) rfl (v := v2 + 1) rfl ?_
    refine q_istore C [.ref (w.2.1 + a), zi v1, zi v2, zi 0, zi (v2 + 1), .null] dX12_behindOf_17 (n := 19) rfl rfl rfl ?_
    have L_16 : ∀ n17 : Nat, ∀ (u7 : Int) (u8 : Int), (-2147483648 ≤ u7 ∧ u7 ≤ 2147483647) → (-2147483648 ≤ u8 ∧ u8 ≤ 2147483647) → (0 ≤ u8 ∧ u8 ≤ 40) → (-u8 ≤ u7 ∧ u7 ≤ u8) → (u7 = zDe W v2 (u8 - (v2 + 1)).toNat) → (v2 + 1 ≤ u8) → (∀ i, v2 < i → i < u8 → ¬ (2 ≤ W i ∧ zDe W v2 (i - (v2 + 1)).toNat = 0)) → (40 - u8 + 1 ≤ (n17 : Int)) → zK w p e 5 0 0 s m args below meth c 6 T Po 19 [.ref (w.2.1 + a), zi v1, .null, zi u7, zi u8, .null] [] (T, M, J, R) := by
      intro n17
      induction n17 with
      | zero =>
        intro u7 u8 h9 h10 h11 h12 h13 h14 h15 hm19
        exfalso
        omega
      | succ n17 ih18 =>
        intro u7 u8 h9 h10 h11 h12 h13 h14 h15 hm19
        refine q_iload C dX12_behindOf_19 (n := 21) rfl rfl ?_
        refine q_aload_n C dX12_behindOf_21 (n := 22) rfl rfl ?_
        refine q_iload_n C dX12_behindOf_22 (n := 23) rfl rfl ?_
        refine q_callVp C dX12_behindOf_23 (n := 26) rfl m_X12_285 v_yX12_linesOf (zM0 h0) ⟨by decide, rfl⟩ (c_X12_linesOf (w := w) (J := J) hI hF h0 v1 (by omega)) (Nat.le_of_ble_eq_true rfl) rfl rfl (Nat.le_of_ble_eq_true rfl) ⟨Nat.le_refl _, Nat.le_refl _⟩ (fun x22 h23 => ?_)
        obtain ⟨h20, h21⟩ := h23
        refine q_icmp_ge C 81 dX12_behindOf_26 (n := 29) rfl rfl (by omega) (fun h24 => ?_) (fun h24 => ?_)
        · refine q_iconst C dX12_behindOf_81 (n := 82) rfl ?_
          exact q_iret C dX12_behindOf_82 ⟨rfl, rfl⟩ (by rw [hPo]; exact ⟨(-1), rfl, rfl, by omega, (Or.inr ⟨by omega, Or.inl ⟨rfl, fun i i0 i1 => h15 i i0 (by omega)⟩⟩)⟩)
        · have gd := zDe_i (W := W) (l := v2) (i := u8) (by omega)
          refine q_aload_n C dX12_behindOf_29 (n := 30) rfl rfl ?_
          refine q_iload_n C dX12_behindOf_30 (n := 31) rfl rfl ?_
          refine q_iload C dX12_behindOf_31 (n := 33) rfl rfl ?_
          refine q_callVp C dX12_behindOf_33 (n := 36) rfl m_X12_337 v_yX12_roleOf (zM0 h0) ⟨by decide, rfl⟩ (c_X12_roleOf_e (w := w) (J := J) hI hF h0 v1 u8 p1 (by omega) (by omega)) (Nat.le_of_ble_eq_true rfl) rfl rfl (Nat.le_of_ble_eq_true rfl) ⟨Nat.le_refl _, Nat.le_refl _⟩ (fun x27 h28 => ?_)
          obtain ⟨h25, h26⟩ := h28
          have hw29 := zRole.eq h26 (p4 u8 (by omega) (by omega))
          refine q_istore C [.ref (w.2.1 + a), zi v1, .null, zi u7, zi u8, zi x27] dX12_behindOf_36 (n := 38) rfl rfl rfl ?_
          refine q_iload_n C dX12_behindOf_38 (n := 39) rfl rfl ?_
          have J_31 : (¬ (2 ≤ W u8 ∧ zDe W v2 (u8 - (v2 + 1)).toNat = 0)) → zK w p e 5 0 0 s m args below meth c 6 T Po 51 [.ref (w.2.1 + a), zi v1, .null, zi u7, zi u8, zi x27] [] (T, M, J, R) := by
            intro h30
            refine q_iload_n C dX12_behindOf_51 (n := 52) rfl rfl ?_
            refine q_iload C dX12_behindOf_52 (n := 54) rfl rfl ?_
            refine q_iconst C dX12_behindOf_54 (n := 55) rfl ?_
            have J_36 : ∀ (u32 : Int), (-2147483648 ≤ u32 ∧ u32 ≤ 2147483647) → (-1 ≤ u32 ∧ u32 ≤ 1) → (u32 = 1 ∧ W u8 = 1 ∨ u32 = -1 ∧ W u8 = 4 ∨ u32 = 0 ∧ W u8 ≠ 1 ∧ W u8 ≠ 4) → zK w p e 5 0 0 s m args below meth c 6 T Po 73 [.ref (w.2.1 + a), zi v1, .null, .null, zi u8, .null] [zi u32, zi u7] (T, M, J, R) := by
              intro u32 h33 h34 h35
              refine q_iadd C dX12_behindOf_73 (n := 74) rfl (v := u7 + u32) rfl ?_
              refine q_istore_n C [.ref (w.2.1 + a), zi v1, .null, zi (u7 + u32), zi u8, .null] dX12_behindOf_74 (n := 75) rfl rfl rfl ?_
              refine q_iinc C [.ref (w.2.1 + a), zi v1, .null, zi (u7 + u32), zi (u8 + 1), .null] dX12_behindOf_75 (n := 78) rfl rfl rfl rfl ?_
              refine q_goto C 19 dX12_behindOf_78 rfl ?_
              exact zK.weak (ih18 (u7 + u32) (u8 + 1) (by omega) (by omega) (by omega) (by omega) (by omega) (by omega) (fun i i0 i1 => (Decidable.em (i = u8)).elim (fun z => by rw [z]; exact h30) (fun z => h15 i i0 (by omega))) (by omega)) (zwk_c (zwk_c (zwk_n (zwk_c (zwk_c (zwk_n zwk_e))))))
            refine q_icmp_ne C 62 dX12_behindOf_55 (n := 58) rfl rfl (by omega) (fun h37 => ?_) (fun h37 => ?_)
            · refine q_iload C dX12_behindOf_62 (n := 64) rfl rfl ?_
              refine q_iconst C dX12_behindOf_64 (n := 65) rfl ?_
              refine q_icmp_ne C 72 dX12_behindOf_65 (n := 68) rfl rfl (by omega) (fun h38 => ?_) (fun h38 => ?_)
              · refine q_iconst C dX12_behindOf_72 (n := 73) rfl ?_
                exact zK.weak (J_36 0 (by omega) (by omega) (by omega)) (zwk_c (zwk_c (zwk_n (zwk_n (zwk_c (zwk_n zwk_e))))))
              · refine q_iconst C dX12_behindOf_68 (n := 69) rfl ?_
                refine q_goto C 73 dX12_behindOf_69 rfl ?_
                exact zK.weak (J_36 (-1) (by omega) (by omega) (by omega)) (zwk_c (zwk_c (zwk_n (zwk_n (zwk_c (zwk_n zwk_e))))))
            · refine q_iconst C dX12_behindOf_58 (n := 59) rfl ?_
              refine q_goto C 73 dX12_behindOf_59 rfl ?_
              exact zK.weak (J_36 1 (by omega) (by omega) (by omega)) (zwk_c (zwk_c (zwk_n (zwk_n (zwk_c (zwk_n zwk_e))))))
          refine q_if_ne C 51 dX12_behindOf_39 (n := 42) rfl rfl (by omega) (fun h39 => ?_) (fun h39 => ?_)
          · exact zK.weak (J_31 (by omega)) (zwk_c (zwk_c (zwk_n (zwk_c (zwk_c (zwk_c zwk_e))))))
          · refine q_iload C dX12_behindOf_42 (n := 44) rfl rfl ?_
            refine q_iconst C dX12_behindOf_44 (n := 45) rfl ?_
            refine q_icmp_le C 51 dX12_behindOf_45 (n := 48) rfl rfl (by omega) (fun h40 => ?_) (fun h40 => ?_)
            · exact zK.weak (J_31 (by omega)) (zwk_c (zwk_c (zwk_n (zwk_c (zwk_c (zwk_c zwk_e))))))
            · refine q_iload C dX12_behindOf_48 (n := 50) rfl rfl ?_
              exact q_iret C dX12_behindOf_50 ⟨rfl, rfl⟩ (by rw [hPo]; exact ⟨u8, rfl, rfl, by omega, (Or.inr ⟨by omega, Or.inr ⟨⟨by omega, by omega⟩, by omega, by omega, h15⟩⟩)⟩)
    exact zK.weak (L_16 _ 0 (v2 + 1) (by omega) (by omega) (by omega) (by omega) (by omega) (by omega) (zBh.start (by omega)) (Int.self_le_toNat _)) (zwk_c (zwk_c (zwk_n (zwk_c (zwk_c (zwk_n zwk_e))))))
  · refine q_iconst C dX12_behindOf_10 (n := 11) rfl ?_
    exact q_iret C dX12_behindOf_11 ⟨rfl, rfl⟩ (by rw [hPo]; exact ⟨(-1), rfl, rfl, by omega, (Or.inl ⟨by omega, rfl⟩)⟩)
theorem c_X12_openAt_e {w : zWp} {T : zTl} {M : zMm} {J : zJm} {R : zRm'} {G : zGt} {F : zRm'} {a : Nat} {W : Int → Int} (hI : zI G M) (hF : zF F R) (h0 : zModel T F G a) (v1 : Int) (v2 : Int) (p1 : zFi M a) (p2 : 0 ≤ v1 ∧ v1 ≤ 3) (p3 : 0 ≤ v2 ∧ v2 < M (a + 2) (4 + v1) ∧ v2 ≤ 39) (p4 : ∀ j, 0 ≤ j → j < M (a + 2) (4 + v1) → zRole (zLb (M (a + 4)) (400 * v1 + zSum (M (a + 2)) (8 + 40 * v1) (j).toNat) (M (a + 2) (8 + 40 * v1 + j))) (M (a + 2) (8 + 40 * v1 + j)) (W j)) : zCt w 5 0 0 yX12_openAt cX12_openAt 6 (some .int) [.ref (w.2.1 + a), zi v1, zi v2] (T, M, J, R) (zPp T M J R (fun x => (0 ≤ x ∧ x ≤ 40) ∧ (x = zIw W v2.toNat))) := by
  refine zCt.of rfl (Nat.le_of_ble_eq_true rfl) ?_
  intro p e s m args below meth c C
  obtain ⟨Po, hPo⟩ : ∃ Po, Po = zPp T M J R (fun x => (0 ≤ x ∧ x ≤ 40) ∧ (x = zIw W v2.toNat)) := ⟨_, rfl⟩
  rw [← hPo]
  show zK w p e 5 0 0 s m args below meth c 6 T Po 0 [.ref (w.2.1 + a), zi v1, zi v2, .null, .null, .null] [] (T, M, J, R)
  have gz : zIw W (0 : Int).toNat = 0 := rfl
  refine q_iconst C dX12_openAt_0 (n := 1) rfl ?_
  refine q_istore_n C [.ref (w.2.1 + a), zi v1, zi v2, zi 0, .null, .null] dX12_openAt_1 (n := 2) rfl rfl rfl ?_
  refine q_iconst C dX12_openAt_2 (n := 3) rfl ?_
  refine q_istore C [.ref (w.2.1 + a), zi v1, zi v2, zi 0, zi 0, .null] dX12_openAt_3 (n := 5) rfl rfl rfl ?_
  have L_8 : ∀ n9 : Nat, ∀ (u1 : Int) (u2 : Int), (-2147483648 ≤ u1 ∧ u1 ≤ 2147483647) → (-2147483648 ≤ u2 ∧ u2 ≤ 2147483647) → (0 ≤ u2 ∧ u2 ≤ v2) → (0 ≤ u1 ∧ u1 ≤ u2) → (u1 = zIw W (u2 : Int).toNat) → (40 - u2 + 1 ≤ (n9 : Int)) → zK w p e 5 0 0 s m args below meth c 6 T Po 5 [.ref (w.2.1 + a), zi v1, zi v2, zi u1, zi u2, .null] [] (T, M, J, R) := by
    intro n9
    induction n9 with
    | zero =>
      intro u1 u2 h3 h4 h5 h6 h7 hm11
      exfalso
      omega
    | succ n9 ih10 =>
      intro u1 u2 h3 h4 h5 h6 h7 hm11
      refine q_iload C dX12_openAt_5 (n := 7) rfl rfl ?_
      refine q_iload_n C dX12_openAt_7 (n := 8) rfl rfl ?_
      refine q_icmp_ge C 54 dX12_openAt_8 (n := 11) rfl rfl (by omega) (fun h12 => ?_) (fun h12 => ?_)
      · have ge : zIw W (u2 : Int).toNat = zIw W v2.toNat := by rw [show (u2 : Int) = v2 by omega]
        refine q_iload_n C dX12_openAt_54 (n := 55) rfl rfl ?_
        exact q_iret C dX12_openAt_55 ⟨rfl, rfl⟩ (by rw [hPo]; exact ⟨u1, rfl, rfl, by omega, by omega⟩)
      · have gi := zIw_i (W := W) (i := u2) (by omega)
        refine q_aload_n C dX12_openAt_11 (n := 12) rfl rfl ?_
        refine q_iload_n C dX12_openAt_12 (n := 13) rfl rfl ?_
        refine q_iload C dX12_openAt_13 (n := 15) rfl rfl ?_
        refine q_callVp C dX12_openAt_15 (n := 18) rfl m_X12_337 v_yX12_roleOf (zM0 h0) ⟨by decide, rfl⟩ (c_X12_roleOf_e (w := w) (J := J) hI hF h0 v1 u2 p1 (by omega) (by omega)) (Nat.le_of_ble_eq_true rfl) rfl rfl (Nat.le_of_ble_eq_true rfl) ⟨Nat.le_refl _, Nat.le_refl _⟩ (fun x15 h16 => ?_)
        obtain ⟨h13, h14⟩ := h16
        have hw17 := zRole.eq h14 (p4 u2 (by omega) (by omega))
        refine q_istore C [.ref (w.2.1 + a), zi v1, zi v2, zi u1, zi u2, zi x15] dX12_openAt_18 (n := 20) rfl rfl rfl ?_
        refine q_iload_n C dX12_openAt_20 (n := 21) rfl rfl ?_
        refine q_iload C dX12_openAt_21 (n := 23) rfl rfl ?_
        refine q_iconst C dX12_openAt_23 (n := 24) rfl ?_
        have J_22 : ∀ (u18 : Int), (-2147483648 ≤ u18 ∧ u18 ≤ 2147483647) → (0 ≤ u1 + u18 ∧ u18 ≤ 1) → (u1 + u18 = zIw W (u2 + 1 : Int).toNat) → zK w p e 5 0 0 s m args below meth c 6 T Po 46 [.ref (w.2.1 + a), zi v1, zi v2, .null, zi u2, .null] [zi u18, zi u1] (T, M, J, R) := by
          intro u18 h19 h20 h21
          refine q_iadd C dX12_openAt_46 (n := 47) rfl (v := u1 + u18) rfl ?_
          refine q_istore_n C [.ref (w.2.1 + a), zi v1, zi v2, zi (u1 + u18), zi u2, .null] dX12_openAt_47 (n := 48) rfl rfl rfl ?_
          refine q_iinc C [.ref (w.2.1 + a), zi v1, zi v2, zi (u1 + u18), zi (u2 + 1), .null] dX12_openAt_48 (n := 51) rfl rfl rfl rfl ?_
          refine q_goto C 5 dX12_openAt_51 rfl ?_
          exact zK.weak (ih10 (u1 + u18) (u2 + 1) (by omega) (by omega) (by omega) (by omega) (by omega) (by omega)) (zwk_c (zwk_c (zwk_c (zwk_c (zwk_c (zwk_n zwk_e))))))
        refine q_icmp_ne C 31 dX12_openAt_24 (n := 27) rfl rfl (by omega) (fun h23 => ?_) (fun h23 => ?_)
        · refine q_iload C dX12_openAt_31 (n := 33) rfl rfl ?_
          refine q_iconst C dX12_openAt_33 (n := 34) rfl ?_
          have J_25 : (W u2 ≠ 1 ∧ (W u2 ≠ 4 ∨ u1 ≤ 0)) → zK w p e 5 0 0 s m args below meth c 6 T Po 45 [.ref (w.2.1 + a), zi v1, zi v2, .null, zi u2, .null] [zi u1] (T, M, J, R) := by
            intro h24
            refine q_iconst C dX12_openAt_45 (n := 46) rfl ?_
            exact zK.weak (J_22 0 (by omega) (by omega) (by omega)) (zwk_c (zwk_c (zwk_c (zwk_n (zwk_c (zwk_n zwk_e))))))
          refine q_icmp_ne C 45 dX12_openAt_34 (n := 37) rfl rfl (by omega) (fun h26 => ?_) (fun h26 => ?_)
          · exact zK.weak (J_25 (by omega)) (zwk_c (zwk_c (zwk_c (zwk_n (zwk_c (zwk_n zwk_e))))))
          · refine q_iload_n C dX12_openAt_37 (n := 38) rfl rfl ?_
            refine q_if_le C 45 dX12_openAt_38 (n := 41) rfl rfl (by omega) (fun h27 => ?_) (fun h27 => ?_)
            · exact zK.weak (J_25 (by omega)) (zwk_c (zwk_c (zwk_c (zwk_n (zwk_c (zwk_n zwk_e))))))
            · refine q_iconst C dX12_openAt_41 (n := 42) rfl ?_
              refine q_goto C 46 dX12_openAt_42 rfl ?_
              exact zK.weak (J_22 (-1) (by omega) (by omega) (by omega)) (zwk_c (zwk_c (zwk_c (zwk_n (zwk_c (zwk_n zwk_e))))))
        · refine q_iconst C dX12_openAt_27 (n := 28) rfl ?_
          refine q_goto C 46 dX12_openAt_28 rfl ?_
          exact zK.weak (J_22 1 (by omega) (by omega) (by omega)) (zwk_c (zwk_c (zwk_c (zwk_n (zwk_c (zwk_n zwk_e))))))
  exact zK.weak (L_8 _ 0 0 (by omega) (by omega) (by omega) (by omega) (by omega) (Int.self_le_toNat _)) (zwk_c (zwk_c (zwk_c (zwk_c (zwk_c (zwk_n zwk_e))))))
theorem c_X12_nextOf_v {w : zWp} {T : zTl} {M : zMm} {J : zJm} {R : zRm'} {G : zGt} {F : zRm'} {a : Nat} {W : Int → Int} (hI : zI G M) (hF : zF F R) (h0 : zModel T F G a) (v1 : Int) (v2 : Int) (p1 : zFi M a) (p2 : -2147483648 ≤ v1 ∧ v1 ≤ 2147483647) (p3 : -2147483648 ≤ v2 ∧ v2 ≤ 2147483647) (p4 : 0 ≤ v1 ∧ v1 ≤ 3 → ∀ j, 0 ≤ j → j < M (a + 2) (4 + v1) → zRole (zLb (M (a + 4)) (400 * v1 + zSum (M (a + 2)) (8 + 40 * v1) (j).toNat) (M (a + 2) (8 + 40 * v1 + j))) (M (a + 2) (8 + 40 * v1 + j)) (W j)) : zCt w 6 0 0 yX12_nextOf cX12_nextOf 4 (some .int) [.ref (w.2.1 + a), zi v1, zi v2] (T, M, J, R) (zPi T R G (fun x M2 => (zMd a [] [0] [] M M2) ∧ (((0 ≤ v1 ∧ v1 ≤ 3 ∧ M (a + 2) v1 = 1) ∧ 0 ≤ v2 ∧ v2 < M (a + 2) (4 + v1)) ∧ zNxw W (M (a + 2) (4 + v1)) v2 x ∨ ¬ ((0 ≤ v1 ∧ v1 ≤ 3 ∧ M (a + 2) v1 = 1) ∧ 0 ≤ v2 ∧ v2 < M (a + 2) (4 + v1)) ∧ x = -1))) := by
  refine zCt.of rfl (Nat.le_of_ble_eq_true rfl) ?_
  intro p e s m args below meth c C
  obtain ⟨Po, hPo⟩ : ∃ Po, Po = zPi T R G (fun x M2 => (zMd a [] [0] [] M M2) ∧ (((0 ≤ v1 ∧ v1 ≤ 3 ∧ M (a + 2) v1 = 1) ∧ 0 ≤ v2 ∧ v2 < M (a + 2) (4 + v1)) ∧ zNxw W (M (a + 2) (4 + v1)) v2 x ∨ ¬ ((0 ≤ v1 ∧ v1 ≤ 3 ∧ M (a + 2) v1 = 1) ∧ 0 ≤ v2 ∧ v2 < M (a + 2) (4 + v1)) ∧ x = -1)) := ⟨_, rfl⟩
  rw [← hPo]
  have hK0 : zMd a [] [0] [] M M := zMd.rf
  show zK w p e 6 0 0 s m args below meth c 4 T Po 0 [.ref (w.2.1 + a), zi v1, zi v2, .null] [] (T, M, J, R)
  refine q_aload_n C dX12_nextOf_0 (n := 1) rfl rfl ?_
  refine q_iconst C dX12_nextOf_1 (n := 2) rfl ?_
  refine q_putI C dX12_nextOf_2 (n := 5) rfl f_X12_1 (zM0 h0) ⟨rfl, rfl⟩ (fun M1 (e2 : M1 = zup M a 0 0) => ?_)
  have hI3 : zI G M1 := hI.put e2 (zM1 h0) rfl (by omega)
  have hK4 := hK0.upS e2 rfl
  refine q_aload_n C dX12_nextOf_5 (n := 6) rfl rfl ?_
  refine q_iload_n C dX12_nextOf_6 (n := 7) rfl rfl ?_
  refine q_iload_n C dX12_nextOf_7 (n := 8) rfl rfl ?_
  refine q_callVp C dX12_nextOf_8 (n := 11) rfl m_X12_324 v_yX12_isLine (zM0 h0) ⟨by decide, rfl⟩ (c_X12_isLine_e (w := w) (J := J) hI3 hF h0 v1 v2 (by omega) (by omega)) (Nat.le_of_ble_eq_true rfl) rfl rfl (Nat.le_of_ble_eq_true rfl) ⟨Nat.le_refl _, Nat.le_refl _⟩ (fun x8 h9 => ?_)
  obtain ⟨h5, h6, h7⟩ := h9
  have hz10 : M1 (a + 2) (4 + v1) = M (a + 2) (4 + v1) := (zup_p e2 (by omega) _)
  have hz11 : M1 (a + 2) v1 = M (a + 2) v1 := (zup_p e2 (by omega) _)
  refine q_if_ne C 16 dX12_nextOf_11 (n := 14) rfl rfl (by omega) (fun h12 => ?_) (fun h12 => ?_)
  · have hpw : ∀ j, 0 ≤ j → j < M1 (a + 2) (4 + v1) → zRole (zLb (M1 (a + 4)) (400 * v1 + zSum (M1 (a + 2)) (8 + 40 * v1) (j).toNat) (M1 (a + 2) (8 + 40 * v1 + j))) (M1 (a + 2) (8 + 40 * v1 + j)) (W j) := by
      rw [show M1 (a + 2) = M (a + 2) from funext (fun j => (zup_p e2 (by omega) _)), show M1 (a + 4) = M (a + 4) from funext (fun j => (zup_p e2 (by omega) _))]
      exact p4 (by omega)
    refine q_aload_n C dX12_nextOf_16 (n := 17) rfl rfl ?_
    refine q_iload_n C dX12_nextOf_17 (n := 18) rfl rfl ?_
    refine q_iload_n C dX12_nextOf_18 (n := 19) rfl rfl ?_
    have hp13 : zFi M1 a := p1.cg (fun j => (zup_p e2 (by omega) _))
    refine q_callVp C dX12_nextOf_19 (n := 22) rfl m_X12_337 v_yX12_roleOf (zM0 h0) ⟨by decide, rfl⟩ (c_X12_roleOf_e (w := w) (J := J) hI3 hF h0 v1 v2 hp13 (by omega) (by have hz14 : M1 (a + 2) (4 + v1) = M (a + 2) (4 + v1) := (zup_p e2 (by omega) _); omega)) (Nat.le_of_ble_eq_true rfl) rfl rfl (Nat.le_of_ble_eq_true rfl) ⟨Nat.le_refl _, Nat.le_refl _⟩ (fun x17 h18 => ?_)
    obtain ⟨h15, h16⟩ := h18
    have hz19 : M1 (a + 2) (8 + 40 * v1 + v2) = M (a + 2) (8 + 40 * v1 + v2) := (zup_p e2 (by omega) _)
    have hw20 := zRole.eq h16 (hpw v2 (by omega) (by omega))
    refine q_istore_n C [.ref (w.2.1 + a), zi v1, zi v2, zi x17] dX12_nextOf_22 (n := 23) rfl rfl rfl ?_
    refine q_iload_n C dX12_nextOf_23 (n := 24) rfl rfl ?_
    refine q_if_eq C 41 dX12_nextOf_24 (n := 27) rfl rfl (by omega) (fun h21 => ?_) (fun h21 => ?_)
    · refine q_iconst C dX12_nextOf_41 (n := 42) rfl ?_
      exact q_iret C dX12_nextOf_42 ⟨rfl, rfl⟩ (by rw [hPo]; exact ⟨(-1), M1, J, rfl, rfl, hI3, hK4, (Or.inl ⟨⟨⟨by omega, by omega, by omega⟩, by omega, by omega⟩, Or.inl ⟨by omega, rfl⟩⟩)⟩)
    · refine q_iload_n C dX12_nextOf_27 (n := 28) rfl rfl ?_
      refine q_iconst C dX12_nextOf_28 (n := 29) rfl ?_
      have J_23 : (W v2 ≠ 0 ∧ (W v2 = 1 ∨ 0 < zIw W v2.toNat)) → zK w p e 6 0 0 s m args below meth c 4 T Po 43 [.ref (w.2.1 + a), zi v1, zi v2, .null] [] (T, M1, J, R) := by
        intro h22
        refine q_aload_n C dX12_nextOf_43 (n := 44) rfl rfl ?_
        refine q_iload_n C dX12_nextOf_44 (n := 45) rfl rfl ?_
        refine q_iload_n C dX12_nextOf_45 (n := 46) rfl rfl ?_
        refine q_callVp C dX12_nextOf_46 (n := 49) rfl m_X12_343 v_yX12_behindOf (zM0 h0) ⟨by decide, rfl⟩ (c_X12_behindOf_e (w := w) (J := J) hI3 hF h0 v1 v2 hp13 (by omega) (by have hz24 : M1 (a + 2) (4 + v1) = M (a + 2) (4 + v1) := (zup_p e2 (by omega) _); omega) hpw) (Nat.le_of_ble_eq_true rfl) rfl rfl (Nat.le_of_ble_eq_true rfl) ⟨Nat.le_refl _, Nat.le_refl _⟩ (fun x27 h28 => ?_)
        obtain ⟨h25, h26⟩ := h28
        have hz29 : M1 (a + 2) (4 + v1) = M (a + 2) (4 + v1) := (zup_p e2 (by omega) _)
        exact q_iret C dX12_nextOf_49 ⟨rfl, rfl⟩ (by rw [hPo]; exact ⟨x27, M1, J, rfl, rfl, hI3, hK4, (Or.inl ⟨⟨⟨by omega, by omega, by omega⟩, by omega, by omega⟩, by rcases h26 with ⟨q1, q2⟩ | ⟨q1, q2⟩; exact Or.inl ⟨by omega, q2⟩; (rw [show M1 (a + 2) (4 + v1) = M (a + 2) (4 + v1) from (zup_p e2 (by omega) _)] at q2; exact Or.inr ⟨by omega, q2⟩)⟩)⟩)
      refine q_icmp_le C 43 dX12_nextOf_29 (n := 32) rfl rfl (by omega) (fun h30 => ?_) (fun h30 => ?_)
      · exact zK.weak (J_23 (by omega)) (zwk_c (zwk_c (zwk_c (zwk_n zwk_e))))
      · refine q_aload_n C dX12_nextOf_32 (n := 33) rfl rfl ?_
        refine q_iload_n C dX12_nextOf_33 (n := 34) rfl rfl ?_
        refine q_iload_n C dX12_nextOf_34 (n := 35) rfl rfl ?_
        refine q_callVp C dX12_nextOf_35 (n := 38) rfl m_X12_340 v_yX12_openAt (zM0 h0) ⟨by decide, rfl⟩ (c_X12_openAt_e (w := w) (J := J) hI3 hF h0 v1 v2 hp13 (by omega) (by have hz31 : M1 (a + 2) (4 + v1) = M (a + 2) (4 + v1) := (zup_p e2 (by omega) _); omega) hpw) (Nat.le_of_ble_eq_true rfl) rfl rfl (Nat.le_of_ble_eq_true rfl) ⟨Nat.le_refl _, Nat.le_refl _⟩ (fun x34 h35 => ?_)
        obtain ⟨h32, h33⟩ := h35
        refine q_if_ne C 43 dX12_nextOf_38 (n := 41) rfl rfl (by omega) (fun h36 => ?_) (fun h36 => ?_)
        · exact zK.weak (J_23 (by omega)) (zwk_c (zwk_c (zwk_c (zwk_n zwk_e))))
        · refine q_iconst C dX12_nextOf_41 (n := 42) rfl ?_
          exact q_iret C dX12_nextOf_42 ⟨rfl, rfl⟩ (by rw [hPo]; exact ⟨(-1), M1, J, rfl, rfl, hI3, hK4, (Or.inl ⟨⟨⟨by omega, by omega, by omega⟩, by omega, by omega⟩, Or.inl ⟨by omega, rfl⟩⟩)⟩)
  · refine q_iconst C dX12_nextOf_14 (n := 15) rfl ?_
    exact q_iret C dX12_nextOf_15 ⟨rfl, rfl⟩ (by rw [hPo]; exact ⟨(-1), M1, J, rfl, rfl, hI3, hK4, (Or.inr ⟨by omega, rfl⟩)⟩)
